public final class Promise10HeaderTest {
    private static final String[] SIX = {"a=1", "b=2", "c=3", "d=4", "e=5", "f=6"};
    private static final String[] NONE_SUCH = {
        "", "a", "=", "==", "=a", "abcdefg=1", "a=1234567", "A=1", "a1=1", "a=A", "a==", "a==1", "a=1=", "a=b=c",
        "a=b,c=d", "a,b", "a=1,", ",a=1", "a=-", "{=1", "`=1", "a=/", "a=:", "a:1", "all,a=1"};

    public static void main(String[] args) {
        Check check = new Check();
        check.sentence("The TAPE (which is empty then in any case)", Promise10HeaderTest::tapeIsEmpty);
        check.sentence("is NAME = VALUE", Promise10HeaderTest::pairs);
        check.sentence("(without blanks)", Promise10HeaderTest::blanks);
        check.sentence("a HEADER more", Promise10HeaderTest::oneMore);
        check.sentence("one of that NAME has this VALUE then: true", Promise10HeaderTest::sameName);
        check.sentence("false, changing nothing, if it is none", Promise10HeaderTest::noneSuch);
        check.sentence("or the seventh", Promise10HeaderTest::seventh);
        check.end();
    }

    private static void tapeIsEmpty(Check check) {
        for (String text : new String[] {"a=1", "b=", "", "a", "a=A", Check.FULL_TAPE}) {
            RouteDesk desk = new RouteDesk();
            Check.header(desk, text);
            check.due("tape after '" + text + "'", Check.tapeLength(desk), 0);
        }
        for (String text : new String[] {"f=7", "g=7"}) {
            RouteDesk desk = new RouteDesk();
            Check.message(desk, "", SIX);
            Check.header(desk, text);
            check.due("tape after '" + text + "' with six", Check.tapeLength(desk), 0);
        }
    }

    /** The longest and shortest of both, and their letters: TermsLimitsTest. */
    private static void pairs(Check check) {
        for (String text : new String[] {"a=", "a=b", "abcdef=abcdef", "z=012345", "q=9z", "all=any"}) {
            RouteDesk desk = Check.desk(1, 3, 2);
            Check.bindQueue(desk, 0, "all," + text, 0);
            Check.bindQueue(desk, 0, "all," + text.substring(0, text.indexOf('=')), 1);
            check.due("header '" + text + "'", Check.header(desk, text), true);
            check.due("headers", desk.total(3), 1);
            check.due("route(0)", desk.route(0), 2);
        }
    }

    private static void blanks(Check check) {
        for (String text : new String[] {"a =1", "a= 1", " a=1", "a=1 ", "a = 1", "a= ", " =1", " ", "a b=1", "a=1 2"}) {
            refused(check, text);
        }
    }

    private static void oneMore(Check check) {
        RouteDesk desk = Check.desk(1, 3, 6);
        for (int i = 0; i < 6; i++) {
            Check.bindQueue(desk, 0, "all," + SIX[i], i);
        }
        for (int i = 0; i < 6; i++) {
            check.due("header '" + SIX[i] + "'", Check.header(desk, SIX[i]), true);
            check.due("headers", desk.total(3), i + 1);
            check.due("route(0), the earlier ones stay", desk.route(0), i + 1);
        }
        check.due("letters of the key", desk.total(4), 0);
    }

    private static void sameName(Check check) {
        RouteDesk desk = Check.desk(1, 3, 3);
        Check.bindQueue(desk, 0, "all,a=1", 0);
        Check.bindQueue(desk, 0, "all,a=2", 1);
        Check.bindQueue(desk, 0, "all,a=", 2);
        String[][] cases = {{"a=1", " 0"}, {"a=2", " 1"}, {"a=", " 2"}, {"a=1", " 0"}, {"a=1", " 0"}};
        for (String[] one : cases) {
            check.due("header " + one[0], Check.header(desk, one[0]), true);
            check.due("headers", desk.total(3), 1);
            desk.route(0);
            check.due("found with " + one[0], Check.found(desk), one[1]);
        }
        RouteDesk six = Check.desk(1, 3, 2);
        Check.bindQueue(six, 0, "all,a=7,b=2,c=3", 0);
        Check.bindQueue(six, 0, "all,d=4,e=5,f=7", 1);
        Check.message(six, "", SIX);
        for (String text : new String[] {"a=7", "f=7"}) {
            check.due("header " + text + " with six", Check.header(six, text), true);
            check.due("headers", six.total(3), 6);
        }
        check.due("route(0) with six", six.route(0), 2);
    }

    private static void noneSuch(Check check) {
        for (String text : NONE_SUCH) {
            refused(check, text);
        }
        refused(check, Check.FULL_TAPE);
    }

    private static void refused(Check check, String text) {
        RouteDesk desk = Check.busyDesk();
        check.due("header '" + text + "'", Check.header(desk, text), false);
        check.due("headers after it", desk.total(3), 3);
        check.due("letters of the key after it", desk.total(4), 3);
        check.changesNothing("header '" + text + "'", Check::busyDesk, busy -> Check.header(busy, text));
    }

    private static void seventh(Check check) {
        RouteDesk desk = Check.desk(1, 3, 3);
        Check.bindQueue(desk, 0, "any,g", 0);
        Check.bindQueue(desk, 0, "all,a=1,b=2,c=3", 1);
        Check.bindQueue(desk, 0, "all,d=4,e=5,f=6", 2);
        Check.message(desk, "key", SIX);
        for (String text : new String[] {"g=7", "g=", "h=8", "aa=1"}) {
            check.due("header " + text, Check.header(desk, text), false);
            check.due("headers", desk.total(3), 6);
            check.due("letters of the key", desk.total(4), 3);
            desk.route(0);
            check.due("found", Check.found(desk), " 1 2");
        }
    }
}
