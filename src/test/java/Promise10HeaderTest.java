public final class Promise10HeaderTest {
    private static final String[] GOOD = {"a=", "a=b", "abcdef=abcdef", "z=012345", "q=9z", "all=any"};
    private static final String[] BAD = {
        "", "a", "=", "=a", "abcdefg=1", "a=1234567", "A=1", "a1=1", "a=A", "a =1", "a= 1", " a=1", "a=1 ", "a==",
        "a=b=c", "a=b,c=d", "a,b", "a=-", "{=1", "`=1", "a=/", "a=:"};

    public static void main(String[] args) {
        Check check = new Check();
        texts(check);
        sameName(check);
        seventh(check);
        check.end();
    }

    private static void texts(Check check) {
        for (String text : GOOD) {
            RouteDesk desk = new RouteDesk();
            check.due("header " + text, Check.header(desk, text), true);
            check.due("headers after " + text, desk.total(3), 1);
            check.due("tape after " + text, Check.tapeLength(desk), 0);
        }
        for (String text : BAD) {
            RouteDesk desk = new RouteDesk();
            Check.message(desk, "key", "x=1");
            check.due("header " + text, Check.header(desk, text), false);
            check.due("headers after " + text, desk.total(3), 1);
            check.due("key after " + text, desk.total(4), 3);
            check.due("tape after " + text, Check.tapeLength(desk), 0);
        }
    }

    private static void sameName(Check check) {
        RouteDesk desk = Check.desk(1, 3, 3);
        Check.bindQueue(desk, 0, "all,a=1", 0);
        Check.bindQueue(desk, 0, "all,a=2", 1);
        Check.bindQueue(desk, 0, "all,a=", 2);
        check.due("a=1", Check.header(desk, "a=1"), true);
        desk.route(0);
        check.due("found with a=1", Check.found(desk), " 0");
        check.due("a=2", Check.header(desk, "a=2"), true);
        desk.route(0);
        check.due("found with a=2", Check.found(desk), " 1");
        check.due("a=", Check.header(desk, "a="), true);
        desk.route(0);
        check.due("found with a=", Check.found(desk), " 2");
        check.due("one header", desk.total(3), 1);
    }

    private static void seventh(Check check) {
        RouteDesk desk = Check.desk(1, 3, 3);
        Check.bindQueue(desk, 0, "any,g", 0);
        Check.bindQueue(desk, 0, "any,f=7", 1);
        Check.message(desk, "", "a=1", "b=2", "c=3", "d=4", "e=5", "f=6");
        check.due("the seventh", Check.header(desk, "g=7"), false);
        check.due("six headers", desk.total(3), 6);
        check.due("none is found", desk.route(0), 0);
        check.due("a name of the six", Check.header(desk, "f=7"), true);
        check.due("six headers still", desk.total(3), 6);
        desk.route(0);
        check.due("found with its new value", Check.found(desk), " 1");
        Check.header(desk, "h=8");
        check.due("tape after one too many", Check.tapeLength(desk), 0);
    }
}
