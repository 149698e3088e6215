public final class Promise07BindTest {
    private static final Class<?> ARGUMENT = IllegalArgumentException.class;
    private static final Class<?> STATE = IllegalStateException.class;

    private static final String[] GOOD_PATTERNS = {
        "", "a", "*", "#", "a.b", "*.*", "#.#", "a..b", ".", "...", ".*", "#.", "*.#.a", "A b!.?", "a=b,c.#"};
    private static final String[] BAD_PATTERNS = {
        "x*", "*x", "**", "##", "#*", "a#", "#a", "a.b*", "*.##.a", "a.x#x.b", "* ", "a.*b.c", "#.a.# "};
    private static final String[] GOOD_RULES = {
        "all", "any", "all,a", "any,a=", "all,abcdef=abc123", "any,a,b,c,d", "all,a=1,b=2,c=,d",
        "all,a,a", "any,x=000000", "all,any", "any,all=all"};
    private static final String[] BAD_RULES = {
        "", "al", "ALL", "alla", "all ", " all", "all,", "any,,", "all,a,", "all,,a", "all,abcdefg", "all,A",
        "all,a1", "all,a=A", "all,a=1234567", "all,a==", "all,a=b=c", "all,=", "all,=1", "any,a, b", "all,a =1",
        "any,a,b,c,d,e", "all;a", "anya", "any=a", "allany", "none", "all,a=1-", "all.a", "all,a.b"};

    public static void main(String[] args) {
        Check check = new Check();
        textsOfSorts(check);
        places(check);
        sameOnce(check);
        tapeIsEmptyInAnyCase(check);
        most(check);
        check.end();
    }

    private static void texts(Check check, int sort, String[] good, String[] bad) {
        RouteDesk desk = Check.desk(1, sort, 1);
        for (String text : good) {
            check.due("sort " + sort + ", text '" + text + "'", Check.bindQueue(desk, 0, text, 0), true);
        }
        for (String text : bad) {
            check.dueThrow("sort " + sort + ", text '" + text + "'", ARGUMENT,
                    () -> Check.bindQueue(desk, 0, text, 0));
        }
        check.due("sort " + sort + ", bindings", desk.total(2), good.length);
    }

    private static void textsOfSorts(Check check) {
        texts(check, 0, new String[] {"", "a", "**", "a##b", "all,,", " ", "~", ".."}, new String[] {});
        texts(check, 1, new String[] {""}, new String[] {"x", " ", "#", "all", "."});
        texts(check, 2, GOOD_PATTERNS, BAD_PATTERNS);
        texts(check, 3, GOOD_RULES, BAD_RULES);
    }

    private static void places(Check check) {
        RouteDesk desk = Check.desk(2, 1, 3);
        int[] none = {2, 15, 16, -1, Integer.MIN_VALUE, Integer.MAX_VALUE};
        for (int number : none) {
            check.dueThrow("from " + number, ARGUMENT, () -> desk.bind(number, 0, true));
            check.dueThrow("to exchange " + number, ARGUMENT, () -> desk.bind(0, number, false));
        }
        check.dueThrow("to queue 3", ARGUMENT, () -> desk.bind(0, 3, true));
        check.dueThrow("to queue 16", ARGUMENT, () -> desk.bind(0, 16, true));
        check.dueThrow("to queue -1", ARGUMENT, () -> desk.bind(0, -1, true));
        check.due("no bindings", desk.total(2), 0);
        check.due("to queue 2", desk.bind(0, 2, true), true);
        check.due("to exchange 1", desk.bind(0, 1, false), true);
        check.due("to queue 1", desk.bind(0, 1, true), true);
        check.due("to itself", desk.bind(0, 0, false), true);
        check.due("bindings", desk.total(2), 4);
    }

    private static void sameOnce(Check check) {
        RouteDesk desk = Check.desk(2, 0, 2);
        check.due("a binding", Check.bindQueue(desk, 0, "a", 1), true);
        check.due("the same", Check.bindQueue(desk, 0, "a", 1), false);
        check.due("another text", Check.bindQueue(desk, 0, "b", 1), true);
        check.due("a longer text", Check.bindQueue(desk, 0, "aa", 1), true);
        check.due("another from", Check.bindQueue(desk, 1, "a", 1), true);
        check.due("another queue", Check.bindQueue(desk, 0, "a", 0), true);
        check.due("an exchange", Check.bindExchange(desk, 0, "a", 1), true);
        check.due("bindings", desk.total(2), 6);
        RouteDesk rules = Check.desk(1, 3, 1);
        check.due("a rule", Check.bindQueue(rules, 0, "all,a,b", 0), true);
        check.due("the text as it is", Check.bindQueue(rules, 0, "all,b,a", 0), true);
        check.due("the rule again", Check.bindQueue(rules, 0, "all,a,b", 0), false);
    }

    private static void tapeIsEmptyInAnyCase(Check check) {
        RouteDesk desk = Check.desk(1, 2, 1);
        Check.bindQueue(desk, 0, "good", 0);
        check.due("tape after true", Check.tapeLength(desk), 0);
        Check.bindQueue(desk, 0, "good", 0);
        check.due("tape after false", Check.tapeLength(desk), 0);
        check.dueThrow("a bad text", ARGUMENT, () -> Check.bindQueue(desk, 0, "bad*", 0));
        check.due("tape after a bad text", Check.tapeLength(desk), 0);
        check.dueThrow("no exchange", ARGUMENT, () -> Check.bindQueue(desk, 7, "good", 0));
        check.due("tape after no exchange", Check.tapeLength(desk), 0);
        check.dueThrow("no queue", ARGUMENT, () -> Check.bindQueue(desk, 0, "good", 7));
        check.due("tape after no queue", Check.tapeLength(desk), 0);
    }

    private static void most(Check check) {
        RouteDesk desk = Check.deskWithBindings(119);
        check.due("the 120th", desk.bind(9, 0, true), true);
        check.dueThrow("the 121st", STATE, () -> desk.bind(9, 1, true));
        check.dueThrow("the 121st, to an exchange", STATE, () -> desk.bind(9, 1, false));
        check.dueThrow("a bad text comes first", ARGUMENT, () -> Check.bindQueue(desk, 9, "x", 1));
        check.dueThrow("no exchange comes first", ARGUMENT, () -> desk.bind(16, 1, true));
        check.due("one that is there", desk.bind(9, 0, true), false);
        check.due("there are 120", desk.total(2), 120);
        check.due("one goes", desk.unbind(9, 0, true), true);
        check.due("another comes", desk.bind(9, 1, true), true);
        desk.remove(15, false);
        desk.exchange(0);
        desk.bind(9, 14, false);
        desk.bind(9, 13, false);
        desk.bind(9, 12, false);
        check.dueThrow("the tape with 120", STATE, () -> {
            Check.type(desk, "text");
            desk.bind(15, 0, true);
        });
        check.due("is empty then", Check.tapeLength(desk), 0);
    }
}
