public final class Promise11RouteTest {
    public static void main(String[] args) {
        Check check = new Check();
        noneSuch(check);
        direct(check);
        topics(check);
        rules(check);
        eachQueueOnce(check);
        exchangesLeadOn(check);
        alternates(check);
        longestChain(check);
        manyWords(check);
        check.end();
    }

    private static void noneSuch(Check check) {
        RouteDesk desk = Check.desk(1, 1, 1);
        for (int number : new int[] {1, 15, 16, -1, Integer.MIN_VALUE, Integer.MAX_VALUE}) {
            check.dueThrow("route(" + number + ")", IllegalArgumentException.class, () -> desk.route(number));
        }
    }

    private static void direct(Check check) {
        RouteDesk desk = Check.desk(1, 0, 4);
        Check.bindQueue(desk, 0, "a", 0);
        Check.bindQueue(desk, 0, "#", 1);
        Check.bindQueue(desk, 0, "A", 2);
        Check.bindQueue(desk, 0, "a.b", 3);
        String[][] cases = {{"a", " 0"}, {"#", " 1"}, {"A", " 2"}, {"a.b", " 3"}, {"", ""}, {"a.", ""}, {"aa", ""}};
        for (String[] one : cases) {
            Check.message(desk, one[0]);
            desk.route(0);
            check.due("direct, key " + one[0], Check.found(desk), one[1]);
        }
    }

    /** The keys stand parted by |; null for no keys, as an empty text is one empty key. */
    private static void topic(Check check, String pattern, String like, String unlike) {
        RouteDesk desk = Check.desk(1, 2, 1);
        Check.bindQueue(desk, 0, pattern, 0);
        keys(check, desk, pattern, like, 1);
        keys(check, desk, pattern, unlike, 0);
    }

    private static void keys(Check check, RouteDesk desk, String pattern, String keys, int want) {
        if (keys == null) {
            return;
        }
        for (String key : keys.split("\\|", -1)) {
            Check.message(desk, key);
            check.due("pattern '" + pattern + "', key '" + key + "'", desk.route(0), want);
        }
    }

    private static void topics(Check check) {
        topic(check, "", "", "a|.|*|#");
        topic(check, "a", "a", "|b|aa|a.|.a|a.a|A|*|#");
        topic(check, "*", "|a|abc|*|#|**", ".|a.b|a.|.a");
        topic(check, "#.z", "z|a.z|.z|a.b.c.z", "|a|z.a|zz|z.");
        topic(check, "a.#", "a|a.b|a.|a.b.c|a..", "|b|b.a|aa|.a");
        topic(check, "a.*", "a.b|a.|a.*|a.a", "a||a.b.c|b.b|a..");
        topic(check, "*.*", ".|a.b|a.", "|a|a.b.c|..");
        topic(check, "#.*", "|a|a.b|.", null);
        topic(check, "*.#.*", "a.b|.|a.b.c|a.b.c.d", "|a");
        topic(check, "a.#.b.#.c", "a.b.c|a.x.b.c|a.b.x.y.c|a.b.b.b.c|a.c.b.c", "a.c|a.b|b.c|a.c.b|a.b.c.x");
        topic(check, "#.a.#.a.#", "a.a|a.b.a|x.a.a.y|x.a.x.a.x", "a|x.a.x||aa");
        topic(check, "a..b", "a..b", "a.b|a.x.b|a...b");
        topic(check, "a.#.b", "a.b|a..b|a.x.b|a.b.b", "a|b|ab|a.b.c");
        topic(check, "#", "|a|a.b|..|#|*.*", null);
        topic(check, "#.#", "|a|a.b|..", null);
    }

    private static void rule(Check check, String rule, String headers, boolean met) {
        RouteDesk desk = Check.desk(1, 3, 1);
        Check.bindQueue(desk, 0, rule, 0);
        Check.message(desk, "key", headers.isEmpty() ? new String[0] : headers.split(" "));
        check.due(rule + " with " + headers, desk.route(0), met ? 1 : 0);
    }

    private static void rules(Check check) {
        rule(check, "all", "", true);
        rule(check, "all", "a=1", true);
        rule(check, "any", "", false);
        rule(check, "any", "a=1", false);
        rule(check, "all,a", "a=1", true);
        rule(check, "all,a", "a=", true);
        rule(check, "all,a", "b=1", false);
        rule(check, "all,a", "", false);
        rule(check, "all,a", "aa=1", false);
        rule(check, "all,aa", "a=1", false);
        rule(check, "all,a=", "a=", true);
        rule(check, "all,a=", "a=1", false);
        rule(check, "all,a=1", "a=1", true);
        rule(check, "all,a=1", "a=12", false);
        rule(check, "all,a=1", "a=", false);
        rule(check, "all,a=1,b", "a=1", false);
        rule(check, "all,a=1,b", "b=x a=1", true);
        rule(check, "all,a=1,b", "b=x a=2", false);
        rule(check, "all,a,b,c,d=4", "d=4 c= b= a=", true);
        rule(check, "all,a,b,c,d=4", "d=5 c= b= a=", false);
        rule(check, "all,a=1,a=2", "a=1", false);
        rule(check, "any,a=1,a=2", "a=2", true);
        rule(check, "any,a,b", "c=1", false);
        rule(check, "any,a,b", "b=1", true);
        rule(check, "any,a=1,b", "a=2", false);
        rule(check, "any,a=1,b,c,d=4", "d=4", true);
        rule(check, "any,a=1,b,c,d=4", "d=3 a=2 e=1", false);
        rule(check, "any,all", "all=1", true);
        rule(check, "any,all", "any=1", false);
        rule(check, "all,f=6", "a=1 b=2 c=3 d=4 e=5 f=6", true);
    }

    private static void eachQueueOnce(Check check) {
        RouteDesk desk = Check.desk(2, 2, 3);
        Check.bindQueue(desk, 0, "#", 1);
        Check.bindQueue(desk, 0, "*", 1);
        Check.bindQueue(desk, 0, "a", 1);
        Check.bindExchange(desk, 0, "#", 1);
        Check.bindQueue(desk, 1, "#", 1);
        Check.bindQueue(desk, 1, "a", 0);
        Check.message(desk, "a");
        check.due("each once", desk.route(0), 2);
        check.due("by their numbers", Check.found(desk), " 0 1");
    }

    private static void exchangesLeadOn(Check check) {
        RouteDesk desk = Check.desk(3, 1, 3);
        int topic = desk.exchange(2);
        desk.bind(0, 1, false);
        desk.bind(1, 2, false);
        desk.bind(2, 0, false);
        desk.bind(0, 0, false);
        desk.bind(2, 2, true);
        desk.bind(1, topic, false);
        Check.bindQueue(desk, topic, "k", 1);
        check.due("round and round", desk.route(0), 1);
        check.due("passed", Check.passed(desk), " 0 1 2 3");
        Check.message(desk, "k");
        check.due("with the key", desk.route(2), 2);
        check.due("found", Check.found(desk), " 1 2");
        check.due("from the last", desk.route(topic), 1);
        check.due("it alone", Check.passed(desk), " 3");
    }

    private static void alternates(Check check) {
        RouteDesk desk = Check.desk(4, 0, 3);
        Check.bindQueue(desk, 0, "a", 0);
        Check.bindQueue(desk, 1, "b", 1);
        Check.bindQueue(desk, 2, "c", 2);
        desk.alternate(0, 1);
        desk.alternate(1, 2);
        desk.alternate(2, 0);
        String[][] cases = {
            {"a", " 0", " 0"}, {"b", " 1", " 0 1"}, {"c", " 2", " 0 1 2"}, {"d", "", " 0 1 2"}};
        for (String[] one : cases) {
            Check.message(desk, one[0]);
            desk.route(0);
            check.due("alternates, found with " + one[0], Check.found(desk), one[1]);
            check.due("alternates, passed with " + one[0], Check.passed(desk), one[2]);
        }
        desk.alternate(1, 9);
        desk.route(0);
        check.due("one that is not there", Check.passed(desk), " 0 1");
        Check.bindExchange(desk, 0, "d", 3);
        desk.route(0);
        check.due("met, though nothing is found", Check.passed(desk), " 0 3");
        Check.type(desk, "d");
        desk.unbind(0, 3, false);
        Check.bindExchange(desk, 0, "d", 0);
        desk.route(0);
        check.due("met by a binding to itself", Check.passed(desk), " 0");
    }

    private static void longestChain(Check check) {
        RouteDesk desk = Check.desk(16, 1, 16);
        for (int i = 15; i > 0; i--) {
            if (i % 2 == 0) {
                desk.bind(i, i - 1, false);
            } else {
                desk.alternate(i, i - 1);
            }
        }
        for (int i = 0; i < 16; i++) {
            desk.bind(0, i, true);
        }
        check.due("sixteen in a chain", desk.route(15), 16);
        check.due("all are passed", Check.passed(desk), " 0 1 2 3 4 5 6 7 8 9 10 11 12 13 14 15");
        check.due("all are found", Check.found(desk), " 0 1 2 3 4 5 6 7 8 9 10 11 12 13 14 15");
    }

    private static void manyWords(Check check) {
        String dots = ".".repeat(48);
        RouteDesk desk = Check.desk(1, 2, 6);
        Check.bindQueue(desk, 0, dots, 0);
        Check.bindQueue(desk, 0, "#." + ".".repeat(46), 1);
        Check.bindQueue(desk, 0, ".".repeat(47), 2);
        Check.bindQueue(desk, 0, "#" + ".#".repeat(23), 3);
        Check.bindQueue(desk, 0, "#" + ".*".repeat(23), 4);
        Check.bindQueue(desk, 0, "*" + ".*".repeat(23), 5);
        Check.message(desk, dots);
        desk.route(0);
        check.due("49 empty words", Check.found(desk), " 0 1 3 4");
        Check.message(desk, ".".repeat(47));
        desk.route(0);
        check.due("48 empty words", Check.found(desk), " 1 2 3 4");
        Check.message(desk, ".".repeat(23));
        desk.route(0);
        check.due("24 empty words", Check.found(desk), " 3 4 5");
    }
}
