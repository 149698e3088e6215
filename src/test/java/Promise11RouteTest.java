/** What is met and what is passed, at its edges: TermsBindingsTest and TermsRoutingTest. */
public final class Promise11RouteTest {
    public static void main(String[] args) {
        Check check = new Check();
        check.sentence("The MESSAGE is ROUTED", Promise11RouteTest::latestMessage);
        check.sentence("from an EXCHANGE", Promise11RouteTest::anyExchange);
        check.sentence("how many QUEUES are FOUND", Promise11RouteTest::howMany);
        check.sentence("IllegalArgumentException: there is none such", Promise11RouteTest::noneSuch);
        check.sentence("the KEY, parted by . into WORDS likewise, is like it", Promise11RouteTest::patterns);
        check.sentence("all its BINDINGS that are met lead on", Promise11RouteTest::allSorts);
        check.end();
    }

    private static void latestMessage(Check check) {
        RouteDesk desk = Check.desk(1, 0, 2);
        int rules = desk.exchange(3);
        Check.bindQueue(desk, 0, "one", 0);
        Check.bindQueue(desk, 0, "two", 1);
        Check.bindQueue(desk, rules, "all,a=1", 1);
        Check.message(desk, "one", "a=1");
        Check.type(desk, "two");
        check.due("the key, with another on the tape", desk.route(0), 1);
        check.due("found", Check.found(desk), " 0");
        check.due("its header", desk.route(rules), 1);
        check.due("its header again", desk.route(rules), 1);
        desk.message();
        desk.route(0);
        check.due("found with the other", Check.found(desk), " 1");
        check.due("which has no header", desk.route(rules), 0);
    }

    private static void anyExchange(Check check) {
        RouteDesk desk = Check.desk(16, 1, 16);
        for (int number = 0; number < 16; number++) {
            desk.bind(number, 15 - number, true);
        }
        for (int number = 0; number < 16; number++) {
            check.due("route(" + number + ")", desk.route(number), 1);
            check.due("found(0)", desk.found(0), 15 - number);
        }
    }

    private static void howMany(Check check) {
        RouteDesk desk = Check.desk(1, 1, 16);
        for (int count = 0; count < 16; count++) {
            check.due("route(0)", desk.route(0), count);
            desk.bind(0, (count * 7) % 16, true);
        }
        check.due("route(0)", desk.route(0), 16);
        check.due("route(0) once more", desk.route(0), 16);
        RouteDesk on = Check.desk(2, 1, 0);
        on.bind(0, 1, false);
        check.due("exchanges are not counted", on.route(0), 0);
    }

    private static void noneSuch(Check check) {
        for (int number : new int[] {4, 6, 15}) {
            refused(check, number);
        }
        for (int number : Check.NO_NUMBERS) {
            refused(check, number);
        }
        RouteDesk queues = Check.desk(1, 1, 3);
        check.dueThrow("a queue's number", IllegalArgumentException.class, () -> queues.route(2));
        RouteDesk told = Check.desk(1, 1, 0);
        told.alternate(0, 1);
        check.dueThrow("an alternate that is not there", IllegalArgumentException.class, () -> told.route(1));
    }

    private static void refused(Check check, int number) {
        RouteDesk busy = Check.busyDesk();
        check.dueThrow("route(" + number + ")", IllegalArgumentException.class, () -> busy.route(number));
        check.changesNothing("route(" + number + ")", Check::busyDesk, desk -> desk.route(number));
    }

    /** The keys stand parted by |; null for no keys, as an empty text is one empty key. */
    private static void pattern(Check check, String pattern, String like, String unlike) {
        RouteDesk desk = Check.desk(1, 2, 1);
        Check.bindQueue(desk, 0, pattern, 0);
        keys(check, desk, pattern, like, 1);
        keys(check, desk, pattern, unlike, 0);
    }

    private static void keys(Check check, RouteDesk desk, String pattern, String keys, int want) {
        if (keys == null) {
            return;
        }
        for (String key : keys.split("\\|", -1)) {
            Check.message(desk, key);
            check.due("pattern '" + pattern + "', key '" + key + "'", desk.route(0), want);
        }
    }

    private static void patterns(Check check) {
        pattern(check, "a", "a", "|b|aa|a.|.a|a.a|A|*|#");
        pattern(check, "a.*", "a.b|a.|a.*|a.a", "a||a.b.c|b.b|a..");
        pattern(check, "#.z", "z|a.z|.z|a.b.c.z", "|a|z.a|zz|z.");
        pattern(check, "*.#.*", "a.b|.|a.b.c|a.b.c.d", "|a");
        pattern(check, "a.#.b.#.c", "a.b.c|a.x.b.c|a.b.x.y.c|a.b.b.b.c|a.c.b.c", "a.c|a.b|b.c|a.c.b|a.b.c.x");
        pattern(check, "#.a.#.a.#", "a.a|a.b.a|x.a.a.y|x.a.x.a.x", "a|x.a.x||aa");
        pattern(check, "a.#.*", "a.b|a.|a.b.c|a.a", "a|b.c|");
        pattern(check, "#.*.b", "a.b|.b|x.y.b|b.b", "b|a.b.c|a");
        pattern(check, "#.#", "|a|a.b|..", null);
    }

    private static void allSorts(Check check) {
        RouteDesk desk = new RouteDesk();
        for (int sort = 0; sort < 4; sort++) {
            desk.exchange(sort);
            desk.queue();
        }
        Check.bindExchange(desk, 0, "a.b", 1);
        Check.bindExchange(desk, 0, "c.d", 2);
        desk.bind(1, 2, false);
        desk.bind(1, 1, true);
        Check.bindQueue(desk, 2, "*.b", 2);
        Check.bindExchange(desk, 2, "#.d", 3);
        Check.bindQueue(desk, 3, "any,x=1,y", 3);
        desk.alternate(3, 0);
        Check.message(desk, "a.b", "x=1");
        check.due("route(0) with a.b", desk.route(0), 2);
        check.due("found with a.b", Check.found(desk), " 1 2");
        check.due("passed with a.b", Check.passed(desk), " 0 1 2");
        Check.message(desk, "c.d", "x=1");
        check.due("route(0) with c.d", desk.route(0), 1);
        check.due("found with c.d", Check.found(desk), " 3");
        check.due("passed with c.d", Check.passed(desk), " 0 2 3");
        Check.message(desk, "c.d", "x=2");
        check.due("route(3) with x=2", desk.route(3), 0);
        check.due("passed with x=2", Check.passed(desk), " 0 2 3");
    }
}
