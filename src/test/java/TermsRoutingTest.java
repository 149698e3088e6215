/** The sentences under "Terms" on routing, and the last one under "What it is". */
public final class TermsRoutingTest {
    public static void main(String[] args) {
        Check check = new Check();
        check.sentence("each queue once, however many ways lead there", TermsRoutingTest::eachQueueOnce);
        check.sentence("ROUTING from an EXCHANGE: it is PASSED", TermsRoutingTest::firstIsPassed);
        check.sentence("all its BINDINGS that are met lead on", TermsRoutingTest::allThatAreMet);
        check.sentence("EXCHANGES that are not PASSED yet are PASSED likewise", TermsRoutingTest::rings);
        check.sentence("are PASSED likewise", TermsRoutingTest::longestChain);
        check.sentence("If none of the BINDINGS of an EXCHANGE is met", TermsRoutingTest::noneIsMet);
        check.sentence("its ALTERNATE, if it is there", TermsRoutingTest::alternateThere);
        check.sentence("(and not PASSED yet), is PASSED", TermsRoutingTest::alternateRings);
        check.end();
    }

    private static void due(Check check, String call, RouteDesk desk, int from, String found, String passed) {
        check.due(call + ": route(" + from + ")", desk.route(from), found.isEmpty() ? 0 : found.split(" ").length - 1);
        check.due(call + ": found", Check.found(desk), found);
        check.due(call + ": passed", Check.passed(desk), passed);
    }

    private static void eachQueueOnce(Check check) {
        RouteDesk desk = Check.desk(3, 2, 3);
        for (String text : new String[] {"#", "*", "a", "#.a", "a.#"}) {
            Check.bindQueue(desk, 0, text, 1);
            Check.bindQueue(desk, 1, text, 1);
            Check.bindExchange(desk, 0, text, 1);
            Check.bindExchange(desk, 0, text, 2);
        }
        Check.bindQueue(desk, 2, "a", 1);
        Check.bindQueue(desk, 2, "a", 0);
        Check.message(desk, "a");
        due(check, "sixteen ways", desk, 0, " 0 1", " 0 1 2");
        RouteDesk full = Check.deskWithBindings(120);
        due(check, "120 bindings", full, 0, Check.ALL_NUMBERS, Check.ALL_NUMBERS);
    }

    private static void firstIsPassed(Check check) {
        RouteDesk desk = Check.desk(16, 0, 1);
        Check.bindQueue(desk, 15, "a", 0);
        due(check, "without bindings", desk, 0, "", " 0");
        due(check, "with one that is not met", desk, 15, "", " 15");
        Check.message(desk, "a");
        due(check, "with one that is met", desk, 15, " 0", " 15");
    }

    private static void allThatAreMet(Check check) {
        RouteDesk desk = Check.desk(4, 2, 4);
        Check.bindQueue(desk, 0, "b", 0);
        Check.bindQueue(desk, 0, "a", 1);
        Check.bindExchange(desk, 0, "b", 1);
        Check.bindExchange(desk, 0, "*", 2);
        Check.bindExchange(desk, 0, "#", 3);
        Check.bindQueue(desk, 0, "a.#", 3);
        Check.message(desk, "a");
        due(check, "the first, some between, the last", desk, 0, " 1 3", " 0 2 3");
        Check.message(desk, "b");
        due(check, "the others", desk, 0, " 0", " 0 1 2 3");
        Check.message(desk, "c.d");
        due(check, "one alone", desk, 0, "", " 0 3");
    }

    private static void rings(Check check) {
        RouteDesk itself = Check.desk(1, 1, 1);
        itself.bind(0, 0, false);
        due(check, "to itself alone", itself, 0, "", " 0");
        itself.bind(0, 0, true);
        due(check, "to itself and a queue", itself, 0, " 0", " 0");
        RouteDesk pair = Check.desk(3, 1, 1);
        pair.bind(0, 1, false);
        pair.bind(1, 0, false);
        pair.bind(1, 0, true);
        due(check, "to and fro", pair, 0, " 0", " 0 1");
        due(check, "fro and to", pair, 1, " 0", " 0 1");
        RouteDesk ring = Check.desk(16, 1, 16);
        for (int i = 0; i < 16; i++) {
            ring.bind(i, (i + 5) % 16, false);
            ring.bind(i, i, true);
        }
        for (int from : new int[] {0, 7, 15}) {
            due(check, "a ring of sixteen", ring, from, Check.ALL_NUMBERS, Check.ALL_NUMBERS);
        }
    }

    private static void longestChain(Check check) {
        RouteDesk falling = Check.desk(16, 1, 16);
        RouteDesk rising = Check.desk(16, 1, 16);
        for (int i = 0; i < 15; i++) {
            rising.bind(i, i + 1, false);
            falling.bind(i + 1, i, false);
        }
        for (int i = 0; i < 16; i++) {
            rising.bind(15, i, true);
            falling.bind(0, i, true);
        }
        due(check, "sixteen rising", rising, 0, Check.ALL_NUMBERS, Check.ALL_NUMBERS);
        due(check, "sixteen falling", falling, 15, Check.ALL_NUMBERS, Check.ALL_NUMBERS);
        due(check, "the last of the rising", rising, 15, Check.ALL_NUMBERS, " 15");
    }

    private static void noneIsMet(Check check) {
        RouteDesk desk = Check.desk(3, 0, 2);
        desk.alternate(0, 1);
        Check.bindQueue(desk, 1, "a", 1);
        Check.bindQueue(desk, 1, "b", 1);
        Check.message(desk, "a");
        due(check, "it has none", desk, 0, " 1", " 0 1");
        Check.bindQueue(desk, 0, "b", 0);
        Check.bindExchange(desk, 0, "c", 2);
        due(check, "none of two", desk, 0, " 1", " 0 1");
        Check.message(desk, "b");
        due(check, "one of two, to a queue", desk, 0, " 0", " 0");
        Check.message(desk, "c");
        due(check, "one of two, to an exchange that finds nothing", desk, 0, "", " 0 2");
        Check.message(desk, "d");
        Check.bindExchange(desk, 0, "d", 0);
        due(check, "one of three, to itself", desk, 0, "", " 0");
        RouteDesk on = Check.desk(3, 1, 1);
        on.bind(0, 1, false);
        on.alternate(0, 2);
        on.alternate(1, 2);
        on.bind(2, 0, true);
        due(check, "none of the second's", on, 0, " 0", " 0 1 2");
        RouteDesk any = Check.desk(2, 3, 1);
        Check.bindQueue(any, 0, "any", 0);
        any.alternate(0, 1);
        due(check, "any of no names is not met", any, 0, "", " 0 1");
        Check.bindQueue(any, 0, "all", 0);
        due(check, "all of no names is met", any, 0, " 0", " 0");
    }

    private static void alternateThere(Check check) {
        RouteDesk desk = Check.desk(2, 1, 1);
        desk.bind(1, 0, true);
        due(check, "no alternate", desk, 0, "", " 0");
        desk.alternate(0, 15);
        due(check, "one that is not there", desk, 0, "", " 0");
        desk.alternate(0, 1);
        due(check, "one that is there", desk, 0, " 0", " 0 1");
        desk.remove(1, false);
        due(check, "one that is there no more", desk, 0, "", " 0");
        desk.exchange(0);
        due(check, "another of its number", desk, 0, "", " 0 1");
        desk.alternate(0, RouteDesk.NONE);
        due(check, "none again", desk, 0, "", " 0");
        RouteDesk last = Check.desk(16, 1, 0);
        last.alternate(0, 15);
        last.alternate(15, 1);
        due(check, "the greatest number", last, 0, "", " 0 1 15");
    }

    private static void alternateRings(Check check) {
        RouteDesk desk = Check.desk(3, 0, 1);
        desk.alternate(0, 1);
        desk.alternate(1, 2);
        desk.alternate(2, 0);
        for (int from = 0; from < 3; from++) {
            due(check, "three in a ring", desk, from, "", " 0 1 2");
        }
        RouteDesk back = Check.desk(2, 1, 1);
        back.bind(0, 1, false);
        back.bind(0, 0, true);
        back.alternate(1, 0);
        due(check, "back to the first", back, 0, " 0", " 0 1");
        RouteDesk ring = Check.desk(16, 1, 0);
        for (int i = 0; i < 16; i++) {
            ring.alternate(i, (i + 11) % 16);
        }
        due(check, "sixteen in a ring", ring, 3, "", Check.ALL_NUMBERS);
        RouteDesk mixed = Check.desk(16, 1, 16);
        for (int i = 15; i > 0; i--) {
            if (i % 2 == 0) {
                mixed.bind(i, i - 1, false);
            } else {
                mixed.alternate(i, i - 1);
            }
        }
        mixed.bind(0, 9, true);
        due(check, "bindings and alternates by turns", mixed, 15, " 9", Check.ALL_NUMBERS);
    }
}
