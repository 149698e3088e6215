public final class Promise04AlternateTest {
    public static void main(String[] args) {
        Check check = new Check();
        check.sentence("The ALTERNATE of an EXCHANGE becomes to (0 .. 15)", Promise04AlternateTest::becomes);
        check.sentence("or none (NONE): true", Promise04AlternateTest::becomesNone);
        check.sentence("false, changing nothing, if there is no such EXCHANGE", Promise04AlternateTest::noExchange);
        check.sentence("for another to", Promise04AlternateTest::anotherTo);
        check.sentence("or its own number", Promise04AlternateTest::ownNumber);
        check.end();
    }

    private static void becomes(Check check) {
        RouteDesk desk = Check.desk(16, 1, 0);
        for (int exchange : new int[] {0, 9, 15}) {
            for (int to = 0; to < 16; to++) {
                if (to != exchange) {
                    check.due("alternate(" + exchange + ", " + to + ")", desk.alternate(exchange, to), true);
                    check.due("of(" + exchange + ", 4)", desk.of(exchange, 4), to);
                }
            }
        }
        check.due("another's alternate", desk.of(8, 4), RouteDesk.NONE);
        RouteDesk alone = Check.desk(1, 1, 0);
        for (int to = 1; to < 16; to++) {
            check.due("alternate(0, " + to + "), it is not there", alone.alternate(0, to), true);
            check.due("of(0, 4)", alone.of(0, 4), to);
        }
    }

    private static void becomesNone(Check check) {
        RouteDesk desk = Check.desk(2, 1, 0);
        check.due("without one before", desk.alternate(0, RouteDesk.NONE), true);
        check.due("of(0, 4)", desk.of(0, 4), RouteDesk.NONE);
        desk.alternate(0, 1);
        desk.alternate(1, 0);
        check.due("with one before", desk.alternate(0, RouteDesk.NONE), true);
        check.due("of(0, 4)", desk.of(0, 4), RouteDesk.NONE);
        check.due("of(1, 4)", desk.of(1, 4), 0);
        desk.route(0);
        check.due("passed", Check.passed(desk), " 0");
    }

    private static void noExchange(Check check) {
        // In the busy desk, 4 has been removed, 2 is an exchange but no queue, and 6 to 15 were never there.
        for (int to : new int[] {0, 15, RouteDesk.NONE}) {
            for (int exchange : new int[] {4, 6, 14}) {
                refused(check, exchange, to);
            }
            for (int exchange : Check.NO_NUMBERS) {
                refused(check, exchange, to);
            }
        }
        RouteDesk queues = Check.desk(0, 0, 3);
        check.due("a queue's number", queues.alternate(2, 1), false);
    }

    private static void anotherTo(Check check) {
        for (int to : Check.NO_NUMBERS) {
            if (to != RouteDesk.NONE) {
                refused(check, 0, to);
                refused(check, 5, to);
            }
        }
    }

    private static void ownNumber(Check check) {
        for (int exchange : new int[] {0, 1, 2, 3, 5}) {
            refused(check, exchange, exchange);
        }
        RouteDesk desk = Check.desk(16, 1, 0);
        for (int exchange = 0; exchange < 16; exchange++) {
            check.due("alternate(" + exchange + ", " + exchange + ")", desk.alternate(exchange, exchange), false);
            check.due("of(" + exchange + ", 4)", desk.of(exchange, 4), RouteDesk.NONE);
        }
    }

    private static void refused(Check check, int exchange, int to) {
        String call = "alternate(" + exchange + ", " + to + ")";
        check.due(call, Check.busyDesk().alternate(exchange, to), false);
        check.changesNothing(call, Check::busyDesk, desk -> desk.alternate(exchange, to));
    }
}
