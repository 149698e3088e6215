public final class Promise14OfTest {
    public static void main(String[] args) {
        Check check = new Check();
        check.sentence("BINDINGS from an EXCHANGE (what 0)", Promise14OfTest::from);
        check.sentence("to it (1)", Promise14OfTest::to);
        check.sentence("to a QUEUE of that number (2)", Promise14OfTest::toQueue);
        check.sentence("an EXCHANGE's SORT (3)", Promise14OfTest::sort);
        check.sentence("its ALTERNATE (4; NONE without)", Promise14OfTest::alternate);
        check.sentence("NONE if there is none such", Promise14OfTest::noneSuch);
        check.sentence("or for another what", Promise14OfTest::anotherWhat);
        check.end();
    }

    /** Exchange 0 (direct) with 60 bindings to queue 1 and 60 to itself. */
    private static RouteDesk full() {
        RouteDesk desk = Check.desk(3, 0, 3);
        for (int i = 0; i < 120; i++) {
            desk.type('A' + i % 60, 1);
            desk.bind(0, i < 60 ? 1 : 0, i < 60);
        }
        return desk;
    }

    private static void due(Check check, RouteDesk desk, int what, int... due) {
        for (int number = 0; number < due.length; number++) {
            check.due("of(" + number + ", " + what + ")", desk.of(number, what), due[number]);
        }
    }

    private static void from(Check check) {
        due(check, Check.busyDesk(), 0, 2, 1, 2, 2, -1, 0, -1);
        due(check, full(), 0, 120, 0, 0, -1);
        due(check, Check.deskWithBindings(120), 0, 32, 32, 32, 24, 0, 0, 0, 0, 0, 0, 0, 0, 0, 0, 0, 0);
    }

    private static void to(Check check) {
        due(check, Check.busyDesk(), 1, 0, 0, 1, 1, -1, 1, -1);
        due(check, full(), 1, 60, 0, 0, -1);
        due(check, Check.deskWithBindings(120), 1, 4, 4, 4, 4, 4, 4, 4, 4, 3, 3, 3, 3, 3, 3, 3, 3);
    }

    private static void toQueue(Check check) {
        due(check, Check.busyDesk(), 2, 2, 1, -1, 1, -1, -1, -1);
        due(check, full(), 2, 0, 60, 0, -1);
        due(check, Check.deskWithBindings(120), 2, 4, 4, 4, 4, 4, 4, 4, 4, 4, 4, 4, 4, 4, 4, 4, 4);
        RouteDesk desk = Check.desk(1, 1, 16);
        desk.bind(0, 15, true);
        check.due("a queue's number that no exchange has", desk.of(15, 2), 1);
        check.due("another such", desk.of(14, 2), 0);
    }

    private static void sort(Check check) {
        due(check, Check.busyDesk(), 3, 0, 1, 2, 3, -1, 1, -1);
        due(check, Check.desk(16, 3, 0), 3, 3, 3, 3, 3, 3, 3, 3, 3, 3, 3, 3, 3, 3, 3, 3, 3);
    }

    private static void alternate(Check check) {
        due(check, Check.busyDesk(), 4, 1, 4, -1, 15, -1, -1, -1);
        RouteDesk desk = Check.desk(2, 1, 0);
        desk.alternate(1, 0);
        due(check, desk, 4, -1, 0, -1);
    }

    private static void noneSuch(Check check) {
        RouteDesk desk = Check.busyDesk();
        for (int number : Check.NO_NUMBERS) {
            for (int what = 0; what < 5; what++) {
                check.due("of(" + number + ", " + what + ")", desk.of(number, what), RouteDesk.NONE);
            }
        }
        // 4 was removed, 6 was never there; queue 2 was removed, 5 was never there.
        for (int what : new int[] {0, 1, 3, 4}) {
            check.due("of(4, " + what + ")", desk.of(4, what), RouteDesk.NONE);
            check.due("of(6, " + what + ")", desk.of(6, what), RouteDesk.NONE);
        }
        check.due("of(2, 2)", desk.of(2, 2), RouteDesk.NONE);
        check.due("of(5, 2)", desk.of(5, 2), RouteDesk.NONE);
        RouteDesk queues = Check.desk(1, 1, 3);
        queues.bind(0, 2, true);
        for (int what : new int[] {0, 1, 3, 4}) {
            check.due("of(2, " + what + "), a queue alone", queues.of(2, what), RouteDesk.NONE);
        }
    }

    private static void anotherWhat(Check check) {
        RouteDesk desk = Check.busyDesk();
        for (int what : new int[] {-1, -5, 5, 6, 8, 256, 65536, Integer.MIN_VALUE, Integer.MAX_VALUE}) {
            for (int number : new int[] {0, 1, 3, 5, 6, 16, -1}) {
                check.due("of(" + number + ", " + what + ")", desk.of(number, what), RouteDesk.NONE);
            }
        }
    }
}
