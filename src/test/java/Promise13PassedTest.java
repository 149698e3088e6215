public final class Promise13PassedTest {
    public static void main(String[] args) {
        Check check = new Check();
        check.sentence("Whether an EXCHANGE was PASSED", Promise13PassedTest::whether);
        check.sentence("in the latest route()", Promise13PassedTest::latest);
        check.sentence("false for another number", Promise13PassedTest::anotherNumber);
        check.end();
    }

    private static RouteDesk desk() {
        RouteDesk desk = Check.desk(15, 1, 1);
        desk.bind(0, 14, false);
        desk.bind(0, 3, false);
        desk.alternate(3, 4);
        desk.alternate(0, 5);
        return desk;
    }

    private static void whether(Check check) {
        RouteDesk desk = desk();
        check.due("before the first route", Check.passed(desk), "");
        desk.route(0);
        check.due("route(0)", Check.passed(desk), " 0 3 4 14");
        RouteDesk full = Check.desk(16, 1, 0);
        for (int number = 0; number < 16; number++) {
            full.bind(7, number, false);
        }
        full.route(7);
        check.due("all sixteen", Check.passed(full), Check.ALL_NUMBERS);
    }

    private static void latest(Check check) {
        RouteDesk desk = desk();
        desk.route(0);
        check.dueThrow("route(15)", IllegalArgumentException.class, () -> desk.route(15));
        check.due("after a route that is none", Check.passed(desk), " 0 3 4 14");
        desk.message();
        desk.bind(0, 7, false);
        desk.alternate(4, 8);
        desk.remove(14, false);
        check.due("after what is changed later", Check.passed(desk), " 0 3 4 14");
        desk.route(9);
        check.due("in the next", Check.passed(desk), " 9");
    }

    private static void anotherNumber(Check check) {
        RouteDesk desk = desk();
        for (int round = 0; round < 2; round++) {
            check.due("passed(15), never there", desk.passed(15), false);
            check.due("passed(1), there but not passed", desk.passed(1), false);
            for (int number : Check.NO_NUMBERS) {
                check.due("passed(" + number + ")", desk.passed(number), false);
            }
            desk.route(0);
        }
    }
}
