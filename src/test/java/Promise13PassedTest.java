public final class Promise13PassedTest {
    public static void main(String[] args) {
        Check check = new Check();
        RouteDesk desk = Check.desk(16, 1, 1);
        desk.bind(0, 15, false);
        desk.bind(0, 3, false);
        desk.alternate(3, 4);
        desk.alternate(0, 5);
        check.due("before the first route", Check.passed(desk), "");
        desk.route(0);
        check.due("route(0)", Check.passed(desk), " 0 3 4 15");
        for (int number : new int[] {-1, 16, 32, Integer.MIN_VALUE, Integer.MAX_VALUE}) {
            check.due("passed(" + number + ")", desk.passed(number), false);
        }
        check.dueThrow("a route that is none", IllegalArgumentException.class, () -> desk.route(16));
        check.due("leaves what was passed", Check.passed(desk), " 0 3 4 15");
        desk.message();
        desk.bind(0, 7, false);
        check.due("so does what is changed later", Check.passed(desk), " 0 3 4 15");
        desk.route(9);
        check.due("route(9)", Check.passed(desk), " 9");
        check.end();
    }
}
