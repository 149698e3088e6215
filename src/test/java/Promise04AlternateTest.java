public final class Promise04AlternateTest {
    public static void main(String[] args) {
        Check check = new Check();
        RouteDesk desk = Check.desk(3, 1, 0);
        check.due("to one that is there", desk.alternate(1, 2), true);
        check.due("of(1, 4)", desk.of(1, 4), 2);
        check.due("to one that is not there", desk.alternate(1, 15), true);
        check.due("of(1, 4)", desk.of(1, 4), 15);
        for (int to : new int[] {1, -2, 16, Integer.MIN_VALUE, Integer.MAX_VALUE}) {
            check.due("alternate(1, " + to + ")", desk.alternate(1, to), false);
            check.due("of(1, 4) is as before", desk.of(1, 4), 15);
        }
        check.due("to 0", desk.alternate(1, 0), true);
        check.due("of(1, 4)", desk.of(1, 4), 0);
        check.due("to none", desk.alternate(1, RouteDesk.NONE), true);
        check.due("of(1, 4)", desk.of(1, 4), RouteDesk.NONE);
        for (int exchange : new int[] {3, 15, 16, -1, Integer.MIN_VALUE, Integer.MAX_VALUE}) {
            check.due("alternate(" + exchange + ", 0)", desk.alternate(exchange, 0), false);
            check.due("alternate(" + exchange + ", NONE)", desk.alternate(exchange, RouteDesk.NONE), false);
        }
        check.due("the others have none", desk.of(0, 4) + desk.of(2, 4), -2);
        check.end();
    }
}
