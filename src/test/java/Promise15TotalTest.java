public final class Promise15TotalTest {
    public static void main(String[] args) {
        Check check = new Check();
        RouteDesk desk = Check.desk(3, 0, 5);
        Check.bindQueue(desk, 0, "a", 4);
        Check.bindExchange(desk, 0, "a", 2);
        Check.message(desk, "K.e y1", "a=", "b=1", "c=2", "d=3");
        Check.type(desk, "tape");
        totals(check, desk, 3, 5, 2, 4, 6);
        for (int what : new int[] {-1, 5, Integer.MIN_VALUE, Integer.MAX_VALUE}) {
            check.due("total(" + what + ")", desk.total(what), RouteDesk.NONE);
        }
        desk.remove(1, false);
        desk.remove(0, true);
        desk.remove(3, true);
        totals(check, desk, 2, 3, 2, 4, 6);
        desk.remove(4, true);
        totals(check, desk, 2, 2, 1, 4, 6);
        desk.message();
        totals(check, desk, 2, 2, 1, 0, 4);
        Check.message(desk, "0".repeat(48));
        totals(check, desk, 2, 2, 1, 0, 48);
        check.due("with 16 exchanges", Check.deskWithBindings(120).total(0), 16);
        check.due("with 16 queues", Check.deskWithBindings(120).total(1), 16);
        check.due("with 120 bindings", Check.deskWithBindings(120).total(2), 120);
        check.end();
    }

    private static void totals(Check check, RouteDesk desk, int... due) {
        for (int what = 0; what < due.length; what++) {
            check.due("total(" + what + ")", desk.total(what), due[what]);
        }
    }
}
