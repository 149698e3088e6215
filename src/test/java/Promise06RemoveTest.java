public final class Promise06RemoveTest {
    public static void main(String[] args) {
        Check check = new Check();
        exchangeGoes(check);
        queueGoes(check);
        noneSuch(check);
        whatWasRoutedStays(check);
        check.end();
    }

    /** 0 to 1, 1 to 0, 1 to itself, 1 to queue 1, 2 to 1, 2 to queue 1, 2 to 0. */
    private static RouteDesk desk() {
        RouteDesk desk = Check.desk(3, 0, 2);
        Check.bindExchange(desk, 0, "a", 1);
        Check.bindExchange(desk, 1, "a", 0);
        Check.bindExchange(desk, 1, "a", 1);
        Check.bindQueue(desk, 1, "a", 1);
        Check.bindExchange(desk, 2, "b", 1);
        Check.bindQueue(desk, 2, "b", 1);
        Check.bindExchange(desk, 2, "b", 0);
        return desk;
    }

    private static void exchangeGoes(Check check) {
        RouteDesk desk = desk();
        desk.alternate(0, 1);
        desk.alternate(1, 2);
        check.due("remove exchange 1", desk.remove(1, false), true);
        check.due("exchanges", desk.total(0), 2);
        check.due("queues", desk.total(1), 2);
        check.due("bindings", desk.total(2), 2);
        check.due("from 2", desk.of(2, 0), 2);
        check.due("to queue 1", desk.of(1, 2), 1);
        check.due("to 0", desk.of(0, 1), 1);
        check.due("the alternate that tells it stays", desk.of(0, 4), 1);
        check.due("again", desk.remove(1, false), false);
        check.due("a new one", desk.exchange(0), 1);
        check.due("has no bindings", desk.of(1, 0) + desk.of(1, 1), 0);
        check.due("the alternate leads to the new one", desk.route(0) == 0 && desk.passed(1), true);
    }

    private static void queueGoes(Check check) {
        RouteDesk desk = desk();
        check.due("remove queue 1", desk.remove(1, true), true);
        check.due("exchanges", desk.total(0), 3);
        check.due("queues", desk.total(1), 1);
        check.due("bindings", desk.total(2), 5);
        check.due("exchange 1 is there", desk.of(1, 0), 2);
        check.due("to exchange 1", desk.of(1, 1), 3);
        check.due("to queue 1", desk.of(1, 2), RouteDesk.NONE);
        check.due("again", desk.remove(1, true), false);
        check.due("a new one", desk.queue(), 1);
        check.due("has no bindings", desk.of(1, 2), 0);
    }

    private static void noneSuch(Check check) {
        RouteDesk desk = desk();
        for (int number : new int[] {3, 15, 16, -1, Integer.MIN_VALUE, Integer.MAX_VALUE}) {
            check.due("remove exchange " + number, desk.remove(number, false), false);
            check.due("remove queue " + number, desk.remove(number, true), false);
        }
        check.due("remove queue 2", desk.remove(2, true), false);
        check.due("all bindings stay", desk.total(2), 7);
        check.due("all exchanges stay", desk.total(0), 3);
    }

    private static void whatWasRoutedStays(Check check) {
        RouteDesk desk = desk();
        Check.message(desk, "b");
        check.due("route(2)", desk.route(2), 1);
        desk.remove(1, true);
        desk.remove(1, false);
        check.due("found", Check.found(desk), " 1");
        check.due("passed", Check.passed(desk), " 0 1 2");
        check.due("route(2) without them", desk.route(2), 0);
        check.due("found then", Check.found(desk), "");
        check.due("passed then", Check.passed(desk), " 0 2");
    }
}
