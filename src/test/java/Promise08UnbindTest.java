public final class Promise08UnbindTest {
    public static void main(String[] args) {
        Check check = new Check();
        RouteDesk desk = Check.desk(2, 0, 2);
        Check.bindQueue(desk, 0, "a", 1);
        Check.bindExchange(desk, 0, "a", 1);
        Check.bindQueue(desk, 0, "b", 1);
        check.due("another text", Check.unbindQueue(desk, 0, "c", 1), false);
        check.due("tape after false", Check.tapeLength(desk), 0);
        check.due("another queue", Check.unbindQueue(desk, 0, "a", 0), false);
        check.due("another from", Check.unbindQueue(desk, 1, "a", 1), false);
        for (int number : new int[] {2, 16, -1, Integer.MIN_VALUE, Integer.MAX_VALUE}) {
            check.due("from " + number, Check.unbindQueue(desk, number, "a", 1), false);
            check.due("to " + number, Check.unbindQueue(desk, 0, "a", number), false);
            check.due("tape after " + number, Check.tapeLength(desk), 0);
        }
        check.due("all are there", desk.total(2), 3);
        check.due("the first", Check.unbindQueue(desk, 0, "a", 1), true);
        check.due("tape after true", Check.tapeLength(desk), 0);
        check.due("again", Check.unbindQueue(desk, 0, "a", 1), false);
        check.due("two are there", desk.total(2), 2);
        Check.message(desk, "a");
        desk.route(0);
        check.due("no longer found", Check.found(desk), "");
        check.due("the exchange is still led to", Check.passed(desk), " 0 1");
        Check.message(desk, "b");
        desk.route(0);
        check.due("the other text is still there", Check.found(desk), " 1");
        Check.type(desk, "a");
        check.due("the one to the exchange", desk.unbind(0, 1, false), true);
        check.due("one is there", desk.total(2), 1);
        check.due("bound again", Check.bindQueue(desk, 0, "a", 1), true);
        check.end();
    }
}
