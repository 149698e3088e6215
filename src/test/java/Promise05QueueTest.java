public final class Promise05QueueTest {
    public static void main(String[] args) {
        Check check = new Check();
        check.sentence("A new QUEUE: its number", Promise05QueueTest::number);
        check.sentence("IllegalStateException: there are 16", Promise05QueueTest::sixteen);
        check.end();
    }

    private static void number(Check check) {
        RouteDesk desk = new RouteDesk();
        for (int number = 0; number < 16; number++) {
            check.due("of(" + number + ", 2) before", desk.of(number, 2), RouteDesk.NONE);
            check.due("queue()", desk.queue(), number);
            check.due("of(" + number + ", 2)", desk.of(number, 2), 0);
            check.due("queues", desk.total(1), number + 1);
        }
        check.due("no exchange came", desk.total(0), 0);
        desk.remove(9, true);
        desk.remove(4, true);
        check.due("the least free", desk.queue(), 4);
        check.due("the next free", desk.queue(), 9);
        RouteDesk apart = Check.desk(16, 1, 0);
        check.due("exchanges take no queue's number", apart.queue(), 0);
        RouteDesk busy = Check.busyDesk();
        busy.remove(0, true);
        check.due("an old number", busy.queue(), 0);
        check.due("without the old bindings", busy.of(0, 2), 0);
    }

    private static void sixteen(Check check) {
        RouteDesk desk = Check.desk(0, 0, 15);
        check.due("the 16th", desk.queue(), 15);
        check.dueThrow("the 17th", IllegalStateException.class, desk::queue);
        check.due("queues", desk.total(1), 16);
        desk.remove(3, true);
        check.due("when one has gone", desk.queue(), 3);
        check.dueThrow("the 17th again", IllegalStateException.class, desk::queue);
        check.changesNothing("the 17th", () -> Check.deskWithBindings(40), RouteDesk::queue);
    }
}
