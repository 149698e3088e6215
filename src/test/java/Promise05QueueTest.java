public final class Promise05QueueTest {
    public static void main(String[] args) {
        Check check = new Check();
        RouteDesk desk = new RouteDesk();
        for (int number = 0; number < 16; number++) {
            check.due("of(" + number + ", 2) before", desk.of(number, 2), RouteDesk.NONE);
            check.due("queue " + number, desk.queue(), number);
            check.due("of(" + number + ", 2)", desk.of(number, 2), 0);
        }
        check.dueThrow("the 17th", IllegalStateException.class, desk::queue);
        check.due("there are 16", desk.total(1), 16);
        check.due("and no exchange", desk.total(0), 0);
        desk.remove(9, true);
        desk.remove(4, true);
        check.due("the least free", desk.queue(), 4);
        check.due("the next free", desk.queue(), 9);
        check.dueThrow("full again", IllegalStateException.class, desk::queue);
        check.end();
    }
}
