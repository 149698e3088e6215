public final class Promise14OfTest {
    public static void main(String[] args) {
        Check check = new Check();
        RouteDesk desk = new RouteDesk();
        for (int sort = 0; sort < 4; sort++) {
            desk.exchange(sort);
        }
        desk.queue();
        desk.queue();
        Check.bindQueue(desk, 0, "a", 1);
        Check.bindQueue(desk, 0, "b", 1);
        Check.bindExchange(desk, 0, "a", 2);
        Check.bindExchange(desk, 0, "a", 0);
        desk.bind(1, 2, false);
        Check.bindQueue(desk, 2, "#", 1);
        desk.alternate(2, 0);
        desk.alternate(3, 14);
        int[][] due = {{4, 1, 0, 0, -1}, {1, 0, 3, 1, -1}, {1, 2, -1, 2, 0}, {0, 0, -1, 3, 14}, {-1, -1, -1, -1, -1}};
        for (int number = 0; number < due.length; number++) {
            for (int what = 0; what < 5; what++) {
                check.due("of(" + number + ", " + what + ")", desk.of(number, what), due[number][what]);
            }
        }
        for (int what : new int[] {-1, 5, Integer.MIN_VALUE, Integer.MAX_VALUE}) {
            check.due("of(0, " + what + ")", desk.of(0, what), RouteDesk.NONE);
        }
        for (int number : new int[] {-1, 15, 16, Integer.MIN_VALUE, Integer.MAX_VALUE}) {
            for (int what = -1; what <= 5; what++) {
                check.due("of(" + number + ", " + what + ")", desk.of(number, what), RouteDesk.NONE);
            }
        }
        queueWithoutExchange(check);
        check.end();
    }

    private static void queueWithoutExchange(Check check) {
        RouteDesk desk = Check.desk(1, 1, 3);
        desk.bind(0, 2, true);
        check.due("a queue's number that no exchange has", desk.of(2, 2), 1);
        check.due("no such exchange", desk.of(2, 0), RouteDesk.NONE);
        check.due("no such exchange either", desk.of(2, 1), RouteDesk.NONE);
    }
}
