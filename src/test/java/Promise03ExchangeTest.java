public final class Promise03ExchangeTest {
    public static void main(String[] args) {
        Check check = new Check();
        RouteDesk desk = new RouteDesk();
        for (int sort : new int[] {-1, 4, Integer.MIN_VALUE, Integer.MAX_VALUE}) {
            check.dueThrow("exchange(" + sort + ")", IllegalArgumentException.class, () -> desk.exchange(sort));
        }
        check.due("none was made", desk.total(0), 0);
        for (int number = 0; number < 16; number++) {
            check.due("exchange " + number, desk.exchange(number % 4), number);
            check.due("its sort", desk.of(number, 3), number % 4);
            check.due("its alternate", desk.of(number, 4), RouteDesk.NONE);
        }
        check.dueThrow("the 17th", IllegalStateException.class, () -> desk.exchange(0));
        check.dueThrow("the 17th of no sort", IllegalArgumentException.class, () -> desk.exchange(4));
        check.due("there are 16", desk.total(0), 16);
        leastFreeNumber(check, desk);
        check.end();
    }

    private static void leastFreeNumber(Check check, RouteDesk desk) {
        desk.alternate(5, 6);
        desk.remove(11, false);
        desk.remove(5, false);
        check.due("the least free", desk.exchange(0), 5);
        check.due("of the new sort", desk.of(5, 3), 0);
        check.due("without the old alternate", desk.of(5, 4), RouteDesk.NONE);
        check.due("the next free", desk.exchange(2), 11);
        check.dueThrow("full again", IllegalStateException.class, () -> desk.exchange(3));
    }
}
