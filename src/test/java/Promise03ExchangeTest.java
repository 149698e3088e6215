public final class Promise03ExchangeTest {
    private static final int[] NO_SORTS = {-1, -4, 4, 5, 7, 256, 65536, Integer.MIN_VALUE, Integer.MAX_VALUE};

    public static void main(String[] args) {
        Check check = new Check();
        check.sentence("A new EXCHANGE of a SORT", Promise03ExchangeTest::sorts);
        check.sentence("without ALTERNATE", Promise03ExchangeTest::noAlternate);
        check.sentence("its number", Promise03ExchangeTest::number);
        check.sentence("IllegalArgumentException: no such SORT", Promise03ExchangeTest::noSuchSort);
        check.sentence("IllegalStateException: there are 16", Promise03ExchangeTest::sixteen);
        check.end();
    }

    private static void sorts(Check check) {
        RouteDesk desk = new RouteDesk();
        for (int number = 0; number < 16; number++) {
            desk.exchange(3 - number % 4);
            check.due("of(" + number + ", 3)", desk.of(number, 3), 3 - number % 4);
        }
        desk.remove(5, false);
        desk.exchange(0);
        check.due("the sort of a new one of an old number", desk.of(5, 3), 0);
        check.due("the sort beside it", desk.of(4, 3), 3);
        RouteDesk fresh = Check.busyDesk();
        int made = fresh.exchange(1);
        check.due("bindings from it", fresh.of(made, 0), 0);
        check.due("bindings to it", fresh.of(made, 1), 0);
    }

    private static void noAlternate(Check check) {
        RouteDesk desk = new RouteDesk();
        for (int number = 0; number < 16; number++) {
            desk.exchange(number % 4);
            check.due("of(" + number + ", 4)", desk.of(number, 4), RouteDesk.NONE);
            desk.alternate(number, (number + 1) % 16);
        }
        for (int number : new int[] {0, 7, 15}) {
            desk.remove(number, false);
            desk.exchange(1);
            check.due("of(" + number + ", 4), the old one had an alternate", desk.of(number, 4), RouteDesk.NONE);
        }
    }

    private static void number(Check check) {
        RouteDesk desk = Check.desk(0, 0, 9);
        for (int number = 0; number < 16; number++) {
            check.due("exchange", desk.exchange(number % 4), number);
            check.due("exchanges", desk.total(0), number + 1);
        }
        desk.remove(11, false);
        desk.remove(5, false);
        desk.remove(6, true);
        check.due("the least free", desk.exchange(0), 5);
        check.due("the next free", desk.exchange(2), 11);
    }

    private static void noSuchSort(Check check) {
        for (int sort : NO_SORTS) {
            RouteDesk none = new RouteDesk();
            check.dueThrow("exchange(" + sort + ")", IllegalArgumentException.class, () -> none.exchange(sort));
            check.due("exchanges", none.total(0), 0);
            RouteDesk full = Check.desk(16, 1, 0);
            check.dueThrow("exchange(" + sort + ") with 16", IllegalArgumentException.class,
                    () -> full.exchange(sort));
            check.changesNothing("exchange(" + sort + ")", Check::busyDesk, desk -> desk.exchange(sort));
        }
    }

    private static void sixteen(Check check) {
        for (int sort = 0; sort < 4; sort++) {
            int other = sort;
            RouteDesk desk = Check.desk(15, sort, 0);
            check.due("the 16th", desk.exchange(sort), 15);
            check.dueThrow("the 17th", IllegalStateException.class, () -> desk.exchange(other));
            check.changesNothing("the 17th", () -> Check.deskWithBindings(40), full -> full.exchange(other));
            desk.remove(other, false);
            check.due("when one has gone", desk.exchange(sort), sort);
            check.dueThrow("the 17th again", IllegalStateException.class, () -> desk.exchange(other));
        }
    }
}
