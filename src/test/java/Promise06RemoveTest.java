public final class Promise06RemoveTest {
    public static void main(String[] args) {
        Check check = new Check();
        check.sentence("An EXCHANGE (or QUEUE) goes", Promise06RemoveTest::goes);
        check.sentence("with all BINDINGS from and to it", Promise06RemoveTest::bindingsOfExchange);
        check.sentence("(or QUEUE) goes, with all BINDINGS", Promise06RemoveTest::bindingsOfQueue);
        check.sentence("(ALTERNATES that tell its number stay): true", Promise06RemoveTest::alternatesStay);
        check.sentence("false if there is none such", Promise06RemoveTest::noneSuch);
        check.sentence("was FOUND in the latest route()", Promise06RemoveTest::whatWasRoutedStays);
        check.end();
    }

    /** 0 to 1, 1 to 0, 1 to itself, 1 to queue 1, 2 to 1, 2 to queue 1, 2 to 0. */
    private static RouteDesk desk() {
        RouteDesk desk = Check.desk(3, 0, 2);
        Check.bindExchange(desk, 0, "a", 1);
        Check.bindExchange(desk, 1, "a", 0);
        Check.bindExchange(desk, 1, "a", 1);
        Check.bindQueue(desk, 1, "a", 1);
        Check.bindExchange(desk, 2, "b", 1);
        Check.bindQueue(desk, 2, "b", 1);
        Check.bindExchange(desk, 2, "b", 0);
        return desk;
    }

    private static void goes(Check check) {
        RouteDesk desk = Check.desk(16, 1, 16);
        for (int number : new int[] {0, 8, 15}) {
            check.due("remove(" + number + ", false)", desk.remove(number, false), true);
            check.due("its sort", desk.of(number, 3), RouteDesk.NONE);
            check.due("the queue of that number", desk.of(number, 2), 0);
        }
        check.due("exchanges", desk.total(0), 13);
        check.due("queues", desk.total(1), 16);
        for (int number : new int[] {0, 7, 15}) {
            check.due("remove(" + number + ", true)", desk.remove(number, true), true);
            check.due("bindings to it", desk.of(number, 2), RouteDesk.NONE);
        }
        check.due("exchanges", desk.total(0), 13);
        check.due("queues", desk.total(1), 13);
        check.due("the exchange of a queue's number", desk.of(7, 3), 1);
    }

    private static void bindingsOfExchange(Check check) {
        RouteDesk desk = desk();
        desk.remove(1, false);
        check.due("bindings", desk.total(2), 2);
        check.due("from 0", desk.of(0, 0), 0);
        check.due("from 2", desk.of(2, 0), 2);
        check.due("to queue 1", desk.of(1, 2), 1);
        check.due("to 0", desk.of(0, 1), 1);
        check.due("a new one", desk.exchange(0), 1);
        check.due("from the new one", desk.of(1, 0), 0);
        check.due("to the new one", desk.of(1, 1), 0);
        RouteDesk full = Check.deskWithBindings(120);
        full.remove(0, false);
        check.due("32 from it and 3 more to it go", full.total(2), 85);
        RouteDesk single = new RouteDesk();
        single.exchange(0);
        single.queue();
        for (int i = 0; i < 120; i++) {
            single.type('A' + i % 60, 1);
            single.bind(0, 0, i < 60);
        }
        check.due("all 120 are of one", single.total(2), 120);
        single.remove(0, false);
        check.due("all 120 go", single.total(2), 0);
    }

    private static void bindingsOfQueue(Check check) {
        RouteDesk desk = desk();
        desk.remove(1, true);
        check.due("bindings", desk.total(2), 5);
        check.due("from exchange 1", desk.of(1, 0), 2);
        check.due("to exchange 1", desk.of(1, 1), 3);
        check.due("a new one", desk.queue(), 1);
        check.due("to the new one", desk.of(1, 2), 0);
        Check.message(desk, "b");
        check.due("route(2)", desk.route(2), 0);
        RouteDesk full = Check.deskWithBindings(120);
        full.remove(0, true);
        check.due("4 to it go", full.total(2), 116);
    }

    private static void alternatesStay(Check check) {
        RouteDesk desk = Check.desk(16, 0, 0);
        desk.alternate(0, 1);
        desk.alternate(14, 1);
        desk.alternate(1, 2);
        check.due("remove(1, false)", desk.remove(1, false), true);
        check.due("of(0, 4)", desk.of(0, 4), 1);
        check.due("of(14, 4)", desk.of(14, 4), 1);
        desk.route(0);
        check.due("passed without it", Check.passed(desk), " 0");
        desk.exchange(1);
        desk.route(0);
        check.due("passed with a new one", Check.passed(desk), " 0 1");
        check.due("remove(0, false)", desk.remove(0, false), true);
        check.due("its own goes with it", desk.of(0, 4), RouteDesk.NONE);
    }

    private static void noneSuch(Check check) {
        // In the busy desk, exchange 4 and queue 2 have been removed.
        for (int number : new int[] {4, 6, 15}) {
            refused(check, number, false);
        }
        for (int number : new int[] {2, 4, 5, 15}) {
            refused(check, number, true);
        }
        for (int number : Check.NO_NUMBERS) {
            refused(check, number, false);
            refused(check, number, true);
        }
        RouteDesk twice = Check.desk(2, 1, 2);
        check.due("an exchange", twice.remove(1, false), true);
        check.due("the exchange again", twice.remove(1, false), false);
        check.due("a queue", twice.remove(1, true), true);
        check.due("the queue again", twice.remove(1, true), false);
    }

    private static void refused(Check check, int number, boolean isQueue) {
        String call = "remove(" + number + ", " + isQueue + ")";
        check.due(call, Check.busyDesk().remove(number, isQueue), false);
        check.changesNothing(call, Check::busyDesk, desk -> desk.remove(number, isQueue));
    }

    private static void whatWasRoutedStays(Check check) {
        RouteDesk desk = desk();
        Check.message(desk, "b");
        check.due("route(2)", desk.route(2), 1);
        desk.remove(1, true);
        desk.remove(1, false);
        check.due("found", Check.found(desk), " 1");
        check.due("passed", Check.passed(desk), " 0 1 2");
        check.due("route(2) without them", desk.route(2), 0);
        check.due("found then", Check.found(desk), "");
        check.due("passed then", Check.passed(desk), " 0 2");
    }
}
