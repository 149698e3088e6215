public final class Promise15TotalTest {
    public static void main(String[] args) {
        Check check = new Check();
        check.sentence("What 0: EXCHANGES", Promise15TotalTest::exchanges);
        check.sentence("1: QUEUES", Promise15TotalTest::queues);
        check.sentence("2: BINDINGS", Promise15TotalTest::bindings);
        check.sentence("3: HEADERS of the MESSAGE", Promise15TotalTest::headers);
        check.sentence("4: letters of its KEY", Promise15TotalTest::letters);
        check.sentence("NONE for another what", Promise15TotalTest::anotherWhat);
        check.end();
    }

    private static void exchanges(Check check) {
        check.due("none", Check.desk(0, 0, 5).total(0), 0);
        check.due("some, one has gone", Check.busyDesk().total(0), 5);
        RouteDesk desk = Check.desk(16, 1, 0);
        check.due("all", desk.total(0), 16);
        for (int number = 0; number < 16; number++) {
            desk.remove(number, false);
            check.due("one less", desk.total(0), 15 - number);
        }
    }

    private static void queues(Check check) {
        check.due("none", Check.desk(5, 0, 0).total(1), 0);
        check.due("some, one has gone", Check.busyDesk().total(1), 3);
        RouteDesk desk = Check.desk(0, 0, 16);
        check.due("all", desk.total(1), 16);
        for (int number = 0; number < 16; number++) {
            desk.remove(number, true);
            check.due("one less", desk.total(1), 15 - number);
        }
    }

    private static void bindings(Check check) {
        check.due("none", Check.desk(5, 0, 5).total(2), 0);
        check.due("some", Check.busyDesk().total(2), 7);
        RouteDesk desk = Check.deskWithBindings(120);
        check.due("all", desk.total(2), 120);
        desk.unbind(3, 7, false);
        check.due("one less", desk.total(2), 119);
        desk.remove(2, false);
        check.due("without those of exchange 2", desk.total(2), 84);
    }

    private static void headers(Check check) {
        RouteDesk desk = new RouteDesk();
        check.due("none", desk.total(3), 0);
        Check.message(desk, "key", "a=1", "b=", "c=3", "d=4", "e=5", "f=6");
        check.due("six", desk.total(3), 6);
        Check.header(desk, "a=2");
        check.due("one of that name", desk.total(3), 6);
        desk.message();
        check.due("a new message", desk.total(3), 0);
    }

    private static void letters(Check check) {
        for (String key : new String[] {"", "a", "K.e y1", "....", "    ", "0".repeat(47), "0".repeat(48)}) {
            RouteDesk desk = new RouteDesk();
            Check.message(desk, key, "abc=def");
            Check.type(desk, "tape");
            check.due("key '" + key + "'", desk.total(4), key.length());
        }
    }

    private static void anotherWhat(Check check) {
        RouteDesk desk = Check.busyDesk();
        for (int what : new int[] {-1, -5, 5, 6, 8, 256, 65536, Integer.MIN_VALUE, Integer.MAX_VALUE}) {
            check.due("total(" + what + ")", desk.total(what), RouteDesk.NONE);
        }
    }
}
