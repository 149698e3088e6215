public final class Promise09MessageTest {
    public static void main(String[] args) {
        Check check = new Check();
        check.sentence("the TAPE (which is empty then) is its KEY", Promise09MessageTest::key);
        check.sentence("(which is empty then)", Promise09MessageTest::tapeIsEmpty);
        check.sentence("no HEADERS", Promise09MessageTest::noHeaders);
        check.sentence("A new MESSAGE", Promise09MessageTest::changesNothingElse);
        check.end();
    }

    private static void key(Check check) {
        RouteDesk desk = Check.desk(1, 0, 4);
        String[] keys = {"one", "two words.*#", "", Check.FULL_TAPE};
        for (int i = 0; i < keys.length; i++) {
            Check.bindQueue(desk, 0, keys[i], i);
        }
        for (int i = 0; i < keys.length; i++) {
            Check.message(desk, keys[i]);
            check.due("letters of '" + keys[i] + "'", desk.total(4), keys[i].length());
            desk.route(0);
            check.due("found with '" + keys[i] + "'", Check.found(desk), " " + i);
        }
    }

    private static void tapeIsEmpty(Check check) {
        RouteDesk desk = new RouteDesk();
        Check.message(desk, Check.FULL_TAPE);
        check.due("there is room for one", desk.type('x', 1), true);
        check.due("it alone is there", Check.tapeIs(desk, "x"), true);
        check.due("nothing is there then", Check.tapeLength(desk), 0);
    }

    private static void noHeaders(Check check) {
        RouteDesk desk = Check.desk(1, 3, 1);
        Check.bindQueue(desk, 0, "any,a,f", 0);
        Check.message(desk, "key", "a=1", "b=2", "c=3", "d=4", "e=5", "f=6");
        check.due("headers", desk.total(3), 6);
        check.due("route(0)", desk.route(0), 1);
        desk.message();
        check.due("headers then", desk.total(3), 0);
        check.due("route(0) then", desk.route(0), 0);
        for (int i = 0; i < 6; i++) {
            check.due("a new header", Check.header(desk, (char) ('u' + i) + "=1"), true);
        }
        Check.message(desk, "key");
        check.due("headers with a key too", desk.total(3), 0);
    }

    private static void changesNothingElse(Check check) {
        RouteDesk desk = Check.busyDesk();
        desk.message();
        check.due("found", Check.found(desk), " 0 1 3");
        check.due("passed", Check.passed(desk), " 0 2 3");
        check.due("exchanges", desk.total(0), 5);
        check.due("queues", desk.total(1), 3);
        check.due("bindings", desk.total(2), 7);
    }
}
