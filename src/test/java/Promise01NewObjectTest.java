import java.util.NoSuchElementException;

public final class Promise01NewObjectTest {
    public static void main(String[] args) {
        Check check = new Check();
        check.sentence("No EXCHANGES", Promise01NewObjectTest::noExchanges);
        check.sentence("QUEUES", Promise01NewObjectTest::noQueues);
        check.sentence("a MESSAGE with an empty KEY", Promise01NewObjectTest::emptyKey);
        check.sentence("without HEADERS", Promise01NewObjectTest::noHeaders);
        check.sentence("nothing was ROUTED", Promise01NewObjectTest::nothingRouted);
        check.sentence("RouteDesk()", Promise01NewObjectTest::objectsShareNothing);
        check.end();
    }

    private static void noExchanges(Check check) {
        RouteDesk desk = new RouteDesk();
        check.due("total(0)", desk.total(0), 0);
        check.due("total(2)", desk.total(2), 0);
        for (int number = 0; number < 16; number++) {
            int exchange = number;
            for (int what = 0; what < 5; what++) {
                check.due("of(" + number + ", " + what + ")", desk.of(number, what), RouteDesk.NONE);
            }
            check.dueThrow("route(" + number + ")", IllegalArgumentException.class, () -> desk.route(exchange));
            check.due("remove(" + number + ", false)", desk.remove(number, false), false);
        }
        check.due("NONE", RouteDesk.NONE, -1);
    }

    private static void noQueues(Check check) {
        RouteDesk desk = new RouteDesk();
        check.due("total(1)", desk.total(1), 0);
        desk.exchange(1);
        for (int number = 0; number < 16; number++) {
            int queue = number;
            check.dueThrow("bind to queue " + number, IllegalArgumentException.class, () -> desk.bind(0, queue, true));
            check.due("remove(" + number + ", true)", desk.remove(number, true), false);
        }
    }

    private static void emptyKey(Check check) {
        RouteDesk desk = Check.desk(1, 0, 2);
        check.due("total(4)", desk.total(4), 0);
        Check.bindQueue(desk, 0, "", 1);
        Check.bindQueue(desk, 0, "x", 0);
        check.due("route(0)", desk.route(0), 1);
        check.due("found", Check.found(desk), " 1");
    }

    private static void noHeaders(Check check) {
        RouteDesk desk = Check.desk(1, 3, 2);
        check.due("total(3)", desk.total(3), 0);
        Check.bindQueue(desk, 0, "any,a,b,c,d", 0);
        check.due("route(0) by any", desk.route(0), 0);
        Check.bindQueue(desk, 0, "all", 1);
        check.due("route(0) by all", desk.route(0), 1);
        check.due("a first header", Check.header(desk, "a=1"), true);
        check.due("total(3) then", desk.total(3), 1);
    }

    private static void nothingRouted(Check check) {
        RouteDesk desk = new RouteDesk();
        for (int i = -1; i <= 16; i++) {
            int place = i;
            check.dueThrow("found(" + i + ")", NoSuchElementException.class, () -> desk.found(place));
            check.due("passed(" + i + ")", desk.passed(i), false);
        }
        RouteDesk made = Check.deskWithBindings(20);
        check.due("found before the first route", Check.found(made), "");
        check.due("passed before the first route", Check.passed(made), "");
    }

    private static void objectsShareNothing(Check check) {
        RouteDesk one = Check.busyDesk();
        Check.type(one, "tape");
        RouteDesk other = new RouteDesk();
        check.due("the tape's length", Check.tapeLength(other), 0);
        check.due("other", Check.sight(other), Check.sight(new RouteDesk()));
        RouteDesk twin = Check.busyDesk();
        Check.type(twin, "tape");
        check.due("one", Check.sight(one), Check.sight(twin));
    }
}
