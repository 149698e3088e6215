import java.util.NoSuchElementException;

public final class Promise01NewObjectTest {
    public static void main(String[] args) {
        Check check = new Check();
        RouteDesk desk = new RouteDesk();
        for (int what = 0; what <= 4; what++) {
            check.due("new: total(" + what + ")", desk.total(what), 0);
        }
        for (int number = 0; number < 16; number++) {
            check.due("new: passed(" + number + ")", desk.passed(number), false);
            int exchange = number;
            check.dueThrow("new: route(" + number + ")", IllegalArgumentException.class, () -> desk.route(exchange));
            check.due("new: remove exchange", desk.remove(number, false), false);
            check.due("new: remove queue", desk.remove(number, true), false);
        }
        check.dueThrow("new: found(0)", NoSuchElementException.class, () -> desk.found(0));
        check.due("new: the tape's length", Check.tapeLength(desk), 0);
        firstMessageHasAnEmptyKey(check);
        objectsShareNothing(check);
        check.due("NONE", RouteDesk.NONE, -1);
        check.end();
    }

    private static void firstMessageHasAnEmptyKey(Check check) {
        RouteDesk desk = Check.desk(1, 0, 2);
        Check.bindQueue(desk, 0, "", 1);
        Check.bindQueue(desk, 0, "x", 0);
        check.due("first message: route(0)", desk.route(0), 1);
        check.due("first message: found", Check.found(desk), " 1");
    }

    private static void objectsShareNothing(Check check) {
        RouteDesk one = Check.deskWithBindings(3);
        Check.type(one, "tape");
        one.route(0);
        RouteDesk other = new RouteDesk();
        check.due("other: total(0)", other.total(0), 0);
        check.due("other: total(1)", other.total(1), 0);
        check.due("other: total(2)", other.total(2), 0);
        check.due("other: passed", Check.passed(other), "");
        check.due("other: found", Check.found(other), "");
        check.due("other: the tape's length", Check.tapeLength(other), 0);
    }
}
