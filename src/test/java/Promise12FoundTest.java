import java.util.NoSuchElementException;

public final class Promise12FoundTest {
    private static final Class<?> NO_ELEMENT = NoSuchElementException.class;

    public static void main(String[] args) {
        Check check = new Check();
        check.sentence("The i-th QUEUE that was FOUND", Promise12FoundTest::everyPlace);
        check.sentence("by their numbers", Promise12FoundTest::byNumbers);
        check.sentence("in the latest route()", Promise12FoundTest::latest);
        check.sentence("NoSuchElementException: there is none such", Promise12FoundTest::noneSuch);
        check.end();
    }

    private static RouteDesk desk() {
        RouteDesk desk = Check.desk(3, 1, 16);
        for (int number : new int[] {15, 3, 7, 0}) {
            desk.bind(0, number, true);
        }
        desk.bind(1, 15, true);
        return desk;
    }

    private static void everyPlace(Check check) {
        RouteDesk desk = Check.desk(1, 1, 16);
        for (int number = 0; number < 16; number++) {
            desk.bind(0, number, true);
        }
        check.due("route(0)", desk.route(0), 16);
        for (int i = 0; i < 16; i++) {
            check.due("found(" + i + ")", desk.found(i), i);
        }
        check.dueThrow("found(16)", NO_ELEMENT, () -> desk.found(16));
    }

    private static void byNumbers(Check check) {
        RouteDesk desk = desk();
        check.due("route(0)", desk.route(0), 4);
        int[] due = {0, 3, 7, 15};
        for (int i = 0; i < due.length; i++) {
            check.due("found(" + i + ")", desk.found(i), due[i]);
        }
        check.due("found(1) asked again", desk.found(1), 3);
    }

    private static void latest(Check check) {
        RouteDesk desk = desk();
        desk.route(0);
        check.dueThrow("route(16)", IllegalArgumentException.class, () -> desk.route(16));
        check.due("found after a route that is none", Check.found(desk), " 0 3 7 15");
        desk.unbind(0, 3, true);
        desk.message();
        desk.remove(7, true);
        check.due("found after what is changed later", Check.found(desk), " 0 3 7 15");
        desk.route(1);
        check.due("found in the next", Check.found(desk), " 15");
        desk.route(2);
        check.due("found in one that finds nothing", Check.found(desk), "");
        desk.route(0);
        check.due("found in the last", Check.found(desk), " 0 15");
    }

    private static void noneSuch(Check check) {
        RouteDesk desk = desk();
        check.dueThrow("before the first route", NO_ELEMENT, () -> desk.found(0));
        desk.route(0);
        check.due("found(3)", desk.found(3), 15);
        for (int i : new int[] {4, 5, 7, 15}) {
            check.dueThrow("found(" + i + ")", NO_ELEMENT, () -> desk.found(i));
        }
        for (int i : Check.NO_NUMBERS) {
            check.dueThrow("found(" + i + ")", NO_ELEMENT, () -> desk.found(i));
        }
        desk.route(2);
        check.dueThrow("found(0) when nothing was found", NO_ELEMENT, () -> desk.found(0));
        check.changesNothing("found(3)", Check::busyDesk, busy -> busy.found(3));
    }
}
