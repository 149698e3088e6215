import java.util.NoSuchElementException;

public final class Promise12FoundTest {
    public static void main(String[] args) {
        Check check = new Check();
        RouteDesk desk = Check.desk(2, 1, 16);
        desk.bind(0, 15, true);
        desk.bind(0, 3, true);
        desk.bind(0, 7, true);
        desk.bind(0, 0, true);
        check.dueThrow("before the first route", NoSuchElementException.class, () -> desk.found(0));
        check.due("route(0)", desk.route(0), 4);
        int[] due = {0, 3, 7, 15};
        for (int i = 0; i < due.length; i++) {
            check.due("found(" + i + ")", desk.found(i), due[i]);
        }
        for (int i : new int[] {4, 15, 16, -1, Integer.MIN_VALUE, Integer.MAX_VALUE}) {
            check.dueThrow("found(" + i + ")", NoSuchElementException.class, () -> desk.found(i));
        }
        check.dueThrow("a route that is none", IllegalArgumentException.class, () -> desk.route(2));
        check.due("leaves what was found", Check.found(desk), " 0 3 7 15");
        desk.unbind(0, 3, true);
        desk.message();
        check.due("so does what is changed later", Check.found(desk), " 0 3 7 15");
        check.due("route(1)", desk.route(1), 0);
        check.dueThrow("found(0) then", NoSuchElementException.class, () -> desk.found(0));
        check.end();
    }
}
