public final class Promise09MessageTest {
    public static void main(String[] args) {
        Check check = new Check();
        RouteDesk desk = Check.desk(1, 0, 3);
        Check.bindQueue(desk, 0, "one", 0);
        Check.bindQueue(desk, 0, "two words.*#", 1);
        Check.bindQueue(desk, 0, "", 2);
        Check.message(desk, "one", "a=1", "b=2");
        check.due("headers", desk.total(3), 2);
        check.due("letters", desk.total(4), 3);
        desk.route(0);
        check.due("found with one", Check.found(desk), " 0");
        Check.message(desk, "two words.*#");
        check.due("no headers", desk.total(3), 0);
        check.due("letters", desk.total(4), 12);
        check.due("what was found stays", Check.found(desk), " 0");
        desk.route(0);
        check.due("found with any text", Check.found(desk), " 1");
        check.due("the tape went", Check.tapeLength(desk), 0);
        check.due("an empty key", desk.route(0), 1);
        check.due("found with the empty key", Check.found(desk), " 2");
        check.end();
    }
}
