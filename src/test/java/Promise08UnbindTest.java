public final class Promise08UnbindTest {
    public static void main(String[] args) {
        Check check = new Check();
        check.sentence("That BINDING goes", Promise08UnbindTest::goes);
        check.sentence("(the TAPE is empty then in any case): true", Promise08UnbindTest::tapeIsEmpty);
        check.sentence("false if it is not there", Promise08UnbindTest::notThere);
        check.end();
    }

    private static void goes(Check check) {
        RouteDesk desk = Check.desk(2, 0, 2);
        Check.bindQueue(desk, 0, "a", 1);
        Check.bindExchange(desk, 0, "a", 1);
        Check.bindQueue(desk, 0, "b", 1);
        check.due("the first", Check.unbindQueue(desk, 0, "a", 1), true);
        check.due("two are there", desk.total(2), 2);
        Check.message(desk, "a");
        desk.route(0);
        check.due("no longer found", Check.found(desk), "");
        check.due("the exchange is still led to", Check.passed(desk), " 0 1");
        Check.message(desk, "b");
        desk.route(0);
        check.due("the other text is still there", Check.found(desk), " 1");
        check.due("the one to the exchange", Check.unbindExchange(desk, 0, "a", 1), true);
        check.due("one is there", desk.total(2), 1);
        check.due("bound again", Check.bindQueue(desk, 0, "a", 1), true);
        check.due("the longest text is bound", Check.bindQueue(desk, 0, Check.FULL_TAPE, 1), true);
        check.due("the longest text goes", Check.unbindQueue(desk, 0, Check.FULL_TAPE, 1), true);
        RouteDesk full = Check.deskWithBindings(120);
        for (int i = 119; i >= 0; i--) {
            check.due("binding " + i, full.unbind(i / 32, i % 16, i % 32 < 16), true);
        }
        check.due("all have gone", full.total(2), 0);
    }

    private static void tapeIsEmpty(Check check) {
        RouteDesk desk = Check.desk(1, 0, 1);
        Check.bindQueue(desk, 0, "text", 0);
        check.due("true", Check.unbindQueue(desk, 0, "text", 0), true);
        check.due("tape after true", Check.tapeLength(desk), 0);
        check.due("false", Check.unbindQueue(desk, 0, "text", 0), false);
        check.due("tape after false", Check.tapeLength(desk), 0);
        for (int number : Check.NO_NUMBERS) {
            check.due("from " + number, Check.unbindQueue(desk, number, "text", 0), false);
            check.due("tape after it", Check.tapeLength(desk), 0);
            check.due("to " + number, Check.unbindExchange(desk, 0, "text", number), false);
            check.due("tape after it", Check.tapeLength(desk), 0);
        }
        RouteDesk topic = Check.desk(1, 2, 1);
        check.due("a text that is none for the sort", Check.unbindQueue(topic, 0, "a*", 0), false);
        check.due("tape after it", Check.tapeLength(topic), 0);
    }

    private static void notThere(Check check) {
        refused(check, 0, "k.m", 1, true);
        refused(check, 0, "k.", 1, true);
        refused(check, 0, "k.l.", 1, true);
        refused(check, 0, "", 1, true);
        refused(check, 0, "K.L", 1, true);
        refused(check, 0, "k.l", 0, true);
        refused(check, 0, "k.l", 1, false);
        refused(check, 0, "k.l", 2, true);
        refused(check, 1, "k.l", 1, true);
        refused(check, 3, "all,a=1,a=1", 0, true);
        refused(check, 1, "x", 0, true);
        refused(check, 4, "", 0, true);
        for (int number : Check.NO_NUMBERS) {
            refused(check, number, "k.l", 1, true);
            refused(check, 0, "k.l", number, true);
            refused(check, 0, "k.l", number, false);
        }
        RouteDesk none = new RouteDesk();
        check.due("without any binding", none.unbind(0, 0, true), false);
        RouteDesk gone = Check.desk(2, 1, 1);
        gone.bind(0, 0, true);
        gone.bind(0, 1, false);
        gone.remove(0, true);
        gone.queue();
        check.due("it went with its queue", gone.unbind(0, 0, true), false);
        gone.remove(1, false);
        gone.exchange(1);
        check.due("it went with its exchange", gone.unbind(0, 1, false), false);
    }

    private static void refused(Check check, int from, String text, int to, boolean toQueue) {
        String call = "unbind(" + from + ", " + to + ", " + toQueue + ") with '" + text + "'";
        RouteDesk one = Check.busyDesk();
        Check.type(one, text);
        check.due(call, one.unbind(from, to, toQueue), false);
        check.changesNothing(call, Check::busyDesk, desk -> {
            Check.type(desk, text);
            desk.unbind(from, to, toQueue);
        });
    }
}
