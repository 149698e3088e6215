public final class Promise07BindTest {
    private static final Class<?> ARGUMENT = IllegalArgumentException.class;
    private static final Class<?> STATE = IllegalStateException.class;

    public static void main(String[] args) {
        Check check = new Check();
        check.sentence("A BINDING from an EXCHANGE to a QUEUE or EXCHANGE", Promise07BindTest::places);
        check.sentence("with the TAPE as its text", Promise07BindTest::text);
        check.sentence("(it is empty then in any case)", Promise07BindTest::tapeIsEmpty);
        check.sentence("false if it is there", Promise07BindTest::isThere);
        check.sentence("IllegalArgumentException: there is no such EXCHANGE", Promise07BindTest::noFrom);
        check.sentence("no such EXCHANGE or QUEUE", Promise07BindTest::noTo);
        check.sentence("or the text is none for that SORT", Promise07BindTest::badText);
        check.sentence("IllegalStateException, with good ones: there are 120", Promise07BindTest::full);
        check.end();
    }

    private static void places(Check check) {
        RouteDesk desk = Check.desk(16, 1, 16);
        for (int number : new int[] {0, 8, 15}) {
            check.due("bind(15, " + number + ", true)", desk.bind(15, number, true), true);
            check.due("bind(15, " + number + ", false)", desk.bind(15, number, false), true);
            check.due("bind(" + number + ", 3, true)", desk.bind(number, 3, true), true);
        }
        check.due("bindings", desk.total(2), 9);
        check.due("from 15", desk.of(15, 0), 7);
        check.due("to queue 0", desk.of(0, 2), 1);
        check.due("to exchange 15, by itself", desk.of(15, 1), 1);
    }

    private static void text(Check check) {
        RouteDesk desk = Check.desk(1, 0, 3);
        check.due("an empty tape", Check.bindQueue(desk, 0, "", 0), true);
        check.due("a full tape", Check.bindQueue(desk, 0, Check.FULL_TAPE, 1), true);
        check.due("a short one", Check.bindQueue(desk, 0, "a", 2), true);
        String[][] cases = {{"", " 0"}, {Check.FULL_TAPE, " 1"}, {"a", " 2"}, {"b", ""}};
        for (String[] one : cases) {
            Check.message(desk, one[0]);
            desk.route(0);
            check.due("found with '" + one[0] + "'", Check.found(desk), one[1]);
        }
    }

    private static void tapeIsEmpty(Check check) {
        RouteDesk desk = Check.desk(1, 2, 1);
        Check.bindQueue(desk, 0, "good", 0);
        check.due("tape after true", Check.tapeLength(desk), 0);
        Check.bindQueue(desk, 0, "good", 0);
        check.due("tape after false", Check.tapeLength(desk), 0);
        check.dueThrow("a bad text", ARGUMENT, () -> Check.bindQueue(desk, 0, "bad*", 0));
        check.due("tape after a bad text", Check.tapeLength(desk), 0);
        for (int number : Check.NO_NUMBERS) {
            check.dueThrow("no first", ARGUMENT, () -> Check.bindQueue(desk, number, "good", 0));
            check.due("tape after no first", Check.tapeLength(desk), 0);
            check.dueThrow("no queue", ARGUMENT, () -> Check.bindQueue(desk, 0, "good", number));
            check.due("tape after no queue", Check.tapeLength(desk), 0);
            check.dueThrow("no exchange", ARGUMENT, () -> Check.bindExchange(desk, 0, "good", number));
            check.due("tape after no exchange", Check.tapeLength(desk), 0);
        }
        RouteDesk full = fullWithDirect();
        check.dueThrow("the 121st", STATE, () -> Check.bindQueue(full, 15, Check.FULL_TAPE, 0));
        check.due("tape after the 121st", Check.tapeLength(full), 0);
        check.dueThrow("a bad text with 120", ARGUMENT, () -> Check.bindQueue(full, 0, "x", 0));
        check.due("tape after a bad text with 120", Check.tapeLength(full), 0);
    }

    /** 120 bindings; exchange 15 is a direct one, to which and from which none leads. */
    private static RouteDesk fullWithDirect() {
        RouteDesk desk = Check.deskWithBindings(0);
        desk.remove(15, false);
        desk.exchange(0);
        for (int i = 0; i < 120; i++) {
            desk.bind(i / 15, i % 15, true);
        }
        if (desk.total(2) != 120) {
            throw new AssertionError("120 were due");
        }
        return desk;
    }

    private static void isThere(Check check) {
        RouteDesk desk = Check.busyDesk();
        check.due("to a queue", Check.bindQueue(desk, 0, "k.l", 1), false);
        check.due("to an exchange", Check.bindExchange(desk, 2, "k.*", 3), false);
        check.due("with an empty text", desk.bind(1, 0, true), false);
        check.changesNothing("bind of one that is there", Check::busyDesk,
                busy -> Check.bindQueue(busy, 3, "all,a=1", 0));
        RouteDesk gone = Check.desk(1, 1, 1);
        gone.bind(0, 0, true);
        gone.unbind(0, 0, true);
        check.due("it is there no more", gone.bind(0, 0, true), true);
        RouteDesk full = Check.deskWithBindings(120);
        check.due("the first of 120", full.bind(0, 0, true), false);
        check.due("the last of 120", full.bind(3, 7, false), false);
        check.due("bindings", full.total(2), 120);
    }

    private static void noFrom(Check check) {
        for (int number : new int[] {4, 6, 15}) {
            refused(check, number, "", 0, true);
            refused(check, number, "", 0, false);
        }
        for (int number : Check.NO_NUMBERS) {
            refused(check, number, "k.l", 0, true);
            refused(check, number, "k.l", 0, false);
        }
        RouteDesk queues = Check.desk(1, 1, 3);
        check.dueThrow("from a queue's number", ARGUMENT, () -> queues.bind(2, 0, true));
    }

    private static void noTo(Check check) {
        // In the busy desk, exchange 4 and queue 2 have been removed.
        for (int number : new int[] {2, 4, 5, 15}) {
            refused(check, 0, "k.l", number, true);
        }
        for (int number : new int[] {4, 6, 15}) {
            refused(check, 0, "k.l", number, false);
        }
        for (int number : Check.NO_NUMBERS) {
            refused(check, 0, "k.l", number, true);
            refused(check, 0, "k.l", number, false);
        }
    }

    /** The texts themselves: TermsBindingsTest. */
    private static void badText(Check check) {
        String[][] bad = {{}, {"x", " ", "#"}, {"x*", "##", "a.#b"}, {"", "al", "all,", "any,a,b,c,d,e", "all,A"}};
        for (int sort = 0; sort < bad.length; sort++) {
            for (String text : bad[sort]) {
                refused(check, sort, text, 0, true);
                refused(check, sort, text, 0, false);
            }
        }
    }

    private static void refused(Check check, int from, String text, int to, boolean toQueue) {
        String call = "bind(" + from + ", " + to + ", " + toQueue + ") with '" + text + "'";
        RouteDesk one = Check.busyDesk();
        Check.type(one, text);
        check.dueThrow(call, ARGUMENT, () -> one.bind(from, to, toQueue));
        check.changesNothing(call, Check::busyDesk, desk -> {
            Check.type(desk, text);
            desk.bind(from, to, toQueue);
        });
    }

    private static void full(Check check) {
        RouteDesk desk = Check.deskWithBindings(119);
        check.due("the 120th", desk.bind(9, 0, true), true);
        check.dueThrow("the 121st", STATE, () -> desk.bind(9, 1, true));
        check.dueThrow("the 121st, to an exchange", STATE, () -> desk.bind(9, 1, false));
        check.dueThrow("with a bad text", ARGUMENT, () -> Check.bindQueue(desk, 9, "x", 1));
        check.dueThrow("from no exchange", ARGUMENT, () -> desk.bind(16, 1, true));
        check.dueThrow("to no exchange", ARGUMENT, () -> desk.bind(9, 16, false));
        check.dueThrow("to no queue", ARGUMENT, () -> desk.bind(9, -1, true));
        check.due("bindings", desk.total(2), 120);
        check.due("one goes", desk.unbind(9, 0, true), true);
        check.due("another comes", desk.bind(9, 1, true), true);
        check.dueThrow("the 121st again", STATE, () -> desk.bind(9, 0, true));
        check.changesNothing("the 121st", Promise07BindTest::fullWithDirect,
                full -> Check.bindQueue(full, 15, "text", 15));
    }
}
