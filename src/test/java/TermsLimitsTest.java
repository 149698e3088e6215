/** The sentences under "Terms" (and the one on 512 calls) that tell how much there may be of something. */
public final class TermsLimitsTest {
    private static final Class<?> STATE = IllegalStateException.class;

    public static void main(String[] args) {
        Check check = new Check();
        check.sentence("An object is used for at most 512 calls", TermsLimitsTest::lastCall);
        check.sentence("THE TAPE (at most 48 characters", TermsLimitsTest::tapeLength);
        check.sentence("characters, 32 .. 126", TermsLimitsTest::tapeCharacters);
        check.sentence("EXCHANGES (at most 16 at one time", TermsLimitsTest::exchanges);
        check.sentence("numbers 0 .. 15, the least free one", TermsLimitsTest::exchangeNumbers);
        check.sentence("of a SORT: 0 DIRECT, 1 FANOUT, 2 TOPIC, 3 HEADERS", TermsLimitsTest::sorts);
        check.sentence("an ALTERNATE (another EXCHANGE's number, which need not be there)",
                TermsLimitsTest::alternate);
        check.sentence("QUEUES (at most 16 at one time", TermsLimitsTest::queues);
        check.sentence("numbers likewise", TermsLimitsTest::queueNumbers);
        check.sentence("a KEY (a text, perhaps empty)", TermsLimitsTest::key);
        check.sentence("at most 6 HEADERS", TermsLimitsTest::headers);
        check.sentence("a NAME (1 to 6 small letters)", TermsLimitsTest::name);
        check.sentence("a VALUE (0 to 6 small letters or digits)", TermsLimitsTest::value);
        check.sentence("A BINDING (at most 120 at one time)", TermsLimitsTest::bindings);
        check.end();
    }

    private static void lastCall(Check check) {
        RouteDesk desk = Check.desk(1, 0, 1);
        Check.bindQueue(desk, 0, "a", 0);
        int calls = 4;
        for (int round = 0; round < 127; round++) {
            boolean isA = round % 2 == 0;
            check.due("call " + (calls + 1), desk.type(isA ? 'a' : 'b', 1), true);
            desk.message();
            check.due("call " + (calls + 3), desk.route(0), isA ? 1 : 0);
            check.due("call " + (calls + 4), desk.total(4), 1);
            calls += 4;
        }
        check.due("calls in all", calls, 512);
    }

    private static void tapeLength(Check check) {
        RouteDesk desk = new RouteDesk();
        for (int i = 0; i < 48; i++) {
            check.due("character " + (i + 1), desk.type('x', 1), true);
        }
        check.due("character 49", desk.type('x', 1), false);
        check.due("the tape's length", Check.tapeLength(desk), 48);
    }

    private static void tapeCharacters(Check check) {
        for (int character : new int[] {32, 33, 125, 126}) {
            check.due("type of " + character, new RouteDesk().type(character, 1), true);
        }
        for (int character : new int[] {0, 31, 127, 128, 255}) {
            check.due("type of " + character, new RouteDesk().type(character, 1), false);
        }
    }

    private static void exchanges(Check check) {
        RouteDesk desk = new RouteDesk();
        for (int i = 0; i < 16; i++) {
            desk.exchange(i % 4);
            check.due("exchanges", desk.total(0), i + 1);
        }
        check.dueThrow("the 17th", STATE, () -> desk.exchange(0));
        for (int i = 0; i < 40; i++) {
            check.due("one goes", desk.remove(i % 16, false), true);
            check.due("another comes", desk.exchange(0), i % 16);
            check.dueThrow("the 17th again", STATE, () -> desk.exchange(0));
        }
        check.due("exchanges at the end", desk.total(0), 16);
    }

    private static void exchangeNumbers(Check check) {
        RouteDesk desk = new RouteDesk();
        for (int number = 0; number < 16; number++) {
            check.due("exchange()", desk.exchange(1), number);
        }
        for (int number : new int[] {15, 0, 7}) {
            desk.remove(number, false);
        }
        for (int number : new int[] {0, 7, 15}) {
            check.due("the least free", desk.exchange(1), number);
        }
    }

    private static void sorts(Check check) {
        RouteDesk desk = new RouteDesk();
        for (int sort = 0; sort < 4; sort++) {
            desk.exchange(sort);
            desk.queue();
        }
        Check.bindQueue(desk, 0, "all", 0);
        desk.bind(1, 1, true);
        Check.bindQueue(desk, 2, "all", 2);
        Check.bindQueue(desk, 2, "x.#", 2);
        Check.bindQueue(desk, 3, "all", 3);
        String[][] cases = {{"all", " 0 1 2 3"}, {"x.y", " 1 2 3"}, {"", " 1 3"}};
        for (String[] one : cases) {
            Check.message(desk, one[0]);
            StringBuilder met = new StringBuilder();
            for (int number = 0; number < 4; number++) {
                if (desk.route(number) == 1) {
                    met.append(' ').append(number);
                }
            }
            check.due("sorts met by '" + one[0] + "'", met.toString(), one[1]);
        }
    }

    private static void alternate(Check check) {
        RouteDesk desk = Check.desk(1, 1, 0);
        check.due("alternate(0, 1), 1 is not there", desk.alternate(0, 1), true);
        check.due("of(0, 4)", desk.of(0, 4), 1);
        desk.route(0);
        check.due("passed without 1", Check.passed(desk), " 0");
        desk.exchange(1);
        desk.route(0);
        check.due("passed with 1", Check.passed(desk), " 0 1");
    }

    private static void queues(Check check) {
        RouteDesk desk = new RouteDesk();
        for (int i = 0; i < 16; i++) {
            desk.queue();
            check.due("queues", desk.total(1), i + 1);
        }
        check.dueThrow("the 17th", STATE, desk::queue);
        for (int i = 0; i < 40; i++) {
            check.due("one goes", desk.remove(i % 16, true), true);
            check.due("another comes", desk.queue(), i % 16);
            check.dueThrow("the 17th again", STATE, desk::queue);
        }
        check.due("queues at the end", desk.total(1), 16);
    }

    private static void queueNumbers(Check check) {
        RouteDesk desk = Check.desk(5, 1, 0);
        for (int number = 0; number < 16; number++) {
            check.due("queue()", desk.queue(), number);
        }
        for (int number : new int[] {15, 0, 7}) {
            desk.remove(number, true);
        }
        for (int number : new int[] {0, 7, 15}) {
            check.due("the least free", desk.queue(), number);
        }
    }

    private static void key(Check check) {
        check.isMet(0, "", true, "");
        check.isMet(0, "", false, " ");
        check.isMet(0, " ", false, "");
        check.isMet(0, Check.FULL_TAPE, true, Check.FULL_TAPE);
        RouteDesk desk = new RouteDesk();
        Check.message(desk, "key");
        desk.message();
        check.due("letters of an empty key behind another", desk.total(4), 0);
    }

    private static void headers(Check check) {
        RouteDesk desk = new RouteDesk();
        for (int round = 0; round < 2; round++) {
            for (int i = 0; i < 6; i++) {
                check.due("header " + (i + 1), Check.header(desk, (char) ('a' + i) + "=x"), true);
                check.due("headers", desk.total(3), i + 1);
            }
            check.due("the seventh", Check.header(desk, "g=x"), false);
            check.due("headers then", desk.total(3), 6);
            desk.message();
        }
    }

    private static void name(Check check) {
        headerTaken(check, "=x", false);
        headerTaken(check, "a=x", true);
        headerTaken(check, "abcdef=x", true);
        headerTaken(check, "abcdefg=x", false);
        for (char sign = 32; sign <= 126; sign++) {
            boolean good = sign >= 'a' && sign <= 'z';
            headerTaken(check, sign + "=x", good);
            headerTaken(check, "a" + sign + "=x", good);
            headerTaken(check, "abcde" + sign + "=x", good);
        }
    }

    private static void value(Check check) {
        headerTaken(check, "a=", true);
        headerTaken(check, "a=b", true);
        headerTaken(check, "a=abc123", true);
        headerTaken(check, "a=abc1234", false);
        for (char sign = 32; sign <= 126; sign++) {
            boolean good = sign >= 'a' && sign <= 'z' || sign >= '0' && sign <= '9';
            headerTaken(check, "a=" + sign, good);
            headerTaken(check, "a=b" + sign, good);
            headerTaken(check, "a=12345" + sign, good);
        }
    }

    private static void headerTaken(Check check, String text, boolean want) {
        RouteDesk desk = new RouteDesk();
        check.due("header '" + text + "'", Check.header(desk, text), want);
        check.due("headers after '" + text + "'", desk.total(3), want ? 1 : 0);
    }

    private static void bindings(Check check) {
        RouteDesk desk = Check.deskWithBindings(119);
        check.due("the 120th", desk.bind(15, 15, true), true);
        check.dueThrow("the 121st", STATE, () -> desk.bind(15, 14, true));
        for (int i = 0; i < 16; i++) {
            check.due("one goes", desk.unbind(0, i, true), true);
            check.due("another comes", desk.bind(14, i, true), true);
            check.dueThrow("the 121st again", STATE, () -> desk.bind(15, 14, true));
        }
        desk.remove(14, false);
        check.due("16 from 14 and 3 to it have gone", desk.total(2), 101);
        for (int i = 0; i < 19; i++) {
            check.due("another comes", desk.bind(13 - i / 16, i % 16, true), true);
        }
        check.dueThrow("the 121st at last", STATE, () -> desk.bind(15, 14, true));
        check.due("bindings at the end", desk.total(2), 120);
    }
}
