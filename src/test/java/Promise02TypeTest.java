public final class Promise02TypeTest {
    public static void main(String[] args) {
        Check check = new Check();
        check.sentence("The n (1 .. 8) lowest bytes of word", Promise02TypeTest::lowestBytes);
        check.sentence("the highest first", Promise02TypeTest::order);
        check.sentence("go to the TAPE: true", Promise02TypeTest::staysOnTape);
        check.sentence("false, changing nothing, for another n", Promise02TypeTest::anotherCount);
        check.sentence("a byte that is not 32 .. 126", Promise02TypeTest::characters);
        check.sentence("or if it would have more than 48", Promise02TypeTest::tooMany);
        check.end();
    }

    private static void lowestBytes(Check check) {
        String text = "~bcdefg ";
        for (int n = 1; n <= 8; n++) {
            RouteDesk desk = new RouteDesk();
            check.due("type of " + n, desk.type(Check.word(text), n), true);
            check.due("the tape has the last " + n, Check.tapeIs(desk, text.substring(8 - n)), true);
        }
        for (int n = 1; n <= 7; n++) {
            // The bytes above are none for the tape, but they are not asked for.
            RouteDesk desk = new RouteDesk();
            long word = -1L << 8 * n | Check.word(text) & ~(-1L << 8 * n);
            check.due("type of " + n + " below bytes of ones", desk.type(word, n), true);
            check.due("the tape has the last " + n, Check.tapeIs(desk, text.substring(8 - n)), true);
            check.due("type of one more", new RouteDesk().type(word, n + 1), false);
            word = Check.word(text.substring(8 - n));
            check.due("type of " + n + " below bytes of naught", new RouteDesk().type(word, n), true);
            check.due("type of one more", new RouteDesk().type(word, n + 1), false);
        }
    }

    private static void order(Check check) {
        RouteDesk desk = new RouteDesk();
        desk.type(Check.word("abc"), 3);
        desk.type(Check.word("de"), 2);
        desk.type(Check.word("f"), 1);
        desk.type(Check.word("12345678"), 8);
        check.due("the tape is abcdef12345678", Check.tapeIs(desk, "abcdef12345678"), true);
        RouteDesk full = new RouteDesk();
        Check.type(full, Check.FULL_TAPE);
        check.due("the full tape", Check.tapeIs(full, Check.FULL_TAPE), true);
    }

    /** The document empties the tape by bind, unbind, message and header alone. */
    private static void staysOnTape(Check check) {
        RouteDesk desk = Check.busyDesk();
        Check.type(desk, "tape");
        desk.exchange(0);
        desk.queue();
        desk.alternate(0, 2);
        desk.remove(1, false);
        desk.remove(1, true);
        desk.route(0);
        desk.found(0);
        desk.passed(0);
        desk.of(0, 0);
        desk.total(4);
        check.due("the tape after calls that are answered", Check.tapeIs(desk, "tape"), true);
        RouteDesk refused = Check.busyDesk();
        Check.type(refused, "tape");
        check.dueThrow("exchange(4)", IllegalArgumentException.class, () -> refused.exchange(4));
        check.due("alternate(0, 0)", refused.alternate(0, 0), false);
        check.due("remove(9, true)", refused.remove(9, true), false);
        check.dueThrow("route(9)", IllegalArgumentException.class, () -> refused.route(9));
        check.due("passed(9)", refused.passed(9), false);
        check.due("the tape after calls that are refused", Check.tapeIs(refused, "tape"), true);
    }

    private static void anotherCount(Check check) {
        int[] wrong = {
            0, -1, -2, -8, 9, 10, 16, 64, 257, 65537, 0x1000_0001, Integer.MIN_VALUE, Integer.MIN_VALUE + 1,
            Integer.MIN_VALUE + 8, Integer.MAX_VALUE, Integer.MAX_VALUE - 47};
        for (int n : wrong) {
            for (String before : new String[] {"", "tape", Check.FULL_TAPE.substring(0, 40), Check.FULL_TAPE}) {
                RouteDesk desk = new RouteDesk();
                Check.type(desk, before);
                check.due("type of " + n + " behind " + before.length(), desk.type(Check.word("aaaaaaaa"), n), false);
                check.due("tape after type of " + n, Check.tapeIs(desk, before), true);
            }
        }
    }

    private static void characters(Check check) {
        for (int character = 0; character < 256; character++) {
            boolean good = character >= 32 && character <= 126;
            for (int place = 0; place < 8; place++) {
                long word = Check.word("aaaaaaaa") & ~(255L << 8 * place) | (long) character << 8 * place;
                RouteDesk desk = new RouteDesk();
                desk.type('x', 1);
                check.due("character " + character + " at " + place, desk.type(word, 8), good);
                check.due("tape after " + character, Check.tapeLength(desk), good ? 9 : 1);
            }
        }
        for (long word : new long[] {-1L, 0L, Long.MIN_VALUE, Long.MAX_VALUE}) {
            check.due("type of " + word, new RouteDesk().type(word, 8), false);
        }
        RouteDesk desk = new RouteDesk();
        Check.type(desk, "tape");
        desk.type(Check.word("good") << 8, 5);
        check.due("nothing of a bad word is there", Check.tapeIs(desk, "tape"), true);
    }

    private static void tooMany(Check check) {
        for (int before = 38; before <= 48; before++) {
            for (int n = 1; n <= 8; n++) {
                RouteDesk desk = new RouteDesk();
                String there = Check.FULL_TAPE.substring(0, before);
                Check.type(desk, there);
                boolean fits = before + n <= 48;
                check.due(n + " behind " + before, desk.type(Check.word("vwxyz123".substring(0, n)), n), fits);
                String then = fits ? there + "vwxyz123".substring(0, n) : there;
                check.due("tape after " + n + " behind " + before, Check.tapeIs(desk, then), true);
            }
        }
        RouteDesk desk = new RouteDesk();
        Check.type(desk, Check.FULL_TAPE.substring(0, 46));
        desk.type(Check.word("xyz"), 3);
        check.due("two more, when three were too many", desk.type(Check.word("KL"), 2), true);
        check.due("the tape", Check.tapeIs(desk, Check.FULL_TAPE), true);
    }
}
