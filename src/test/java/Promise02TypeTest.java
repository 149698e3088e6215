public final class Promise02TypeTest {
    private static final String FULL = "0123456789abcdefghijklmnopqrstuvwxyzABCDEFGHIJKL";

    public static void main(String[] args) {
        Check check = new Check();
        order(check);
        counts(check);
        characters(check);
        fullTape(check);
        check.end();
    }

    private static boolean keyIs(RouteDesk desk, String key) {
        desk.exchange(0);
        desk.queue();
        desk.message();
        Check.bindQueue(desk, 0, key, 0);
        return desk.route(0) == 1 && desk.total(4) == key.length();
    }

    private static void order(Check check) {
        RouteDesk desk = new RouteDesk();
        check.due("type abc", desk.type(Check.word("abc"), 3), true);
        check.due("type de", desk.type(Check.word("de"), 2), true);
        check.due("the key is abcde", keyIs(desk, "abcde"), true);
        RouteDesk low = new RouteDesk();
        check.due("the lowest two alone", low.type(Check.word("abcdefgh"), 2), true);
        check.due("the key is gh", keyIs(low, "gh"), true);
        RouteDesk dirty = new RouteDesk();
        check.due("bytes above are not looked at", dirty.type(0xFFFF_FFFF_0000_0061L, 1), true);
        check.due("the key is a", keyIs(dirty, "a"), true);
        RouteDesk eight = new RouteDesk();
        check.due("eight bytes", eight.type(Check.word("~bcdefg "), 8), true);
        check.due("the key is all eight", keyIs(eight, "~bcdefg "), true);
    }

    private static void counts(Check check) {
        int[] wrong = {0, -1, 9, 16, Integer.MIN_VALUE, Integer.MAX_VALUE};
        for (int n : wrong) {
            RouteDesk desk = new RouteDesk();
            check.due("type of " + n, desk.type(Check.word("aaaaaaaa"), n), false);
            check.due("tape after type of " + n, Check.tapeLength(desk), 0);
        }
        for (int n = 1; n <= 8; n++) {
            RouteDesk desk = new RouteDesk();
            check.due("type of " + n, desk.type(Check.word("aaaaaaaa"), n), true);
            check.due("tape after type of " + n, Check.tapeLength(desk), n);
        }
    }

    private static void characters(Check check) {
        for (int character = 0; character < 256; character++) {
            boolean good = character >= 32 && character <= 126;
            for (int place = 0; place < 3; place++) {
                long word = Check.word("aaa") & ~(255L << 8 * place) | (long) character << 8 * place;
                RouteDesk desk = new RouteDesk();
                desk.type('x', 1);
                check.due("character " + character + " at " + place, desk.type(word, 3), good);
                check.due("tape after " + character, Check.tapeLength(desk), good ? 4 : 1);
            }
        }
        check.due("minus one", new RouteDesk().type(-1L, 8), false);
    }

    private static void fullTape(Check check) {
        RouteDesk desk = new RouteDesk();
        Check.type(desk, FULL);
        check.due("the 49th", desk.type('x', 1), false);
        check.due("the key is the 48", keyIs(desk, FULL), true);
        RouteDesk almost = new RouteDesk();
        Check.type(almost, FULL.substring(0, 46));
        check.due("three more at 46", almost.type(Check.word("xyz"), 3), false);
        check.due("two more at 46", almost.type(Check.word("KL"), 2), true);
        check.due("the key is the 48 again", keyIs(almost, FULL), true);
    }
}
