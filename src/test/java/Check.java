import java.util.NoSuchElementException;
import java.util.function.Consumer;
import java.util.function.Supplier;

/**
 * What the tests share: answers compared with those due, sentences of the document with a test each, and short ways
 * to type, bind and route. No test asks one object more than the 512 calls that the document allows.
 */
final class Check {
    interface Call {
        void run();
    }

    /** Numbers that no exchange and no queue can have; cut to their low bits, some are like those that can be. */
    static final int[] NO_NUMBERS = {
        -1, -2, -16, 16, 17, 31, 32, 256, 65536, Integer.MIN_VALUE, Integer.MIN_VALUE + 1, Integer.MAX_VALUE};
    static final String FULL_TAPE = "0123456789abcdefghijklmnopqrstuvwxyzABCDEFGHIJKL";
    static final String ALL_NUMBERS = " 0 1 2 3 4 5 6 7 8 9 10 11 12 13 14 15";

    private String sentence = "";
    private int sentences = 0;
    private int asked = 0;
    private int wrong = 0;

    /** Runs the test of one sentence; what goes wrong there does not keep the next sentence's test from running. */
    void sentence(String words, Consumer<Check> test) {
        sentence = "\"" + words + "\": ";
        sentences++;
        int before = asked;
        try {
            test.accept(this);
        } catch (RuntimeException | Error e) {
            due("the test", "thrown: " + e, "no throw");
        }
        if (asked == before) {
            due("the test", "nothing asked", "an answer");
        }
        sentence = "";
    }

    void due(String call, Object got, Object want) {
        asked++;
        if (!want.equals(got)) {
            wrong++;
            System.out.println(sentence + call + " answered " + got + ", due is " + want);
        }
    }

    void dueThrow(String call, Class<?> want, Call run) {
        Object got = "nothing thrown";
        try {
            run.run();
        } catch (RuntimeException e) {
            got = e.getClass();
        }
        due(call, got, want);
    }

    /** A call that is refused, made on one of two like objects, leaves no difference between them. */
    void changesNothing(String call, Supplier<RouteDesk> maker, Consumer<RouteDesk> refused) {
        RouteDesk touched = maker.get();
        try {
            refused.accept(touched);
        } catch (IllegalArgumentException | IllegalStateException | NoSuchElementException e) {
            // Whether it throws is asked elsewhere.
        }
        due(call + " leaves", sight(touched), sight(maker.get()));
    }

    void end() {
        System.out.println((sentences == 0 ? "" : sentences + " sentences, ") + asked + " answers, " + wrong
                + " not as due");
        if (wrong != 0 || asked == 0) {
            System.exit(1);
        }
    }

    static long word(String text) {
        long word = 0;
        for (int i = 0; i < text.length(); i++) {
            word = word << 8 | text.charAt(i);
        }
        return word;
    }

    static void type(RouteDesk desk, String text) {
        for (int from = 0; from < text.length(); from += 8) {
            String part = text.substring(from, Math.min(from + 8, text.length()));
            if (!desk.type(word(part), part.length())) {
                throw new AssertionError("the tape did not take " + text);
            }
        }
    }

    static boolean bindQueue(RouteDesk desk, int from, String text, int to) {
        type(desk, text);
        return desk.bind(from, to, true);
    }

    static boolean bindExchange(RouteDesk desk, int from, String text, int to) {
        type(desk, text);
        return desk.bind(from, to, false);
    }

    static boolean unbindQueue(RouteDesk desk, int from, String text, int to) {
        type(desk, text);
        return desk.unbind(from, to, true);
    }

    static boolean unbindExchange(RouteDesk desk, int from, String text, int to) {
        type(desk, text);
        return desk.unbind(from, to, false);
    }

    static boolean header(RouteDesk desk, String text) {
        type(desk, text);
        return desk.header();
    }

    static void message(RouteDesk desk, String key, String... headers) {
        type(desk, key);
        desk.message();
        for (String text : headers) {
            if (!header(desk, text)) {
                throw new AssertionError("no header: " + text);
            }
        }
    }

    /** How long the tape is: it is asked by making it the key of a new message. */
    static int tapeLength(RouteDesk desk) {
        desk.message();
        return desk.total(4);
    }

    /** Whether the tape is just that text: it becomes the key, and a new direct exchange tells. */
    static boolean tapeIs(RouteDesk desk, String text) {
        desk.message();
        int exchange = desk.exchange(0);
        bindQueue(desk, exchange, text, desk.queue());
        return desk.total(4) == text.length() && desk.route(exchange) == 1;
    }

    static RouteDesk desk(int exchanges, int sort, int queues) {
        RouteDesk desk = new RouteDesk();
        for (int i = 0; i < exchanges; i++) {
            desk.exchange(sort);
        }
        for (int i = 0; i < queues; i++) {
            desk.queue();
        }
        return desk;
    }

    /** A desk of fanout exchanges and 16 queues with as many bindings as asked, from 0 on, queues first. */
    static RouteDesk deskWithBindings(int bindings) {
        RouteDesk desk = desk(16, 1, 16);
        for (int i = 0; i < bindings; i++) {
            if (!desk.bind(i / 32, i % 16, i % 32 < 16)) {
                throw new AssertionError("binding " + i);
            }
        }
        return desk;
    }

    /**
     * A desk with something of everything: exchanges 0 to 5 (a sort each, then 4 and 5 fanouts) but 4, queues 0 to 3
     * but 2, bindings, alternates, a message with headers, and a routing from 0 by which 0, 2, 3 are passed.
     */
    static RouteDesk busyDesk() {
        RouteDesk desk = desk(0, 0, 4);
        for (int sort : new int[] {0, 1, 2, 3, 1, 1}) {
            desk.exchange(sort);
        }
        desk.remove(4, false);
        desk.remove(2, true);
        bindQueue(desk, 0, "k.l", 1);
        bindExchange(desk, 0, "k.l", 2);
        desk.bind(1, 0, true);
        bindQueue(desk, 2, "#.l", 3);
        bindExchange(desk, 2, "k.*", 3);
        bindQueue(desk, 3, "all,a=1", 0);
        bindExchange(desk, 3, "any,b=2", 5);
        desk.alternate(0, 1);
        desk.alternate(1, 4);
        desk.alternate(3, 15);
        message(desk, "k.l", "a=1", "b=", "c=3");
        desk.route(0);
        return desk;
    }

    /** All that can be seen of a desk, told by some 150 calls; the desk is used up by it. */
    static String sight(RouteDesk desk) {
        StringBuilder text = new StringBuilder("found" + found(desk) + "; passed" + passed(desk) + "; totals");
        for (int what = 0; what < 5; what++) {
            text.append(' ').append(desk.total(what));
        }
        for (int number = 0; number < 16; number++) {
            text.append("; of ").append(number).append(':');
            for (int what = 0; what < 5; what++) {
                text.append(' ').append(desk.of(number, what));
            }
        }
        text.append("; routes").append(routes(desk)).append("; tape ").append(tapeLength(desk));
        return text.append("; routes by it").append(routes(desk)).toString();
    }

    private static String routes(RouteDesk desk) {
        StringBuilder counts = new StringBuilder();
        for (int number = 0; number < 16; number++) {
            try {
                int count = desk.route(number);
                counts.append(' ').append(count);
            } catch (IllegalArgumentException e) {
                counts.append(" -");
            }
        }
        return counts.toString();
    }

    /** Whether an exchange of that sort takes that text for a binding; a refusal must leave none. */
    void bindTakes(int sort, String text, boolean want) {
        RouteDesk desk = desk(1, sort, 1);
        String call = "bind with sort " + sort + ", text '" + text + "'";
        if (want) {
            due(call, bindQueue(desk, 0, text, 0), true);
        } else {
            dueThrow(call, IllegalArgumentException.class, () -> bindQueue(desk, 0, text, 0));
        }
        due("bindings after " + call, desk.total(2), want ? 1 : 0);
    }

    /** Whether a binding of that sort and text is met by a message. */
    void isMet(int sort, String text, boolean want, String key, String... headers) {
        RouteDesk desk = desk(1, sort, 1);
        bindQueue(desk, 0, text, 0);
        message(desk, key, headers);
        due("route by '" + text + "', key '" + key + "', headers " + String.join(" ", headers), desk.route(0),
                want ? 1 : 0);
    }

    /** Numbers of the queues found in the latest route(), as found() tells them, with a blank before each. */
    static String found(RouteDesk desk) {
        StringBuilder numbers = new StringBuilder();
        for (int i = 0; i <= 16; i++) {
            try {
                int number = desk.found(i);
                numbers.append(' ').append(number);
            } catch (NoSuchElementException e) {
                return numbers.toString();
            }
        }
        return "more than 16";
    }

    /** Numbers of the exchanges passed in the latest route(), with a blank before each. */
    static String passed(RouteDesk desk) {
        StringBuilder numbers = new StringBuilder();
        for (int i = 0; i < 16; i++) {
            if (desk.passed(i)) {
                numbers.append(' ').append(i);
            }
        }
        return numbers.toString();
    }
}
