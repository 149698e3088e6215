import java.util.NoSuchElementException;

/** What the tests share: answers compared with those due, and short ways to type, bind and route. */
final class Check {
    interface Call {
        void run();
    }

    private int asked = 0;
    private int wrong = 0;

    void due(String call, Object got, Object want) {
        asked++;
        if (!want.equals(got)) {
            wrong++;
            System.out.println(call + " answered " + got + ", due is " + want);
        }
    }

    void dueThrow(String call, Class<?> want, Call run) {
        Object got = "nothing thrown";
        try {
            run.run();
        } catch (RuntimeException e) {
            got = e.getClass();
        }
        due(call, got, want);
    }

    void end() {
        System.out.println(asked + " answers, " + wrong + " not as due");
        if (wrong != 0 || asked == 0) {
            System.exit(1);
        }
    }

    static long word(String text) {
        long word = 0;
        for (int i = 0; i < text.length(); i++) {
            word = word << 8 | text.charAt(i);
        }
        return word;
    }

    static void type(RouteDesk desk, String text) {
        for (int from = 0; from < text.length(); from += 8) {
            String part = text.substring(from, Math.min(from + 8, text.length()));
            if (!desk.type(word(part), part.length())) {
                throw new AssertionError("the tape did not take " + text);
            }
        }
    }

    static boolean bindQueue(RouteDesk desk, int from, String text, int to) {
        type(desk, text);
        return desk.bind(from, to, true);
    }

    static boolean bindExchange(RouteDesk desk, int from, String text, int to) {
        type(desk, text);
        return desk.bind(from, to, false);
    }

    static boolean unbindQueue(RouteDesk desk, int from, String text, int to) {
        type(desk, text);
        return desk.unbind(from, to, true);
    }

    static boolean header(RouteDesk desk, String text) {
        type(desk, text);
        return desk.header();
    }

    static void message(RouteDesk desk, String key, String... headers) {
        type(desk, key);
        desk.message();
        for (String text : headers) {
            if (!header(desk, text)) {
                throw new AssertionError("no header: " + text);
            }
        }
    }

    /** How long the tape is: it is asked by making it the key of a new message. */
    static int tapeLength(RouteDesk desk) {
        desk.message();
        return desk.total(4);
    }

    static RouteDesk desk(int exchanges, int sort, int queues) {
        RouteDesk desk = new RouteDesk();
        for (int i = 0; i < exchanges; i++) {
            desk.exchange(sort);
        }
        for (int i = 0; i < queues; i++) {
            desk.queue();
        }
        return desk;
    }

    /** A desk of fanout exchanges and 16 queues with as many bindings as asked, from 0 on, queues first. */
    static RouteDesk deskWithBindings(int bindings) {
        RouteDesk desk = desk(16, 1, 16);
        for (int i = 0; i < bindings; i++) {
            if (!desk.bind(i / 32, i % 16, i % 32 < 16)) {
                throw new AssertionError("binding " + i);
            }
        }
        return desk;
    }

    /** Numbers of the queues found in the latest route(), as found() tells them, with a blank before each. */
    static String found(RouteDesk desk) {
        StringBuilder numbers = new StringBuilder();
        for (int i = 0; i <= 16; i++) {
            try {
                int number = desk.found(i);
                numbers.append(' ').append(number);
            } catch (NoSuchElementException e) {
                return numbers.toString();
            }
        }
        return "more than 16";
    }

    /** Numbers of the exchanges passed in the latest route(), with a blank before each. */
    static String passed(RouteDesk desk) {
        StringBuilder numbers = new StringBuilder();
        for (int i = -2; i <= 18; i++) {
            if (desk.passed(i)) {
                numbers.append(' ').append(i);
            }
        }
        return numbers.toString();
    }
}
