import java.util.ArrayList;
import java.util.List;
import java.util.Random;

/** Runs of 512 random calls (the seeds are fixed), each answer compared with that of a plain model. */
public final class RandomRunsTest {
    private static final int RUNS = 3000;
    private static final int CALLS = 512;
    private static final String[] TEXTS = {
        "", "", "a", "b", "a.b", "a.b.a", "*", "#", "a.*", "*.a", "#.a", "a.#", "a.#.b", "#.b.#", "*.#.*", "..", ".",
        "a.", "a*", "##", "all", "any", "all,a", "any,a", "any,a=1,b", "all,a=1,b=", "all,c,d", "any,c=2,d=2,a=,b",
        "all,a,", "any,a,b,c,d,e", "a=1", "a=2", "a=", "b=1", "b=", "c=2", "d=1", "d=2", "e=0", "f=0", "g=0", "h=",
        "=1", "A=1", "abcdefg=1", "x y", "~"};

    public static void main(String[] args) {
        Check check = new Check();
        for (int seed = 0; seed < RUNS; seed++) {
            run(check, new Random(seed), seed);
        }
        check.end();
    }

    private static void run(Check check, Random random, int seed) {
        RouteDesk desk = new RouteDesk();
        Model model = new Model();
        List<Call> made = new ArrayList<>();
        // Some runs begin almost full, some grow large, others lose again what they make.
        List<Call> first = seed % 4 == 0 ? almostFull(random) : List.of();
        int removals = random.nextInt(4);
        int sorts = first.isEmpty() ? random.nextInt(6) : 1;
        int used = 0;
        while (true) {
            Call call = made.size() < first.size() ? first.get(made.size()) : Call.random(random, removals, sorts);
            used += call.cost();
            if (used > CALLS) {
                return;
            }
            made.add(call);
            Object got = answer(() -> call.on(desk));
            Object want = answer(() -> call.on(model));
            check.due("seed " + seed + ", step " + made.size() + ": " + call, got, want);
            if (!want.equals(got)) {
                System.out.println(made);
                return;
            }
        }
    }

    /** Fanouts, 15 or 16 of them, as many queues, and some 115 bindings. */
    private static List<Call> almostFull(Random random) {
        List<Call> calls = new ArrayList<>();
        int many = 15 + random.nextInt(2);
        for (int i = 0; i < many; i++) {
            calls.add(new Call(2, 1, 0, false, ""));
            calls.add(new Call(3, 0, 0, false, ""));
        }
        for (int i = 112 + random.nextInt(8); i > 0; i--) {
            calls.add(new Call(6, i % many, i / many, random.nextBoolean(), ""));
        }
        return calls;
    }

    private interface Question {
        Object ask();
    }

    private static Object answer(Question question) {
        try {
            return question.ask();
        } catch (RuntimeException e) {
            return e.getClass();
        }
    }

    private record Call(int kind, int one, int two, boolean flag, String text) {
        static Call random(Random random, int removals, int sorts) {
            String text = random.nextInt(3) == 0 ? words(random) : TEXTS[random.nextInt(TEXTS.length)];
            int kind = random.nextInt(24);
            if (kind == 5 && random.nextInt(4) >= removals) {
                kind = 6;
            }
            int one = number(random);
            if (kind == 2) {
                // Many runs keep to one sort, as only then do many bindings come to be.
                one = random.nextInt(20) == 0 ? random.nextInt(8) - 2 : sorts < 4 ? sorts : random.nextInt(4);
            }
            if (sorts == 1 && kind >= 6 && kind <= 10 && random.nextBoolean()) {
                text = "";
            }
            return new Call(kind, one, number(random), random.nextBoolean(), text);
        }

        private static String words(Random random) {
            String[] words = {"a", "a", "b", "*", "#", "#", ""};
            StringBuilder text = new StringBuilder(words[random.nextInt(words.length)]);
            for (int more = random.nextInt(8); more > 0; more--) {
                text.append('.').append(words[random.nextInt(words.length)]);
            }
            return text.toString();
        }

        private static int number(Random random) {
            switch (random.nextInt(12)) {
                case 0:
                    return random.nextInt(20) - 2;
                case 1:
                case 2:
                    return random.nextInt(16);
                case 3:
                    return random.nextInt(8) == 0 ? Check.NO_NUMBERS[random.nextInt(Check.NO_NUMBERS.length)] : 1;
                default:
                    return random.nextInt(5);
            }
        }

        /** How many of the object's 512 calls it takes at most. */
        int cost() {
            int typed = (text.length() + 7) / 8;
            switch (kind) {
                case 0:
                    return typed;
                case 6:
                case 7:
                case 8:
                case 9:
                case 10:
                case 11:
                case 12:
                case 13:
                case 14:
                    return typed + 1;
                case 18:
                    return 33;
                default:
                    return 1;
            }
        }

        /** Mostly letters, now and then a byte that the tape does not take. */
        private long word() {
            Random bytes = new Random(text.hashCode() * 31L + one * 17L + two);
            long word = 0;
            for (int i = 0; i < 8; i++) {
                word = word << 8 | (bytes.nextInt(30) == 0 ? bytes.nextInt(256) : 'a' + bytes.nextInt(3));
            }
            return word;
        }

        private boolean typed(Model model) {
            return model.type(text);
        }

        private boolean typed(RouteDesk desk) {
            boolean all = true;
            for (int from = 0; from < text.length(); from += 8) {
                String part = text.substring(from, Math.min(from + 8, text.length()));
                all &= desk.type(Check.word(part), part.length());
            }
            return all;
        }

        Object on(RouteDesk desk) {
            switch (kind) {
                case 0:
                    return typed(desk);
                case 1:
                    return desk.type(word(), two);
                case 2:
                case 3:
                    return kind == 2 ? desk.exchange(one) : desk.queue();
                case 4:
                    return desk.alternate(one, two);
                case 5:
                    return desk.remove(one, flag);
                case 6:
                case 7:
                case 8:
                case 9:
                    typed(desk);
                    return desk.bind(one, two, flag);
                case 10:
                    typed(desk);
                    return desk.unbind(one, two, flag);
                case 11:
                case 12:
                    typed(desk);
                    desk.message();
                    return "void";
                case 13:
                case 14:
                    typed(desk);
                    return desk.header();
                case 15:
                case 16:
                case 17:
                    return desk.route(one);
                case 18:
                    return Check.found(desk) + ";" + Check.passed(desk);
                case 19:
                    return desk.found(one);
                case 20:
                    return desk.passed(one);
                case 21:
                case 22:
                    return desk.of(one, two);
                default:
                    return desk.total(two);
            }
        }

        Object on(Model model) {
            switch (kind) {
                case 0:
                    return typed(model);
                case 1:
                    return model.type(word(), two);
                case 2:
                case 3:
                    return kind == 2 ? model.exchange(one) : model.queue();
                case 4:
                    return model.alternate(one, two);
                case 5:
                    return model.remove(one, flag);
                case 6:
                case 7:
                case 8:
                case 9:
                    typed(model);
                    return model.bind(one, two, flag);
                case 10:
                    typed(model);
                    return model.unbind(one, two, flag);
                case 11:
                case 12:
                    typed(model);
                    model.message();
                    return "void";
                case 13:
                case 14:
                    typed(model);
                    return model.header();
                case 15:
                case 16:
                case 17:
                    return model.route(one);
                case 18:
                    return model.foundNumbers() + ";" + model.passedNumbers();
                case 19:
                    return model.found(one);
                case 20:
                    return model.passed.contains(one);
                case 21:
                case 22:
                    return model.of(one, two);
                default:
                    return model.total(two);
            }
        }
    }
}
