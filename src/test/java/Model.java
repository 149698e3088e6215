import java.util.ArrayList;
import java.util.Arrays;
import java.util.List;
import java.util.Map;
import java.util.NoSuchElementException;
import java.util.TreeMap;
import java.util.TreeSet;

/** The document once more, by maps, sets and regular expressions: slow and plain, for RandomRunsTest. */
final class Model {
    private record Exchange(int sort, int alternate) {
    }

    private record Binding(int from, int to, boolean toQueue, String text) {
    }

    private static final String PAIR = "[a-z]{1,6}=[a-z0-9]{0,6}";
    private static final String RULE = "(all|any)(,[a-z]{1,6}(=[a-z0-9]{0,6})?){0,4}";
    private static final String PATTERN_WORD = "(\\*|#|[^.*#]*)";

    private String tape = "";
    private String key = "";
    private final Map<Integer, Exchange> exchanges = new TreeMap<>();
    private final TreeSet<Integer> queues = new TreeSet<>();
    private final List<Binding> bindings = new ArrayList<>();
    private final Map<String, String> headers = new TreeMap<>();
    private TreeSet<Integer> found = new TreeSet<>();
    TreeSet<Integer> passed = new TreeSet<>();

    /** Parts of eight go to the tape each by itself, as the desk takes them. */
    boolean type(String text) {
        boolean all = true;
        for (int from = 0; from < text.length(); from += 8) {
            String part = text.substring(from, Math.min(from + 8, text.length()));
            if (tape.length() + part.length() <= 48) {
                tape += part;
            } else {
                all = false;
            }
        }
        return all;
    }

    boolean type(long word, int n) {
        String bytes = "";
        for (int i = 0; i < Math.min(n, 9); i++) {
            bytes = (char) (word >> 8 * i & 255) + bytes;
        }
        if (!bytes.matches("[ -~]{1,8}") || n > 8 || tape.length() + n > 48) {
            return false;
        }
        tape += bytes;
        return true;
    }

    private String takeTape() {
        String text = tape;
        tape = "";
        return text;
    }

    int exchange(int sort) {
        if (sort < 0 || sort > 3) {
            throw new IllegalArgumentException();
        }
        for (int number = 0; number < 16; number++) {
            if (exchanges.putIfAbsent(number, new Exchange(sort, -1)) == null) {
                return number;
            }
        }
        throw new IllegalStateException();
    }

    boolean alternate(int exchange, int to) {
        if (!exchanges.containsKey(exchange) || to < -1 || to > 15 || to == exchange) {
            return false;
        }
        exchanges.put(exchange, new Exchange(exchanges.get(exchange).sort, to));
        return true;
    }

    int queue() {
        for (int number = 0; number < 16; number++) {
            if (queues.add(number)) {
                return number;
            }
        }
        throw new IllegalStateException();
    }

    boolean remove(int number, boolean isQueue) {
        bindings.removeIf(b -> b.to == number && b.toQueue == isQueue || b.from == number && !isQueue);
        return isQueue ? queues.remove(number) : exchanges.remove(number) != null;
    }

    boolean bind(int from, int to, boolean toQueue) {
        Binding binding = new Binding(from, to, toQueue, takeTape());
        if (!exchanges.containsKey(from) || !(toQueue ? queues.contains(to) : exchanges.containsKey(to))) {
            throw new IllegalArgumentException();
        }
        String[] forms = {".*", "", PATTERN_WORD + "(\\." + PATTERN_WORD + ")*", RULE};
        if (!binding.text.matches(forms[exchanges.get(from).sort])) {
            throw new IllegalArgumentException();
        }
        if (bindings.contains(binding)) {
            return false;
        }
        if (bindings.size() == 120) {
            throw new IllegalStateException();
        }
        return bindings.add(binding);
    }

    boolean unbind(int from, int to, boolean toQueue) {
        return bindings.remove(new Binding(from, to, toQueue, takeTape()));
    }

    void message() {
        key = takeTape();
        headers.clear();
    }

    boolean header() {
        String text = takeTape();
        if (!text.matches(PAIR)) {
            return false;
        }
        String[] parts = text.split("=", -1);
        if (headers.size() == 6 && !headers.containsKey(parts[0])) {
            return false;
        }
        headers.put(parts[0], parts[1]);
        return true;
    }

    int route(int exchange) {
        if (!exchanges.containsKey(exchange)) {
            throw new IllegalArgumentException();
        }
        found = new TreeSet<>();
        passed = new TreeSet<>();
        pass(exchange);
        return found.size();
    }

    private void pass(int number) {
        if (!exchanges.containsKey(number) || !passed.add(number)) {
            return;
        }
        List<Binding> met = new ArrayList<>(bindings);
        met.removeIf(b -> b.from != number || !isMet(exchanges.get(number).sort, b.text));
        for (Binding binding : met) {
            if (binding.toQueue) {
                found.add(binding.to);
            } else {
                pass(binding.to);
            }
        }
        if (met.isEmpty()) {
            pass(exchanges.get(number).alternate);
        }
    }

    private boolean isMet(int sort, String text) {
        switch (sort) {
            case 0:
                return key.equals(text);
            case 1:
                return true;
            case 2:
                return isLike(Arrays.asList(text.split("\\.", -1)), Arrays.asList(key.split("\\.", -1)));
            default:
                return isRuleMet(text.split(","));
        }
    }

    private static boolean isLike(List<String> pattern, List<String> words) {
        if (pattern.isEmpty()) {
            return words.isEmpty();
        }
        List<String> rest = pattern.subList(1, pattern.size());
        if (pattern.get(0).equals("#")) {
            return isLike(rest, words) || !words.isEmpty() && isLike(pattern, words.subList(1, words.size()));
        }
        return !words.isEmpty() && (pattern.get(0).equals("*") || pattern.get(0).equals(words.get(0)))
                && isLike(rest, words.subList(1, words.size()));
    }

    private boolean isRuleMet(String[] parts) {
        int met = 0;
        for (int i = 1; i < parts.length; i++) {
            String[] pair = parts[i].split("=", -1);
            String value = headers.get(pair[0]);
            if (value != null && (pair.length == 1 || pair[1].equals(value))) {
                met++;
            }
        }
        return parts[0].equals("all") ? met == parts.length - 1 : met > 0;
    }

    int found(int i) {
        if (i < 0 || i >= found.size()) {
            throw new NoSuchElementException();
        }
        return new ArrayList<>(found).get(i);
    }

    String foundNumbers() {
        return numbers(found);
    }

    String passedNumbers() {
        return numbers(passed);
    }

    private static String numbers(TreeSet<Integer> set) {
        StringBuilder text = new StringBuilder();
        for (int number : set) {
            text.append(' ').append(number);
        }
        return text.toString();
    }

    int of(int number, int what) {
        if (what == 2) {
            return queues.contains(number) ? count(number, true) : -1;
        }
        if (!exchanges.containsKey(number) || what < 0 || what > 4) {
            return -1;
        }
        int from = (int) bindings.stream().filter(b -> b.from == number).count();
        Exchange exchange = exchanges.get(number);
        return new int[] {from, count(number, false), -1, exchange.sort, exchange.alternate}[what];
    }

    private int count(int number, boolean isQueue) {
        return (int) bindings.stream().filter(b -> b.to == number && b.toQueue == isQueue).count();
    }

    int total(int what) {
        int[] totals = {exchanges.size(), queues.size(), bindings.size(), headers.size(), key.length()};
        return what >= 0 && what < totals.length ? totals[what] : -1;
    }
}
