import java.util.ArrayList;
import java.util.NoSuchElementException;

/** Where messages go in a relay; ../shared/DOC.md has the promises that the numbers below name. */
public final class RouteDesk {
    public static final int NONE = -1;

    private static final int MOST_TAPE = 48;
    private static final int MOST_EXCHANGES = 16;
    private static final int MOST_QUEUES = 16;
    private static final int MOST_BINDINGS = 120;
    private static final int MOST_BYTES = 8;
    private static final int FIRST_CHARACTER = 32;
    private static final int LAST_CHARACTER = 126;

    private static final int DIRECT = 0;
    private static final int FANOUT = 1;
    private static final int TOPIC = 2;
    private static final int HEADERS = 3;

    private final StringBuilder tape = new StringBuilder();
    private final Exchange[] exchanges = new Exchange[MOST_EXCHANGES];
    private final boolean[] queues = new boolean[MOST_QUEUES];
    private final ArrayList<Binding> bindings = new ArrayList<>();
    private final Message current = new Message();
    private final Routing latest = new Routing();

    /** Promise 1. */
    public RouteDesk() {
    }

    /** Promise 2. */
    public boolean type(long word, int n) {
        if (n < 1 || n > MOST_BYTES || tape.length() + n > MOST_TAPE) {
            return false;
        }
        // All bytes are looked at before the first is taken, so that a refusal changes nothing.
        for (int i = 0; i < n; i++) {
            int character = byteOf(word, i);
            if (character < FIRST_CHARACTER || character > LAST_CHARACTER) {
                return false;
            }
        }
        for (int i = n - 1; i >= 0; i--) {
            tape.append((char) byteOf(word, i));
        }
        return true;
    }

    /** Promise 3. */
    public int exchange(int sort) throws IllegalArgumentException, IllegalStateException {
        if (sort < DIRECT || sort > HEADERS) {
            throw new IllegalArgumentException("no such sort");
        }
        for (int number = 0; number < MOST_EXCHANGES; number++) {
            if (exchanges[number] == null) {
                exchanges[number] = new Exchange(sort);
                return number;
            }
        }
        throw new IllegalStateException("there are 16 exchanges");
    }

    /** Promise 4. */
    public boolean alternate(int exchange, int to) {
        Exchange changed = exchangeAt(exchange);
        if (changed == null || to < NONE || to >= MOST_EXCHANGES || to == exchange) {
            return false;
        }
        changed.other = to;
        return true;
    }

    /** Promise 5. */
    public int queue() throws IllegalStateException {
        for (int number = 0; number < MOST_QUEUES; number++) {
            if (!queues[number]) {
                queues[number] = true;
                return number;
            }
        }
        throw new IllegalStateException("there are 16 queues");
    }

    /** Promise 6. */
    public boolean remove(int number, boolean isQueue) {
        if (!isThere(number, isQueue)) {
            return false;
        }
        for (int i = bindings.size() - 1; i >= 0; i--) {
            Binding binding = bindings.get(i);
            if (binding.leadsTo(number, isQueue) || (!isQueue && binding.from == number)) {
                bindings.remove(i);
            }
        }
        if (isQueue) {
            queues[number] = false;
        } else {
            exchanges[number] = null;
        }
        return true;
    }

    /** Promise 7. */
    public boolean bind(int from, int to, boolean toQueue)
            throws IllegalArgumentException, IllegalStateException {
        String text = takeTape();
        Exchange first = exchangeAt(from);
        if (first == null || !isThere(to, toQueue)) {
            throw new IllegalArgumentException("no such exchange or queue");
        }
        if (!isTextFor(first.sort, text)) {
            throw new IllegalArgumentException("no text for that sort");
        }
        if (placeOf(from, to, toQueue, text) != NONE) {
            return false;
        }
        if (bindings.size() >= MOST_BINDINGS) {
            throw new IllegalStateException("there are 120 bindings");
        }
        bindings.add(new Binding(from, to, toQueue, text));
        return true;
    }

    /** Promise 8. */
    public boolean unbind(int from, int to, boolean toQueue) {
        int place = placeOf(from, to, toQueue, takeTape());
        if (place < 0 || place >= bindings.size()) {
            return false;
        }
        bindings.remove(place);
        return true;
    }

    /** Promise 9. */
    public void message() {
        current.startAnew(takeTape());
    }

    /** Promise 10. */
    public boolean header() {
        String text = takeTape();
        int nameEnd = Texts.find(text, HeaderText.SETS, 0, text.length());
        // A binding may tell a name alone; a header has a value too, though perhaps an empty one.
        if (nameEnd >= text.length() || !HeaderText.isNameOrPair(text, 0, text.length())) {
            return false;
        }
        return current.put(text.substring(0, nameEnd), text.substring(nameEnd + 1, text.length()));
    }

    /** Promise 11. */
    public int route(int exchange) throws IllegalArgumentException {
        if (exchangeAt(exchange) == null) {
            throw new IllegalArgumentException("no such exchange");
        }
        latest.startAt(exchange);
        // Those that are passed on the way come behind in the same row, each once.
        for (int i = 0; i < MOST_EXCHANGES && i < latest.passedCount; i++) {
            leadOn(latest.order[i]);
        }
        return latest.foundCount;
    }

    /** Promise 12. */
    public int found(int i) throws NoSuchElementException {
        int number = latest.foundAt(i);
        if (number == NONE) {
            throw new NoSuchElementException("no such queue was found");
        }
        return number;
    }

    /** Promise 13. */
    public boolean passed(int exchange) {
        return exchange >= 0 && exchange < MOST_EXCHANGES && latest.isPassed[exchange];
    }

    /** Promise 14. */
    public int of(int number, int what) {
        if (what == 2) {
            return isThere(number, true) ? countTo(number, true) : NONE;
        }
        Exchange asked = exchangeAt(number);
        if (asked == null) {
            return NONE;
        }
        switch (what) {
            case 0:
                return countFrom(number);
            case 1:
                return countTo(number, false);
            case 3:
                return asked.sort;
            case 4:
                return asked.other;
            default:
                return NONE;
        }
    }

    /** Promise 15. */
    public int total(int what) {
        switch (what) {
            case 0:
                return countExchanges();
            case 1:
                return countQueues();
            case 2:
                return bindings.size();
            case 3:
                return current.headers.size();
            case 4:
                return current.key.length();
            default:
                return NONE;
        }
    }

    private static int byteOf(long word, int place) {
        return (int) (word >>> (8 * place)) & 255;
    }

    private String takeTape() {
        String text = tape.toString();
        tape.setLength(0);
        return text;
    }

    private Exchange exchangeAt(int number) {
        return number >= 0 && number < MOST_EXCHANGES ? exchanges[number] : null;
    }

    private boolean isThere(int number, boolean isQueue) {
        if (isQueue) {
            return number >= 0 && number < MOST_QUEUES && queues[number];
        }
        return exchangeAt(number) != null;
    }

    private int placeOf(int from, int to, boolean toQueue, String text) {
        for (int i = 0; i < bindings.size(); i++) {
            Binding binding = bindings.get(i);
            if (binding.from == from && binding.leadsTo(to, toQueue) && binding.text.equals(text)) {
                return i;
            }
        }
        return NONE;
    }

    private static boolean isTextFor(int sort, String text) {
        switch (sort) {
            case DIRECT:
                return true;
            case FANOUT:
                return text.isEmpty();
            case TOPIC:
                return Pattern.isPattern(text);
            default:
                return HeaderText.isRule(text);
        }
    }

    private boolean isMet(int sort, String text) {
        switch (sort) {
            case DIRECT:
                return text.equals(current.key);
            case FANOUT:
                return true;
            case TOPIC:
                return Pattern.isLike(text, current.key);
            default:
                return HeaderText.isRuleMet(text, current);
        }
    }

    private void leadOn(int number) {
        Exchange here = exchangeAt(number);
        if (here == null) {
            return;
        }
        boolean anyMet = false;
        for (int i = 0; i < bindings.size(); i++) {
            Binding binding = bindings.get(i);
            if (binding.from == number && isMet(here.sort, binding.text)) {
                anyMet = true;
                follow(binding);
            }
        }
        if (!anyMet && exchangeAt(here.other) != null) {
            latest.markPassed(here.other);
        }
    }

    private void follow(Binding binding) {
        if (binding.toQueue) {
            latest.markFound(binding.to);
        } else {
            latest.markPassed(binding.to);
        }
    }

    private int countFrom(int number) {
        int count = 0;
        for (int i = 0; i < bindings.size(); i++) {
            if (bindings.get(i).from == number) {
                count++;
            }
        }
        return count;
    }

    private int countTo(int number, boolean isQueue) {
        int count = 0;
        for (int i = 0; i < bindings.size(); i++) {
            if (bindings.get(i).leadsTo(number, isQueue)) {
                count++;
            }
        }
        return count;
    }

    private int countExchanges() {
        int count = 0;
        for (int number = 0; number < MOST_EXCHANGES; number++) {
            if (exchanges[number] != null) {
                count++;
            }
        }
        return count;
    }

    private int countQueues() {
        int count = 0;
        for (int number = 0; number < MOST_QUEUES; number++) {
            if (queues[number]) {
                count++;
            }
        }
        return count;
    }

    private static final class Exchange {
        private final int sort;
        /** The alternate's number: it is kept when that exchange goes, so no reference stands here. */
        private int other = NONE;

        Exchange(int sort) {
            this.sort = sort;
        }
    }

    private static final class Binding {
        private final int from;
        private final int to;
        private final boolean toQueue;
        private final String text;

        Binding(int from, int to, boolean toQueue, String text) {
            this.from = from;
            this.to = to;
            this.toQueue = toQueue;
            this.text = text;
        }

        boolean leadsTo(int number, boolean isQueue) {
            return to == number && toQueue == isQueue;
        }
    }

    private static final class Header {
        private final String name;
        private String value;

        Header(String name, String value) {
            this.name = name;
            this.value = value;
        }
    }

    private static final class Message {
        private static final int MOST_HEADERS = 6;

        private String key = "";
        private final ArrayList<Header> headers = new ArrayList<>();

        void startAnew(String newKey) {
            key = newKey;
            headers.clear();
        }

        boolean put(String name, String value) {
            Header known = headerOf(name);
            if (known != null) {
                known.value = value;
                return true;
            }
            if (headers.size() >= MOST_HEADERS) {
                return false;
            }
            headers.add(new Header(name, value));
            return true;
        }

        private Header headerOf(String name) {
            for (int i = 0; i < headers.size(); i++) {
                if (headers.get(i).name.equals(name)) {
                    return headers.get(i);
                }
            }
            return null;
        }
    }

    /** What the latest route() did, told by numbers, so that it outlives the exchanges and queues. */
    private static final class Routing {
        private final boolean[] isPassed = new boolean[MOST_EXCHANGES];
        private final int[] order = new int[MOST_EXCHANGES];
        private int passedCount = 0;
        private final boolean[] isFound = new boolean[MOST_QUEUES];
        private int foundCount = 0;

        void startAt(int exchange) {
            for (int number = 0; number < MOST_EXCHANGES; number++) {
                isPassed[number] = false;
            }
            for (int number = 0; number < MOST_QUEUES; number++) {
                isFound[number] = false;
            }
            passedCount = 0;
            foundCount = 0;
            markPassed(exchange);
        }

        void markPassed(int number) {
            if (number < 0 || number >= MOST_EXCHANGES || passedCount >= MOST_EXCHANGES || isPassed[number]) {
                return;
            }
            isPassed[number] = true;
            order[passedCount] = number;
            passedCount++;
        }

        void markFound(int number) {
            if (number < 0 || number >= MOST_QUEUES || isFound[number]) {
                return;
            }
            isFound[number] = true;
            foundCount++;
        }

        int foundAt(int place) {
            int before = 0;
            for (int number = 0; number < MOST_QUEUES; number++) {
                if (isFound[number]) {
                    if (before == place) {
                        return number;
                    }
                    before++;
                }
            }
            return NONE;
        }
    }

    /** Parts of texts, told by where they begin and end: no text is made, as routing asks for many. */
    private static final class Texts {
        /** Where the character first stands in from .. to - 1; to, if it does not. */
        static int find(String text, char character, int from, int to) {
            for (int i = from; i < to; i++) {
                if (text.charAt(i) == character) {
                    return i;
                }
            }
            return to;
        }

        /** Whether a part that began before this place ends here: at the sign, or at the text's end. */
        static boolean isPartEnd(String text, int place, char sign) {
            return place >= text.length() || text.charAt(place) == sign;
        }

        static boolean isSame(String one, int from, int to, String other, int otherFrom, int otherTo) {
            if (to - from != otherTo - otherFrom) {
                return false;
            }
            for (int i = 0; i < to - from; i++) {
                if (one.charAt(from + i) != other.charAt(otherFrom + i)) {
                    return false;
                }
            }
            return true;
        }

        static boolean beginsWith(String text, String beginning) {
            return text.length() >= beginning.length()
                    && isSame(text, 0, beginning.length(), beginning, 0, beginning.length());
        }
    }

    /** The texts of TOPIC bindings. */
    private static final class Pattern {
        private static final char PART = '.';
        private static final char ONE_WORD = '*';
        private static final char ANY_WORDS = '#';

        static boolean isPattern(String text) {
            int from = 0;
            for (int i = 0; i <= text.length(); i++) {
                if (Texts.isPartEnd(text, i, PART)) {
                    if (i - from > 1 && hasWildSign(text, from, i)) {
                        return false;
                    }
                    from = i + 1;
                }
            }
            return true;
        }

        /** Bit k of reached: the words of the pattern so far can stand for the first k words of the key. */
        static boolean isLike(String pattern, String key) {
            long reached = 1L;
            int from = 0;
            for (int i = 0; i <= pattern.length() && reached != 0L; i++) {
                if (Texts.isPartEnd(pattern, i, PART)) {
                    reached = isJust(pattern, from, i, ANY_WORDS)
                            ? afterAnyWords(reached)
                            : afterOneWord(reached, pattern, from, i, key);
                    from = i + 1;
                }
            }
            return (reached >>> countWords(key) & 1L) != 0L;
        }

        /** From the least count that was reached, every greater one is reached too. */
        private static long afterAnyWords(long reached) {
            return -Long.lowestOneBit(reached);
        }

        private static long afterOneWord(long reached, String pattern, int from, int end, String key) {
            boolean isOpen = isJust(pattern, from, end, ONE_WORD);
            long next = 0L;
            int count = 0;
            int keyFrom = 0;
            for (int i = 0; i <= key.length(); i++) {
                if (Texts.isPartEnd(key, i, PART)) {
                    boolean wasReached = (reached >>> count & 1L) != 0L;
                    count++;
                    if (wasReached && (isOpen || Texts.isSame(pattern, from, end, key, keyFrom, i))) {
                        next |= 1L << count;
                    }
                    keyFrom = i + 1;
                }
            }
            return next;
        }

        private static int countWords(String key) {
            int count = 1;
            for (int i = 0; i < key.length(); i++) {
                if (key.charAt(i) == PART) {
                    count++;
                }
            }
            return count;
        }

        private static boolean isJust(String text, int from, int end, char sign) {
            return end - from == 1 && text.charAt(from) == sign;
        }

        private static boolean hasWildSign(String text, int from, int end) {
            return Texts.find(text, ONE_WORD, from, end) < end || Texts.find(text, ANY_WORDS, from, end) < end;
        }
    }

    /** The texts of headers and of HEADERS bindings. */
    private static final class HeaderText {
        private static final int LONGEST_NAME = 6;
        private static final int LONGEST_VALUE = 6;
        private static final int MOST_NAMES = 4;
        private static final String ALL = "all";
        private static final String ANY = "any";
        private static final char COMMA = ',';
        private static final char SETS = '=';
        /** Behind all or any, if names follow. */
        private static final int FIRST_COMMA = 3;

        static boolean isNameOrPair(String text, int from, int to) {
            int nameEnd = Texts.find(text, SETS, from, to);
            return isName(text, from, nameEnd) && (nameEnd == to || isValue(text, nameEnd + 1, to));
        }

        static boolean isRule(String text) {
            if (!Texts.beginsWith(text, ALL) && !Texts.beginsWith(text, ANY)) {
                return false;
            }
            if (!Texts.isPartEnd(text, FIRST_COMMA, COMMA)) {
                return false;
            }
            int names = 0;
            int from = FIRST_COMMA + 1;
            for (int i = from; i <= text.length(); i++) {
                if (Texts.isPartEnd(text, i, COMMA)) {
                    names++;
                    if (names > MOST_NAMES || !isNameOrPair(text, from, i)) {
                        return false;
                    }
                    from = i + 1;
                }
            }
            return true;
        }

        static boolean isRuleMet(String rule, Message message) {
            boolean needsAll = Texts.beginsWith(rule, ALL);
            int from = FIRST_COMMA + 1;
            for (int i = from; i <= rule.length(); i++) {
                if (Texts.isPartEnd(rule, i, COMMA)) {
                    // One that is not met settles all, one that is met settles any.
                    if (isNameMet(rule, from, i, message) != needsAll) {
                        return !needsAll;
                    }
                    from = i + 1;
                }
            }
            return needsAll;
        }

        private static boolean isNameMet(String rule, int from, int to, Message message) {
            int nameEnd = Texts.find(rule, SETS, from, to);
            for (int i = 0; i < message.headers.size(); i++) {
                Header header = message.headers.get(i);
                if (Texts.isSame(rule, from, nameEnd, header.name, 0, header.name.length())) {
                    return nameEnd == to
                            || Texts.isSame(rule, nameEnd + 1, to, header.value, 0, header.value.length());
                }
            }
            return false;
        }

        private static boolean isName(String text, int from, int to) {
            if (to - from < 1 || to - from > LONGEST_NAME) {
                return false;
            }
            for (int i = from; i < to; i++) {
                if (!isSmallLetter(text.charAt(i))) {
                    return false;
                }
            }
            return true;
        }

        private static boolean isValue(String text, int from, int to) {
            if (to - from > LONGEST_VALUE) {
                return false;
            }
            for (int i = from; i < to; i++) {
                if (!isSmallLetter(text.charAt(i)) && !isDigit(text.charAt(i))) {
                    return false;
                }
            }
            return true;
        }

        private static boolean isSmallLetter(char character) {
            return character >= 'a' && character <= 'z';
        }

        private static boolean isDigit(char character) {
            return character >= '0' && character <= '9';
        }
    }
}
