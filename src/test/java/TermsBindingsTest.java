/** The sentences under "Terms" that tell which texts a binding may have, and when it is met. */
public final class TermsBindingsTest {
    private static final int DIRECT = 0;
    private static final int FANOUT = 1;
    private static final int TOPIC = 2;
    private static final int HEADERS = 3;

    public static void main(String[] args) {
        Check check = new Check();
        check.sentence("by the SORT of the first", TermsBindingsTest::sortOfTheFirst);
        check.sentence("DIRECT any text", TermsBindingsTest::directTexts);
        check.sentence("the KEY is just that", TermsBindingsTest::directKeys);
        check.sentence("FANOUT an empty one", TermsBindingsTest::fanoutTexts);
        check.sentence("any KEY", TermsBindingsTest::fanoutKeys);
        check.sentence("(an empty text is one empty WORD)", TermsBindingsTest::emptyText);
        check.sentence("a WORD is *, # or has no * and no #", TermsBindingsTest::patternWords);
        check.sentence("the KEY, parted by . into WORDS likewise", TermsBindingsTest::keyWords);
        check.sentence("* stands for one WORD, whatever it is", TermsBindingsTest::oneWord);
        check.sentence("# for any number of WORDS, also none", TermsBindingsTest::anyWords);
        check.sentence("other WORDS for themselves", TermsBindingsTest::otherWords);
        check.sentence("HEADERS: all or any", TermsBindingsTest::allOrAny);
        check.sentence("for each of 0 to 4 NAMES", TermsBindingsTest::namesInRule);
        check.sentence("a comma, the NAME", TermsBindingsTest::commaAndName);
        check.sentence("perhaps = and a VALUE", TermsBindingsTest::perhapsValue);
        check.sentence("a NAME is met if the MESSAGE has such a HEADER", TermsBindingsTest::nameMet);
        check.sentence("and with that VALUE, if one is told", TermsBindingsTest::valueMet);
        check.sentence("all: all of them are met", TermsBindingsTest::allMet);
        check.sentence("any: at least one", TermsBindingsTest::anyMet);
        check.sentence("The same BINDING (from, where, the text as it is) is there once.",
                TermsBindingsTest::sameOnce);
        check.end();
    }

    private static void sortOfTheFirst(Check check) {
        RouteDesk desk = Check.desk(0, 0, 0);
        for (int sort = 0; sort < 4; sort++) {
            desk.exchange(sort);
        }
        for (int to = 0; to < 4; to++) {
            int where = to;
            check.due("direct to " + to, Check.bindExchange(desk, DIRECT, "a*", to), true);
            check.dueThrow("fanout to " + to, IllegalArgumentException.class,
                    () -> Check.bindExchange(desk, FANOUT, "all", where));
            check.due("topic to " + to, Check.bindExchange(desk, TOPIC, "all,", to), true);
            check.dueThrow("headers to " + to, IllegalArgumentException.class,
                    () -> Check.bindExchange(desk, HEADERS, "", where));
        }
    }

    private static void directTexts(Check check) {
        check.bindTakes(DIRECT, "", true);
        check.bindTakes(DIRECT, Check.FULL_TAPE, true);
        for (String text : new String[] {"**", "a##b", "all,,", "..", "=", "  "}) {
            check.bindTakes(DIRECT, text, true);
        }
        for (char sign = 32; sign <= 126; sign++) {
            check.bindTakes(DIRECT, "" + sign, true);
        }
    }

    private static void directKeys(Check check) {
        String full = Check.FULL_TAPE;
        check.isMet(DIRECT, full, true, full);
        check.isMet(DIRECT, full, false, full.substring(0, 47));
        check.isMet(DIRECT, full, false, full.substring(1));
        check.isMet(DIRECT, full, false, full.substring(0, 47) + "M");
        check.isMet(DIRECT, full.substring(0, 47), false, full);
        check.isMet(DIRECT, "", true, "");
        check.isMet(DIRECT, "", false, "a");
        check.isMet(DIRECT, "a", false, "");
        check.isMet(DIRECT, "a", false, "A");
        check.isMet(DIRECT, "#", false, "a");
        check.isMet(DIRECT, "*", false, "a");
        check.isMet(DIRECT, "#", true, "#");
        check.isMet(DIRECT, "a.", false, "a");
    }

    private static void fanoutTexts(Check check) {
        check.bindTakes(FANOUT, "", true);
        check.bindTakes(FANOUT, Check.FULL_TAPE, false);
        for (char sign = 32; sign <= 126; sign++) {
            check.bindTakes(FANOUT, "" + sign, false);
        }
    }

    private static void fanoutKeys(Check check) {
        for (String key : new String[] {"", " ", "a", ".", "#", Check.FULL_TAPE}) {
            check.isMet(FANOUT, "", true, key);
        }
    }

    private static void emptyText(Check check) {
        check.bindTakes(TOPIC, "", true);
        check.isMet(TOPIC, "", true, "");
        check.isMet(TOPIC, "", false, ".");
        check.isMet(TOPIC, "", false, "a");
        check.isMet(TOPIC, "*", true, "");
        check.isMet(TOPIC, "#.*", true, "");
        check.isMet(TOPIC, "*.*", false, "");
        check.isMet(TOPIC, "#.*.*", false, "");
        check.isMet(TOPIC, "a", false, "");
        check.isMet(TOPIC, "#.", true, "");
        check.isMet(TOPIC, ".", false, "");
        check.isMet(TOPIC, ".", true, ".");
        check.isMet(TOPIC, ".#", true, "");
    }

    private static void patternWords(Check check) {
        for (String word : new String[] {"*", "#", "", "a", "ab", " ", "A b!", "a=b,c", "~"}) {
            patternWord(check, word, true);
        }
        for (String word : new String[] {"**", "##", "*#", "#*", "a*", "*a", "a#", "#a", "a*b", "a#b", " *", "# "}) {
            patternWord(check, word, false);
        }
        check.bindTakes(TOPIC, "*" + ".*".repeat(23), true);
        check.bindTakes(TOPIC, "*" + ".*".repeat(22) + ".**", false);
        check.bindTakes(TOPIC, "x".repeat(48), true);
        check.bindTakes(TOPIC, "x".repeat(47) + "*", false);
        check.bindTakes(TOPIC, "#" + "x".repeat(47), false);
        check.bindTakes(TOPIC, ".".repeat(48), true);
    }

    /** The word alone, first, between others, and last. */
    private static void patternWord(Check check, String word, boolean good) {
        check.bindTakes(TOPIC, word, good);
        check.bindTakes(TOPIC, word + ".x", good);
        check.bindTakes(TOPIC, "x." + word + ".#", good);
        check.bindTakes(TOPIC, "*." + word, good);
    }

    private static void keyWords(Check check) {
        check.isMet(TOPIC, "*.*", true, ".");
        check.isMet(TOPIC, "*.*", true, "a.");
        check.isMet(TOPIC, "*.*", true, ".a");
        check.isMet(TOPIC, "*.*", false, "a,b");
        check.isMet(TOPIC, "*.*.*", true, "..");
        check.isMet(TOPIC, "*.*.*", false, "...");
        check.isMet(TOPIC, "#" + ".*".repeat(23), true, ".".repeat(48));
        check.isMet(TOPIC, ".".repeat(48), true, ".".repeat(48));
        check.isMet(TOPIC, ".".repeat(47), false, ".".repeat(48));
        check.isMet(TOPIC, ".".repeat(48), false, ".".repeat(47));
        check.isMet(TOPIC, "*" + ".*".repeat(23), true, ".".repeat(23));
        check.isMet(TOPIC, "*" + ".*".repeat(23), false, ".".repeat(22));
        check.isMet(TOPIC, "*" + ".*".repeat(23), false, ".".repeat(24));
    }

    private static void oneWord(Check check) {
        for (String key : new String[] {"", "a", "ab", "*", "#", "**", "a#", " ", "x".repeat(48)}) {
            check.isMet(TOPIC, "*", true, key);
        }
        for (String key : new String[] {".", "a.b", "a.", ".a", ".."}) {
            check.isMet(TOPIC, "*", false, key);
        }
        check.isMet(TOPIC, "a.*", false, "a");
        check.isMet(TOPIC, "a.*", true, "a.");
        check.isMet(TOPIC, "a.*", true, "a.b");
        check.isMet(TOPIC, "a.*", false, "a.b.c");
        check.isMet(TOPIC, "*.a", false, "a");
        check.isMet(TOPIC, "*.a", true, ".a");
        check.isMet(TOPIC, "*.a", false, "b.c.a");
        check.isMet(TOPIC, "a.*.b", false, "a.b");
        check.isMet(TOPIC, "a.*.b", true, "a..b");
        check.isMet(TOPIC, "a.*.b", false, "a.x.y.b");
    }

    private static void anyWords(Check check) {
        for (String key : new String[] {"", "a", "a.b", "..", "#", ".".repeat(48), "x".repeat(48)}) {
            check.isMet(TOPIC, "#", true, key);
            check.isMet(TOPIC, "#.#", true, key);
        }
        for (String key : new String[] {"a", "a.", "a.b", "a.b.c", "a" + ".".repeat(47)}) {
            check.isMet(TOPIC, "a.#", true, key);
        }
        for (String key : new String[] {"", "b", "b.a", "aa", ".a"}) {
            check.isMet(TOPIC, "a.#", false, key);
        }
        for (String key : new String[] {"a", ".a", "b.a", "c.b.a", "a.a", ".".repeat(47) + "a"}) {
            check.isMet(TOPIC, "#.a", true, key);
        }
        for (String key : new String[] {"", "b", "a.b", "aa", "a."}) {
            check.isMet(TOPIC, "#.a", false, key);
        }
        for (String key : new String[] {"a.b", "a..b", "a.x.b", "a.x.y.b", "a.b.b", "a.a.b"}) {
            check.isMet(TOPIC, "a.#.b", true, key);
        }
        for (String key : new String[] {"", "a", "b", "ab", "a.b.c", "b.a"}) {
            check.isMet(TOPIC, "a.#.b", false, key);
        }
        check.isMet(TOPIC, "#" + ".#".repeat(23), true, "");
        check.isMet(TOPIC, "a" + ".#".repeat(23), true, "a");
        check.isMet(TOPIC, "#" + ".#".repeat(22) + ".a", false, ".".repeat(48));
        check.isMet(TOPIC, "#.a.#.a.#", true, "x.a.x.a.x");
        check.isMet(TOPIC, "#.a.#.a.#", false, "x.a.x");
    }

    private static void otherWords(Check check) {
        check.isMet(TOPIC, "ab", true, "ab");
        for (String key : new String[] {"", "a", "b", "abc", "aB", "ab.", ".ab", "ab ", "*", "#"}) {
            check.isMet(TOPIC, "ab", false, key);
        }
        check.isMet(TOPIC, "a..b", true, "a..b");
        check.isMet(TOPIC, "a..b", false, "a.x.b");
        check.isMet(TOPIC, "a..b", false, "a.b");
        check.isMet(TOPIC, "x".repeat(48), true, "x".repeat(48));
        check.isMet(TOPIC, "x".repeat(48), false, "x".repeat(47) + "y");
    }

    private static void allOrAny(Check check) {
        check.bindTakes(HEADERS, "all", true);
        check.bindTakes(HEADERS, "any", true);
        String[] bad = {
            "", "a", "al", "an", "ll", "ally", "anyy", "all ", " all", "any ", " any", "ALL", "All", "alL", "ANY", "anY",
            "none", "allany", "al,a", "an,a", ",a", "a,a", "ALL,a", "=", Check.FULL_TAPE};
        for (String text : bad) {
            check.bindTakes(HEADERS, text, false);
        }
    }

    private static void namesInRule(Check check) {
        for (String first : new String[] {"all", "any"}) {
            check.bindTakes(HEADERS, first, true);
            check.bindTakes(HEADERS, first + ",a", true);
            check.bindTakes(HEADERS, first + ",a,b,c,d", true);
            check.bindTakes(HEADERS, first + ",a,b,c,d,e", false);
            check.bindTakes(HEADERS, first + ",a=,b=,c=,d=,e=", false);
            check.bindTakes(HEADERS, first + ",a".repeat(22), false);
            check.bindTakes(HEADERS, first + ",abcdef=123456".repeat(3) + ",ab", true);
        }
    }

    private static void commaAndName(Check check) {
        String[] bad = {
            "all,", "all,,", "all,,a", "all,a,", "all,a,,b", "any,a,b,c,d,", "alla", "all a", "all.a", "all;a", "all=a",
            "all, a", "all,a ", "all,a ,b", "all,=", "all,=1", "all,a,=1", "all,abcdefg", "any,a,abcdefg"};
        for (String text : bad) {
            check.bindTakes(HEADERS, text, false);
        }
        check.bindTakes(HEADERS, "all,abcdef", true);
        check.bindTakes(HEADERS, "any,all,any", true);
        for (char sign = 32; sign <= 126; sign++) {
            boolean good = sign >= 'a' && sign <= 'z';
            check.bindTakes(HEADERS, "all," + sign, good);
            check.bindTakes(HEADERS, "any,a,b" + sign + "c", good || sign == '=' || sign == ',');
        }
    }

    private static void perhapsValue(Check check) {
        for (String text : new String[] {"all,a", "all,a=", "all,a=1", "any,a=abc123", "any,a=,b=1,c,d=000000"}) {
            check.bindTakes(HEADERS, text, true);
        }
        for (String text : new String[] {"all,a==", "all,a=1=", "all,a=b=c", "any,a=1234567", "any,a,b=1234567"}) {
            check.bindTakes(HEADERS, text, false);
        }
        for (char sign = 32; sign <= 126; sign++) {
            boolean good = sign >= 'a' && sign <= 'z' || sign >= '0' && sign <= '9';
            check.bindTakes(HEADERS, "all,a=" + sign, good);
            check.bindTakes(HEADERS, "any,a,b=1" + sign, good);
        }
    }

    private static void nameMet(Check check) {
        check.isMet(HEADERS, "all,a", true, "", "a=1");
        check.isMet(HEADERS, "all,a", true, "", "a=");
        check.isMet(HEADERS, "all,a", false, "");
        check.isMet(HEADERS, "all,a", false, "a", "b=a");
        check.isMet(HEADERS, "all,a", false, "", "aa=1");
        check.isMet(HEADERS, "all,aa", false, "", "a=1");
        check.isMet(HEADERS, "any,abcdef", true, "", "abcdef=1");
        check.isMet(HEADERS, "any,abcdef", false, "", "abcdeg=1");
        check.isMet(HEADERS, "any,f", true, "", "a=1", "b=1", "c=1", "d=1", "e=1", "f=1");
    }

    private static void valueMet(Check check) {
        check.isMet(HEADERS, "all,a=1", true, "", "a=1");
        check.isMet(HEADERS, "all,a=1", false, "", "a=2");
        check.isMet(HEADERS, "all,a=1", false, "", "a=12");
        check.isMet(HEADERS, "all,a=12", false, "", "a=1");
        check.isMet(HEADERS, "all,a=1", false, "", "a=");
        check.isMet(HEADERS, "all,a=", true, "", "a=");
        check.isMet(HEADERS, "all,a=", false, "", "a=1");
        check.isMet(HEADERS, "all,a=", false, "");
        check.isMet(HEADERS, "any,a=1", false, "", "b=1");
        check.isMet(HEADERS, "any,a=abc123", true, "", "a=abc123");
        check.isMet(HEADERS, "any,a=abc123", false, "", "a=abc124");
    }

    private static void allMet(Check check) {
        check.isMet(HEADERS, "all", true, "");
        check.isMet(HEADERS, "all", true, "key", "a=1");
        check.isMet(HEADERS, "all,a,b,c,d=4", true, "", "d=4", "c=", "b=", "a=");
        check.isMet(HEADERS, "all,a,b,c,d=4", false, "", "d=5", "c=", "b=", "a=");
        check.isMet(HEADERS, "all,a,b,c,d=4", false, "", "d=4", "c=", "b=");
        check.isMet(HEADERS, "all,a,b,c,d=4", false, "");
        check.isMet(HEADERS, "all,a=1,a=2", false, "", "a=1");
        check.isMet(HEADERS, "all,a,a=1", true, "", "a=1");
    }

    private static void anyMet(Check check) {
        check.isMet(HEADERS, "any", false, "");
        check.isMet(HEADERS, "any", false, "key", "a=1");
        check.isMet(HEADERS, "any,a=1,b,c,d=4", true, "", "a=1");
        check.isMet(HEADERS, "any,a=1,b,c,d=4", true, "", "d=4");
        check.isMet(HEADERS, "any,a=1,b,c,d=4", true, "", "a=1", "b=", "c=", "d=4");
        check.isMet(HEADERS, "any,a=1,b,c,d=4", false, "", "d=3", "a=2", "e=1");
        check.isMet(HEADERS, "any,a=1,b,c,d=4", false, "");
        check.isMet(HEADERS, "any,a=1,a=2", true, "", "a=2");
        check.isMet(HEADERS, "any,all", true, "", "all=1");
        check.isMet(HEADERS, "any,all", false, "", "any=1");
    }

    private static void sameOnce(Check check) {
        RouteDesk desk = Check.desk(2, 0, 2);
        check.due("a binding", Check.bindQueue(desk, 0, "a", 1), true);
        check.due("the same", Check.bindQueue(desk, 0, "a", 1), false);
        check.due("there once", desk.total(2), 1);
        check.due("another from", Check.bindQueue(desk, 1, "a", 1), true);
        check.due("another queue", Check.bindQueue(desk, 0, "a", 0), true);
        check.due("an exchange of that number", Check.bindExchange(desk, 0, "a", 1), true);
        for (String text : new String[] {"", "A", "aa", "a ", " a", "a."}) {
            check.due("text '" + text + "'", Check.bindQueue(desk, 0, text, 1), true);
            check.due("text '" + text + "' again", Check.bindQueue(desk, 0, text, 1), false);
        }
        check.due("bindings", desk.total(2), 10);
        RouteDesk rules = Check.desk(1, HEADERS, 1);
        for (String text : new String[] {"all,a,b", "all,b,a", "any,a,b", "all,a,b,b", "all,a,b="}) {
            check.due("rule " + text, Check.bindQueue(rules, 0, text, 0), true);
        }
        check.due("rules", rules.total(2), 5);
        RouteDesk patterns = Check.desk(1, TOPIC, 1);
        for (String text : new String[] {"#", "#.#", "#.#.#", "#.*", "*.#"}) {
            check.due("pattern " + text, Check.bindQueue(patterns, 0, text, 0), true);
        }
        check.due("the first is there once", Check.unbindQueue(patterns, 0, "#", 0), true);
        check.due("and no more then", Check.unbindQueue(patterns, 0, "#", 0), false);
    }
}
