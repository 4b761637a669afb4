import java.lang.reflect.InvocationTargetException;
import java.lang.reflect.Method;
import java.util.Arrays;
import java.util.IdentityHashMap;
import java.util.List;
import java.util.Map;
import java.util.NoSuchElementException;
import java.util.Set;
import java.util.TreeMap;
import java.util.TreeSet;

/**
 * Tests of sentences: each names by says() the document's words that it tests, and then makes calls, written as in
 * Java ("age(8)"; MIN and MAX are the least and the greatest int). Truth counts 1 or 0.
 */
final class Edge {
    private static final int MOST_CALLS = 512;
    private static final Set<String> NEVER_REFUSED = Set.of("feed", "fault", "where", "led", "size", "trouble");
    private static final Map<String, Method> METHODS = new TreeMap<>();
    private static final Document DOCUMENT = new Document();
    private static final Map<StampedRows, Integer> USED = new IdentityHashMap<>();
    private static final Map<Integer, Set<Integer>> REFUSED = new TreeMap<>();
    private static String section = "";
    private static String sentence = "";

    static {
        for (Method method : StampedRows.class.getMethods()) {
            METHODS.put(method.getName(), method);
        }
    }

    private Edge() {
    }

    static void says(String ofSection, String words) {
        section = ofSection;
        sentence = words;
        Check.isTrue("the document says in " + ofSection + ": " + words, DOCUMENT.quote(ofSection, words));
    }

    static void says(int promise, String words) {
        says(Integer.toString(promise), words);
    }

    private static String named(String call) {
        return "[" + section + ": " + sentence + "] " + call;
    }

    static void same(String call, long got, long due) {
        Check.same(named(call), got, due);
    }

    static void same(String call, boolean got, boolean due) {
        Check.same(named(call), got, due);
    }

    static void isTrue(String what, boolean so) {
        Check.isTrue(named(what), so);
    }

    // calls

    private static long call(StampedRows x, String call) {
        try {
            return invoke(x, call);
        } catch (InvocationTargetException e) {
            throw new IllegalStateException(named(call) + " throws " + e.getCause(), e);
        }
    }

    private static long invoke(StampedRows x, String call) throws InvocationTargetException {
        USED.merge(x, 1, Integer::sum);
        int open = call.indexOf('(');
        Method method = METHODS.get(call.substring(0, open));
        String list = call.substring(open + 1, call.length() - 1).trim();
        Object[] values = list.isEmpty() ? new Object[0]
            : Arrays.stream(list.split(",")).map(word -> value(word.trim())).toArray();
        try {
            Object answer = method.invoke(x, values);
            return answer instanceof Boolean ? ((Boolean) answer ? 1L : 0L) : ((Number) answer).longValue();
        } catch (IllegalAccessException e) {
            throw new IllegalStateException(e);
        }
    }

    private static Object value(String word) {
        switch (word) {
            case "true":
                return true;
            case "false":
                return false;
            case "MIN":
                return Integer.MIN_VALUE;
            case "MAX":
                return Integer.MAX_VALUE;
            default:
                return Integer.parseInt(word);
        }
    }

    /** Leaves another TROUBLE than the one that is due, so that a call that leaves it alone is found out. */
    private static void leaveOther(StampedRows x, int trouble) {
        call(x, trouble == 2 ? "writer(-1, 0)" : "store(-1)");
    }

    /** An answer that isn't a refusal: TROUBLE is 0 then. */
    static void answers(StampedRows x, String call, long due) {
        leaveOther(x, 0);
        Check.same(named(call), call(x, call), due);
        Check.same(named(call) + ", then trouble()", call(x, "trouble()"), 0);
    }

    /** A refusal, by which nothing is changed. */
    static void refuses(StampedRows x, String call, long due, int trouble) {
        long[] before = look(x);
        leaveOther(x, trouble);
        Check.same(named(call), call(x, call), due);
        Check.same(named(call) + ", then trouble()", call(x, "trouble()"), trouble);
        Check.isTrue(named(call) + " changes nothing", Arrays.equals(before, look(x)));
        if (section.matches("[0-9]+")) {
            REFUSED.computeIfAbsent(Integer.parseInt(section), key -> new TreeSet<>()).add(trouble);
        }
    }

    static void refuses(StampedRows x, String call, int trouble) {
        refuses(x, call, StampedRows.NONE, trouble);
    }

    private static long[] look(StampedRows x) {
        return new long[] {call(x, "next()"), call(x, "running()"), call(x, "oldest()"), call(x, "size(3)"),
            call(x, "size(7)"), call(x, "size(8)")};
    }

    /** A call of which no TROUBLE is told: it stays as it was. */
    static void tells(StampedRows x, String call, long due) {
        long before = call(x, "trouble()");
        Check.same(named(call), call(x, call), due);
        Check.same(named(call) + " leaves trouble()", call(x, "trouble()"), before);
    }

    static void tellsNone(StampedRows x, String call) {
        long before = call(x, "trouble()");
        try {
            Check.isTrue(named(call) + " throws, but answered " + invoke(x, call), false);
        } catch (InvocationTargetException e) {
            Check.isTrue(named(call) + " throws NoSuchElementException",
                e.getCause().getClass() == NoSuchElementException.class);
        }
        Check.same(named(call) + " leaves trouble()", call(x, "trouble()"), before);
    }

    /** Calls on the way to what is tested; none may be refused. */
    static void does(StampedRows x, String... calls) {
        for (String each : calls) {
            call(x, each);
            boolean isGood = NEVER_REFUSED.contains(each.substring(0, each.indexOf('('))) || call(x, "trouble()") == 0;
            Check.isTrue(named(each) + " isn't refused", isGood);
        }
    }

    // texts

    static StampedRows stored(String text) {
        StampedRows x = new StampedRows();
        good(x, text);
        return x;
    }

    static void good(StampedRows x, String text) {
        int answer = Check.store(x, text);
        Check.isTrue(named("store of " + text) + " isn't refused", answer >= 0 && x.trouble() == 0);
        Check.same(named("fault() of " + text), x.fault(), 0);
        Check.same(named("where() of " + text), x.where(), -1);
    }

    static void good(String text) {
        good(new StampedRows(), text);
    }

    /** A text with a FAULT, at the place of the sign ^, which isn't part of it. */
    static void fault(int number, String marked) {
        String text = marked.replace("^", "");
        StampedRows x = new StampedRows();
        Check.same(named("store of " + text), Check.store(x, text), -1);
        Check.same(named("trouble() of " + text), x.trouble(), 4);
        Check.same(named("fault() of " + text), x.fault(), number);
        Check.same(named("where() of " + text), x.where(), marked.indexOf('^'));
    }

    // the end

    /** All of the document has been quoted, and of each promise all refusals that it tells have been tested. */
    static void end() {
        List<String> left = DOCUMENT.unquoted();
        Check.isTrue("each sentence has a test; without one: " + left, left.isEmpty());
        for (int promise = 1; promise <= Document.PROMISES; promise++) {
            Set<Integer> got = REFUSED.getOrDefault(promise, Set.of());
            Check.isTrue("promise " + promise + " tells the refusals " + DOCUMENT.refusals(promise) + ", tested are " + got,
                DOCUMENT.refusals(promise).equals(got));
        }
        for (int calls : USED.values()) {
            Check.isTrue("an object is used for " + calls + " calls", calls <= MOST_CALLS);
        }
        Check.end();
    }
}
