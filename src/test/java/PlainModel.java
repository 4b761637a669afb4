import java.math.BigInteger;
import java.util.ArrayList;
import java.util.HashMap;
import java.util.HashSet;
import java.util.IdentityHashMap;
import java.util.List;
import java.util.Map;
import java.util.NoSuchElementException;
import java.util.Set;
import java.util.regex.Matcher;
import java.util.regex.Pattern;

/**
 * The document once more, as slowly and as plainly as can be: WRITERS and VERSIONS are objects that know one another,
 * and whatever "were so" is tried on a copy. Its public methods have the names and arguments of the class's.
 */
public final class PlainModel {
    static final class Writer {
        int stamp;
        Set<Integer> snapshot = new HashSet<>();
        /** r runs, d done, g gone. */
        char end = 'r';
        boolean lost;
    }

    static final class Version {
        int number;
        int row;
        int value;
        /** null: FROZEN. */
        Writer from;
        /** null: none. */
        Writer till;
    }

    static final class Fault extends RuntimeException {
        private static final long serialVersionUID = 1L;
        final int number;
        final int place;

        Fault(int number, int place) {
            this.number = number;
            this.place = place;
        }
    }

    static final class Token {
        final String text;
        final int place;

        Token(String text, int place) {
            this.text = text;
            this.place = place;
        }
    }

    /** What ACTS change. */
    static final class State {
        int ring;
        int rows;
        int crash;
        int next;
        Writer[] slots = new Writer[6];
        List<Version> made = new ArrayList<>();
        Map<Integer, Writer> owners = new HashMap<>();

        State copy() {
            IdentityHashMap<Writer, Writer> twins = new IdentityHashMap<>();
            State s = new State();
            s.ring = ring;
            s.rows = rows;
            s.crash = crash;
            s.next = next;
            for (int i = 0; i < 6; i++) {
                s.slots[i] = twin(slots[i], twins);
            }
            for (Version v : made) {
                Version u = new Version();
                u.number = v.number;
                u.row = v.row;
                u.value = v.value;
                u.from = twin(v.from, twins);
                u.till = twin(v.till, twins);
                s.made.add(u);
            }
            for (Map.Entry<Integer, Writer> e : owners.entrySet()) {
                s.owners.put(e.getKey(), twin(e.getValue(), twins));
            }
            return s;
        }

        private static Writer twin(Writer w, Map<Writer, Writer> twins) {
            if (w == null) {
                return null;
            }
            Writer t = twins.get(w);
            if (t == null) {
                t = new Writer();
                t.stamp = w.stamp;
                t.snapshot = new HashSet<>(w.snapshot);
                t.end = w.end;
                t.lost = w.lost;
                twins.put(w, t);
            }
            return t;
        }

        int age(int stamp) {
            int n = 0;
            for (int s = stamp; s != next; s = (s + 1) % ring) {
                n++;
            }
            return n;
        }

        boolean older(int stamp, int other) {
            int s = stamp;
            for (int n = 1; n <= ring / 2; n++) {
                s = (s + 1) % ring;
                if (s == other) {
                    return true;
                }
            }
            return false;
        }

        Set<Integer> held() {
            Set<Integer> set = new HashSet<>();
            for (Writer w : slots) {
                if (w != null) {
                    set.add(w.stamp);
                    set.addAll(w.snapshot);
                }
            }
            return set;
        }

        Set<Integer> inUse() {
            Set<Integer> set = held();
            for (Version v : made) {
                if (v.from != null) {
                    set.add(v.from.stamp);
                }
                if (v.till != null) {
                    set.add(v.till.stamp);
                }
            }
            return set;
        }

        int oldest(Set<Integer> set) {
            int best = -2;
            for (int s : set) {
                best = Math.max(best, age(s));
            }
            return best;
        }

        int horizon() {
            int best = next;
            for (int s : held()) {
                if (age(s) > age(best)) {
                    best = s;
                }
            }
            return best;
        }

        boolean dead(Version v) {
            if (v.from != null && v.from.end == 'g') {
                return true;
            }
            return v.till != null && v.till.end == 'd' && older(v.till.stamp, horizon());
        }

        int deadCount() {
            int n = 0;
            for (Version v : made) {
                n += dead(v) ? 1 : 0;
            }
            return n;
        }

        boolean counts(Writer w, Writer of) {
            return of == w || of.end == 'd' && !w.snapshot.contains(of.stamp) && older(of.stamp, w.stamp);
        }

        boolean visible(Writer w, Version v) {
            return (v.from == null || counts(w, v.from)) && !(v.till != null && counts(w, v.till));
        }

        Version sees(Writer w, int row) {
            Version last = null;
            for (Version v : made) {
                if (v.row == row && visible(w, v)) {
                    last = v;
                }
            }
            return last;
        }

        Version fresh(int row) {
            Version last = null;
            for (Version v : made) {
                if (v.row == row && (v.from == null || v.from.end == 'd') && !(v.till != null && v.till.end == 'd')) {
                    last = v;
                }
            }
            return last;
        }

        int freshSum() {
            int total = 0;
            for (int row = 0; row < rows; row++) {
                Version v = fresh(row);
                total += v == null ? 0 : v.value;
            }
            return total;
        }

        int asOf(int stamp, int row) {
            int value = -2;
            for (Version v : made) {
                boolean there = v.from == null || v.from.end == 'd' && older(v.from.stamp, stamp);
                boolean over = v.till != null && v.till.end == 'd' && older(v.till.stamp, stamp);
                if (v.row == row && there && !over) {
                    value = v.value;
                }
            }
            return value;
        }

        Writer holder(Writer w, int row) {
            Version v = sees(w, row);
            if (v != null) {
                return v.till != null && v.till.end == 'r' ? v.till : null;
            }
            Version last = lastNotGone(row);
            if (last != null && last.from != null && last.from.end == 'r' && last.from != w) {
                return last.from;
            }
            return null;
        }

        Version lastNotGone(int row) {
            Version last = null;
            for (Version v : made) {
                if (v.row == row && !(v.from != null && v.from.end == 'g')) {
                    last = v;
                }
            }
            return last;
        }

        boolean loses(Writer w, int row) {
            if (holder(w, row) != null) {
                return false;
            }
            Version v = sees(w, row);
            if (v != null) {
                return v.till != null && v.till.end == 'd';
            }
            Version last = lastNotGone(row);
            return last != null && last.from != null && !counts(w, last.from);
        }

        int may(Writer w, int row) {
            if (w.lost) {
                return 3;
            }
            return holder(w, row) != null ? 1 : loses(w, row) ? 2 : 0;
        }

        int running() {
            int n = 0;
            for (Writer w : slots) {
                n += w == null ? 0 : 1;
            }
            return n;
        }

        // ACTS: what the class would answer, -1 with `why` set if refused

        int why;

        int begin() {
            why = 0;
            if (running() == 6 || oldest(inUse()) >= ring / 2) {
                why = 3;
                return -1;
            }
            Writer w = new Writer();
            w.stamp = next;
            int slot = -1;
            for (int i = 5; i >= 0; i--) {
                if (slots[i] == null) {
                    slot = i;
                } else {
                    w.snapshot.add(slots[i].stamp);
                }
            }
            owners.put(next, w);
            next = (next + 1) % ring;
            slots[slot] = w;
            return slot;
        }

        int put(int slot, int row, int value) {
            why = 0;
            Writer w = slots[slot];
            int may = may(w, row);
            if (may == 1 || may == 3) {
                why = 5;
                return -1;
            }
            if (may == 2) {
                w.lost = true;
                return -2;
            }
            Version v = sees(w, row);
            if (v != null && v.from == w) {
                v.value = value;
                return v.number;
            }
            Version u = new Version();
            u.number = -1;
            for (int n = 47; n >= 0; n--) {
                if (numbered(n) == null) {
                    u.number = n;
                }
            }
            if (u.number < 0) {
                why = 3;
                return -1;
            }
            if (v != null) {
                v.till = w;
            }
            u.row = row;
            u.value = value;
            u.from = w;
            made.add(u);
            return u.number;
        }

        int drop(int slot, int row) {
            why = 0;
            Writer w = slots[slot];
            int may = may(w, row);
            if (may == 1 || may == 3) {
                why = 5;
                return -1;
            }
            if (may == 2) {
                w.lost = true;
                return -2;
            }
            Version v = sees(w, row);
            if (v == null) {
                why = 6;
                return -1;
            }
            v.till = w;
            return v.number;
        }

        int end(int slot, char end) {
            why = 0;
            Writer w = slots[slot];
            if (end == 'd' && w.lost) {
                why = 5;
                return -1;
            }
            w.end = end;
            slots[slot] = null;
            return w.stamp;
        }

        int clear() {
            why = 0;
            List<Version> kept = new ArrayList<>();
            for (Version v : made) {
                if (!dead(v)) {
                    kept.add(v);
                }
            }
            int n = made.size() - kept.size();
            made = kept;
            if (n == 0) {
                why = 6;
                return -1;
            }
            return n;
        }

        boolean freezesOne(Version v) {
            return v.from != null && v.from.end == 'd' && older(v.from.stamp, horizon());
        }

        int freeze() {
            why = 0;
            int n = 0;
            for (Version v : made) {
                boolean one = false;
                if (freezesOne(v)) {
                    v.from = null;
                    one = true;
                }
                if (v.till != null && v.till.end == 'g') {
                    v.till = null;
                    one = true;
                }
                n += one ? 1 : 0;
            }
            if (n == 0) {
                why = 6;
                return -1;
            }
            return n;
        }

        Version numbered(int n) {
            for (Version v : made) {
                if (v.number == n) {
                    return v;
                }
            }
            return null;
        }
    }

    private static final Set<String> RESERVED = Set.of("store", "begin", "put", "drop", "done", "gone", "clear", "freeze",
        "unsure", "seen", "none");
    private final StringBuilder tape = new StringBuilder();
    private State now;
    private final List<State> undoes = new ArrayList<>();
    private final List<State> images = new ArrayList<>();
    private int unsure;
    private int seen;
    private int judged = -2;
    private List<Integer> fitSets = new ArrayList<>();
    private int trouble;
    private int fault;
    private int place;

    // ---- the store

    public int feed(int a, int b, int c, int d, int e) {
        if (tape.length() > 880) {
            return -1;
        }
        for (int n : new int[] {a, b, c, d, e}) {
            for (int k = 3; k >= 0; k--) {
                tape.append((char) (n >> 8 * k & 255));
            }
        }
        return tape.length();
    }

    public int store(int n) {
        if (n < 0 || n > tape.length()) {
            return no(2);
        }
        String text = tape.substring(0, n);
        tape.setLength(0);
        try {
            new Text(text).read();
            fault = 0;
        } catch (Fault f) {
            fault = f.number;
            place = f.place;
            return no(4);
        }
        undoes.clear();
        images.clear();
        return yes(now.made.size());
    }

    private final class Text {
        final List<Token> tokens = new ArrayList<>();
        final Map<String, Writer> writers = new HashMap<>();
        final Map<Integer, Integer> saw = new HashMap<>();
        final List<Integer> sawOrder = new ArrayList<>();
        final List<Writer> unsureOnes = new ArrayList<>();
        State s;
        int at;

        Text(String text) {
            Matcher m = Pattern.compile("[a-z]+|[0-9]+|[^ ]", Pattern.DOTALL).matcher(text);
            while (m.find()) {
                tokens.add(new Token(m.group(), m.start()));
            }
            tokens.add(new Token("", text.length()));
        }

        Token take(String pattern) {
            Token t = tokens.get(at++);
            if (!t.text.matches(pattern)) {
                throw new Fault(1, t.place);
            }
            return t;
        }

        int whole(int least, int most) {
            Token t = take("[0-9]{1,3}");
            int n = Integer.parseInt(t.text);
            if (n < least || n > most) {
                throw new Fault(4, t.place);
            }
            return n;
        }

        Token name() {
            Token t = take("[a-z]{1,8}");
            if (RESERVED.contains(t.text)) {
                throw new Fault(1, t.place);
            }
            return t;
        }

        Writer writer(boolean runs) {
            Token t = name();
            Writer w = writers.get(t.text);
            if (w == null) {
                throw new Fault(2, t.place);
            }
            if (!runs && unsureOnes.contains(w)) {
                throw new Fault(3, t.place);
            }
            if (runs != (w.end == 'r')) {
                throw new Fault(7, t.place);
            }
            return w;
        }

        Token lineEnd() {
            return take(";|");
        }

        void read() {
            do {
                line();
            } while (tokens.get(at - 1).text.equals(";"));
            State then = s;
            now = then;
            unsure = unsureOnes.size();
            seen = sawOrder.size();
            judged = firstWrong();
            fitSets = new ArrayList<>();
            for (int set = 0; set < 1 << unsure; set++) {
                flip(set);
                if (firstWrong() == -2) {
                    fitSets.add(set);
                }
                flip(set);
            }
        }

        /** Nobody asks here whether a STAMP has been had since: no VERSION can know such a WRITER any more. */
        void flip(int set) {
            for (int u = 0; u < unsureOnes.size(); u++) {
                if ((set >> u & 1) != 0) {
                    Writer w = unsureOnes.get(u);
                    w.end = w.end == 'd' ? 'g' : 'd';
                }
            }
        }

        int firstWrong() {
            for (int i = 0; i < sawOrder.size(); i++) {
                Version v = s.fresh(sawOrder.get(i));
                if ((v == null ? -2 : v.value) != saw.get(sawOrder.get(i))) {
                    return i;
                }
            }
            return -2;
        }

        void line() {
            Token head = take("store|begin|put|drop|done|gone|clear|freeze|unsure|seen");
            if (head.text.equals("store")) {
                if (s != null) {
                    throw new Fault(3, head.place);
                }
                storeLine();
                return;
            }
            if (s == null) {
                throw new Fault(6, head.place);
            }
            switch (head.text) {
                case "begin" -> begin(head);
                case "put", "drop" -> change(head.text.equals("put"));
                case "done", "gone" -> {
                    Writer w = writer(true);
                    lineEnd();
                    s.end(slot(w), head.text.charAt(0));
                }
                case "clear" -> act(lineEnd(), s.clear());
                case "freeze" -> act(lineEnd(), s.freeze());
                case "unsure" -> {
                    if (unsureOnes.size() == 4) {
                        throw new Fault(5, head.place);
                    }
                    unsureOnes.add(writer(false));
                    lineEnd();
                }
                default -> seenLine();
            }
        }

        void act(Token behind, int answer) {
            if (answer < 0) {
                throw new Fault(8, behind.place);
            }
        }

        int slot(Writer w) {
            for (int i = 0; i < 6; i++) {
                if (s.slots[i] == w) {
                    return i;
                }
            }
            throw new IllegalStateException();
        }

        void storeLine() {
            State made = new State();
            take("ring");
            made.ring = whole(8, 64);
            if (made.ring % 2 == 1) {
                throw new Fault(4, tokens.get(at - 1).place);
            }
            take("rows");
            made.rows = whole(1, 8);
            take("start");
            made.next = whole(0, made.ring - 1);
            take("crash");
            made.crash = whole(0, 100);
            lineEnd();
            s = made;
        }

        void begin(Token head) {
            if (writers.size() == 12) {
                throw new Fault(5, head.place);
            }
            Token t = name();
            if (writers.containsKey(t.text)) {
                throw new Fault(3, t.place);
            }
            Token behind = lineEnd();
            int slot = s.begin();
            act(behind, slot);
            writers.put(t.text, s.slots[slot]);
        }

        void change(boolean puts) {
            Writer w = writer(true);
            int row = whole(0, s.rows - 1);
            int value = puts ? whole(0, 999) : 0;
            Token behind = lineEnd();
            act(behind, puts ? s.put(slot(w), row, value) : s.drop(slot(w), row));
        }

        void seenLine() {
            int row = whole(0, s.rows - 1);
            if (saw.containsKey(row)) {
                throw new Fault(3, tokens.get(at - 1).place);
            }
            Token t = take("[0-9]{1,3}|none");
            saw.put(row, t.text.equals("none") ? -2 : Integer.parseInt(t.text));
            sawOrder.add(row);
            lineEnd();
        }
    }

    public int fault() {
        return fault;
    }

    public int where() {
        return trouble == 4 ? place : -1;
    }

    // ---- stamps

    private int yes(int answer) {
        trouble = 0;
        return answer;
    }

    private int no(int why) {
        trouble = why;
        return -1;
    }

    private boolean stamp(int s) {
        return s >= 0 && s < now.ring;
    }

    private boolean row(int r) {
        return now != null && r >= 0 && r < now.rows;
    }

    private boolean runs(int w) {
        return now != null && w >= 0 && w < 6 && now.slots[w] != null;
    }

    public int next() {
        return now == null ? no(1) : yes(now.next);
    }

    public int age(int stamp) {
        return now == null ? no(1) : !stamp(stamp) ? no(2) : yes(now.age(stamp));
    }

    public int older(int stamp, int other) {
        return now == null ? no(1) : !stamp(stamp) || !stamp(other) ? no(2) : yes(now.older(stamp, other) ? 1 : 0);
    }

    public int oldest() {
        return now == null ? no(1) : yes(now.oldest(now.inUse()));
    }

    private static int roomOf(State s) {
        if (s.inUse().isEmpty()) {
            return -2;
        }
        int n = 0;
        for (int slot = s.begin(); slot >= 0; slot = s.begin()) {
            n++;
            s.end(slot, 'd');
        }
        return n;
    }

    public int room() {
        return now == null ? no(1) : yes(roomOf(now.copy()));
    }

    public int roomFrozen() {
        if (now == null) {
            return no(1);
        }
        State s = now.copy();
        s.clear();
        s.freeze();
        return yes(roomOf(s));
    }

    public int horizon() {
        return now == null ? no(1) : yes(now.horizon());
    }

    // ---- writers

    public int writer(int w, int what) {
        if (!runs(w) || what < 0 || what > 4) {
            return no(1);
        }
        Writer x = now.slots[w];
        int made = 0;
        int ended = 0;
        for (Version v : now.made) {
            made += v.from == x ? 1 : 0;
            ended += v.till == x ? 1 : 0;
        }
        return yes(new int[] {x.stamp, x.lost ? 1 : 0, x.snapshot.size(), made, ended}[what]);
    }

    public int running() {
        if (now == null) {
            return no(1);
        }
        int bits = 0;
        for (int w = 0; w < 6; w++) {
            bits += runs(w) ? 1 << w : 0;
        }
        return yes(bits);
    }

    public int counts(int w, int stamp) {
        if (!runs(w)) {
            return no(1);
        }
        if (!stamp(stamp)) {
            return no(2);
        }
        Writer of = now.owners.get(stamp);
        return yes(of != null && now.counts(now.slots[w], of) ? 1 : 0);
    }

    public int holdsBack() {
        if (now == null) {
            return no(1);
        }
        int best = -2;
        int age = -1;
        for (int w = 0; w < 6; w++) {
            if (runs(w)) {
                Set<Integer> set = new HashSet<>(now.slots[w].snapshot);
                set.add(now.slots[w].stamp);
                if (now.oldest(set) > age) {
                    age = now.oldest(set);
                    best = w;
                }
            }
        }
        return yes(best);
    }

    public int frees(int w) {
        if (!runs(w)) {
            return no(1);
        }
        State s = now.copy();
        s.end(w, 'g');
        return yes(s.deadCount() - now.deadCount());
    }

    // ---- versions

    public int version(int v, int what) {
        Version x = now == null ? null : now.numbered(v);
        if (x == null || what < 0 || what > 5) {
            return no(1);
        }
        return yes(new int[] {x.row, x.value, x.from == null ? -2 : x.from.stamp, x.till == null ? -2 : x.till.stamp,
            now.dead(x) ? 1 : 0, now.freezesOne(x) ? 1 : 0}[what]);
    }

    private List<Version> chainOf(int row) {
        List<Version> all = new ArrayList<>();
        for (Version v : now.made) {
            if (v.row == row) {
                all.add(v);
            }
        }
        return all;
    }

    public int chain(int row) {
        return row(row) ? yes(chainOf(row).size()) : no(1);
    }

    public int chainAt(int row, int i) {
        return !row(row) || i < 0 || i >= chainOf(row).size() ? no(1) : yes(chainOf(row).get(i).number);
    }

    public int seenBy(int v) {
        Version x = now == null ? null : now.numbered(v);
        if (x == null) {
            return no(1);
        }
        int bits = 0;
        for (int w = 0; w < 6; w++) {
            bits += runs(w) && now.visible(now.slots[w], x) ? 1 << w : 0;
        }
        return yes(bits);
    }

    public int dead() {
        return now == null ? no(1) : yes(now.deadCount());
    }

    public int freezes() {
        return now == null ? no(1) : yes(Math.max(0, now.copy().freeze()));
    }

    // ---- what is seen

    public int sees(int w, int row) {
        if (!runs(w) || !row(row)) {
            return no(1);
        }
        Version v = now.sees(now.slots[w], row);
        return yes(v == null ? -2 : v.number);
    }

    public int read(int w, int row) {
        if (!runs(w) || !row(row)) {
            return no(1);
        }
        Version v = now.sees(now.slots[w], row);
        return yes(v == null ? -2 : v.value);
    }

    public int sum(int w) {
        if (!runs(w)) {
            return no(1);
        }
        int total = 0;
        for (int row = 0; row < now.rows; row++) {
            total += Math.max(0, read(w, row));
        }
        return yes(total);
    }

    public int differ(int w, int other) {
        if (!runs(w) || !runs(other)) {
            return no(1);
        }
        int bits = 0;
        for (int row = 0; row < now.rows; row++) {
            bits += now.sees(now.slots[w], row) != now.sees(now.slots[other], row) ? 1 << row : 0;
        }
        return yes(bits);
    }

    public int fresh(int row) {
        if (!row(row)) {
            return no(1);
        }
        Version v = now.fresh(row);
        return yes(v == null ? -2 : v.value);
    }

    public int freshSum() {
        return now == null ? no(1) : yes(now.freshSum());
    }

    public int asOf(int stamp, int row) {
        return !row(row) ? no(1) : !stamp(stamp) ? no(2) : yes(now.asOf(stamp, row));
    }

    public int changed(int stamp, int other) {
        if (now == null) {
            return no(1);
        }
        if (!stamp(stamp) || !stamp(other)) {
            return no(2);
        }
        int bits = 0;
        for (int row = 0; row < now.rows; row++) {
            bits += now.asOf(stamp, row) != now.asOf(other, row) ? 1 << row : 0;
        }
        return yes(bits);
    }

    // ---- who may put

    public int may(int w, int row) {
        return runs(w) && row(row) ? yes(now.may(now.slots[w], row)) : no(1);
    }

    public int waitsFor(int w, int row) {
        if (!runs(w) || !row(row)) {
            return no(1);
        }
        Writer by = now.slots[w].lost ? null : now.holder(now.slots[w], row);
        for (int i = 0; i < 6; i++) {
            if (by != null && now.slots[i] == by) {
                return yes(i);
            }
        }
        return yes(-2);
    }

    private int rowsBy(int w, int may) {
        if (!runs(w)) {
            return no(1);
        }
        int bits = 0;
        for (int row = 0; row < now.rows; row++) {
            bits += now.may(now.slots[w], row) == may ? 1 << row : 0;
        }
        return yes(bits);
    }

    public int open(int w) {
        return rowsBy(w, 0);
    }

    public int loses(int w) {
        return rowsBy(w, 2);
    }

    // ---- unsure ends

    public int fits() {
        return now == null ? no(1) : yes(fitSets.size());
    }

    public int fitAt(int i) {
        return now == null || i < 0 || i >= fitSets.size() ? no(1) : yes(fitSets.get(i));
    }

    public int could() {
        int bits = 0;
        for (int set : fitSets) {
            bits |= set;
        }
        return now == null ? no(1) : yes(bits);
    }

    public int surely() {
        int bits = fitSets.isEmpty() ? 0 : 15;
        for (int set : fitSets) {
            bits &= set;
        }
        return now == null ? no(1) : yes(bits);
    }

    private int left(int u) {
        int with = 0;
        int without = 0;
        for (int set : fitSets) {
            if ((set >> u & 1) == 1) {
                with++;
            } else {
                without++;
            }
        }
        return Math.max(with, without);
    }

    public int ask() {
        if (now == null) {
            return no(1);
        }
        int best = -2;
        for (int u = unsure - 1; u >= 0 && !fitSets.isEmpty(); u--) {
            best = best < 0 || left(u) <= left(best) ? u : best;
        }
        return yes(best);
    }

    public int askLeaves() {
        int best = ask();
        return best < 0 ? best : left(best);
    }

    public int judge() {
        return now == null ? no(1) : yes(judged);
    }

    // ---- wait or yield

    private static int has(int cost, boolean waits, boolean otherWaits) {
        return waits && otherWaits ? -cost : waits ? 4 : otherWaits ? 1 : 2;
    }

    public int waits(int cost, boolean one, boolean other, boolean ofOther) {
        if (now == null || cost < 0 || cost > 9) {
            no(now == null ? 1 : 2);
            return -100;
        }
        return yes(ofOther ? has(cost, other, one) : has(cost, one, other));
    }

    private static List<Integer> restsOf(int cost) {
        List<Integer> all = new ArrayList<>();
        for (boolean one : new boolean[] {false, true}) {
            for (boolean other : new boolean[] {false, true}) {
                if (has(cost, one, other) >= has(cost, !one, other) && has(cost, other, one) >= has(cost, !other, one)) {
                    all.add((one ? 10 : 0) + (other ? 1 : 0));
                }
            }
        }
        return all;
    }

    public int rests(int cost) {
        return now == null ? no(1) : cost < 0 || cost > 9 ? no(2) : yes(restsOf(cost).size());
    }

    public int rest(int cost) {
        if (now == null || cost < 0 || cost > 9) {
            return no(now == null ? 1 : 2);
        }
        return yes(restsOf(cost).isEmpty() ? -2 : restsOf(cost).get(0));
    }

    // ---- crashes

    /** Lets the WRITERS from a SLOT on end in every way; adds weight by weight what is measured then. */
    private BigInteger weigh(State s, int from, BigInteger weight, int row, int value) {
        if (from == 6) {
            Version v = row < 0 ? null : s.fresh(row);
            long measure = row < 0 ? s.freshSum() : v != null && v.value == value ? 1 : 0;
            return weight.multiply(BigInteger.valueOf(measure));
        }
        if (s.slots[from] == null) {
            return weigh(s, from + 1, weight, row, value);
        }
        boolean lost = s.slots[from].lost;
        State crashed = s.copy();
        crashed.end(from, 'g');
        BigInteger total = weigh(crashed, from + 1, weight.multiply(BigInteger.valueOf(lost ? 100 : s.crash)), row, value);
        if (!lost) {
            State done = s.copy();
            done.end(from, 'd');
            total = total.add(weigh(done, from + 1, weight.multiply(BigInteger.valueOf(100 - s.crash)), row, value));
        }
        return total;
    }

    private long part(BigInteger upper, boolean lower) {
        BigInteger whole = BigInteger.valueOf(100).pow(now.running());
        BigInteger common = upper.gcd(whole);
        return (lower ? whole : upper).divide(common).longValueExact();
    }

    public long odds(int row, int value, boolean lower) {
        if (!row(row)) {
            return no(1);
        }
        if (value < 0 || value > 999) {
            return no(2);
        }
        trouble = 0;
        return part(weigh(now, 0, BigInteger.ONE, row, value), lower);
    }

    public long mean(boolean lower) {
        if (now == null) {
            return no(1);
        }
        trouble = 0;
        return part(weigh(now, 0, BigInteger.ONE, -1, 0), lower);
    }

    public int drawn(int seed) {
        if (now == null || seed < 0 || seed > 65536) {
            return no(now == null ? 1 : 2);
        }
        State s = now.copy();
        int draw = seed;
        for (int w = 0; w < 6; w++) {
            if (s.slots[w] != null) {
                draw = (75 * draw + 74) % 65537;
                s.end(w, draw % 100 < s.crash || s.slots[w].lost ? 'g' : 'd');
            }
        }
        return yes(s.freshSum());
    }

    // ---- acts

    private int acted(State before, int answer) {
        trouble = now.why;
        if (now.why != 0) {
            now = before;
            return -1;
        }
        undoes.add(before);
        if (undoes.size() > 16) {
            undoes.remove(0);
        }
        return answer;
    }

    public int begin() {
        return now == null ? no(1) : acted(now.copy(), now.begin());
    }

    public int put(int w, int row, int value) {
        if (!runs(w) || !row(row)) {
            return no(1);
        }
        return value < 0 || value > 999 ? no(2) : acted(now.copy(), now.put(w, row, value));
    }

    public int drop(int w, int row) {
        return !runs(w) || !row(row) ? no(1) : acted(now.copy(), now.drop(w, row));
    }

    public int done(int w) {
        return runs(w) ? acted(now.copy(), now.end(w, 'd')) : no(1);
    }

    public int gone(int w) {
        return runs(w) ? acted(now.copy(), now.end(w, 'g')) : no(1);
    }

    public int clear() {
        return now == null ? no(1) : acted(now.copy(), now.clear());
    }

    public int freeze() {
        return now == null ? no(1) : acted(now.copy(), now.freeze());
    }

    public boolean undo() {
        if (undoes.isEmpty()) {
            no(6);
            return false;
        }
        now = undoes.remove(undoes.size() - 1);
        yes(0);
        return true;
    }

    public int image() {
        if (now == null || images.size() == 3) {
            return no(now == null ? 1 : 3);
        }
        images.add(now.copy());
        return yes(images.size() - 1);
    }

    public boolean back(int image) {
        if (image < 0 || image >= images.size()) {
            no(1);
            return false;
        }
        now = images.get(image).copy();
        undoes.clear();
        yes(0);
        return true;
    }

    // ---- what is told

    public int led(int i) {
        int n = 0;
        for (int row = 0; now != null && row < now.rows; row++) {
            if (now.fresh(row) == null && n++ == i) {
                return row;
            }
        }
        throw new NoSuchElementException();
    }

    public int size(int what) {
        if (what < 0 || what > 9) {
            return -1;
        }
        State s = now == null ? new State() : now;
        return new int[] {s.ring, s.rows, s.crash, s.made.size(), s.running(), unsure, seen, undoes.size(), images.size(),
            tape.length()}[what];
    }

    public int trouble() {
        return trouble;
    }
}
