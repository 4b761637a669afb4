import java.util.Arrays;
import java.util.NoSuchElementException;

/**
 * A multiversion row store: ROWS are CHAINS of VERSIONS, and WRITERS with STAMPS on a ring each SEE one moment.
 *
 * <p>The words in capitals are those of the document. Sets of STAMPS are held as the bits of a long, since a ring has
 * at most 64 of them; whoever looks (a WRITER, a FRESH reader, one as of a STAMP, one behind a CRASH) is then nothing
 * but the set of STAMPS that COUNT for him.
 */
public final class StampedRows {
    public static final int NONE = -1;

    /** No VERSION is seen, no TILL, no FROM because it is FROZEN, a free SLOT, or an answer that there is nothing. */
    private static final int NOTHING = -2;

    private static final int MOST_BYTES = 900;
    private static final int MOST_RING = 64;
    private static final int MOST_ROWS = 8;
    private static final int MOST_NAMES = 12;
    private static final int MOST_UNSURE = 4;
    private static final int MOST_VALUE = 999;
    private static final int MOST_COST = 9;
    private static final int MOST_SEED = 65536;
    private static final int SLOTS = 6;
    private static final int VERSIONS = 48;
    private static final int KEPT_ACTS = 16;
    private static final int KEPT_IMAGES = 3;
    private static final int HUNDRED = 100;

    /** What a PUT or DROP would come to. */
    private static final int FREE = 0;
    private static final int HELD = 1;
    private static final int LOST_BY_IT = 2;
    private static final int LOST_ALREADY = 3;

    /** TROUBLE. */
    private static final int NO_TROUBLE = 0;
    private static final int NONE_SUCH = 1;
    private static final int BAD_NUMBER = 2;
    private static final int NO_ROOM = 3;
    private static final int BAD_TEXT = 4;
    private static final int NOT_SO = 5;
    private static final int THERE_IS_NONE = 6;

    /** FAULTS. */
    private static final int NO_FAULT = 0;
    private static final int FORM = 1;
    private static final int UNTOLD = 2;
    private static final int AGAIN = 3;
    private static final int OUT_OF_BOUNDS = 4;
    private static final int MANY = 5;
    private static final int LACKS = 6;
    private static final int ENDED = 7;
    private static final int REFUSED = 8;

    private static final Word[] WORDS = Word.values();

    private final Reader reader = new Reader();
    private final Rows rows = new Rows();
    private final Evidence evidence = new Evidence();
    private final History history = new History();
    private int troubleNumber;
    private int faultNumber;
    private int faultPlace;

    public StampedRows() {
    }

    // ---- the store

    public int feed(int a, int b, int c, int d, int e) {
        Tape tape = reader.tape;
        if (tape.size + 20 > MOST_BYTES) {
            return NONE;
        }
        tape.addFour(a);
        tape.addFour(b);
        tape.addFour(c);
        tape.addFour(d);
        tape.addFour(e);
        return tape.size;
    }

    public int store(int n) {
        if (n < 0 || n > reader.tape.size) {
            return refuse(BAD_NUMBER);
        }
        boolean good = reader.readStore(n);
        faultNumber = reader.fault;
        faultPlace = reader.place;
        if (!good) {
            return refuse(BAD_TEXT);
        }
        rows.takeOver(reader.rows);
        evidence.takeOver(reader.evidence);
        evidence.weigh(rows);
        history.forgetAll();
        return answer(rows.count);
    }

    public int fault() {
        return faultNumber;
    }

    public int where() {
        return troubleNumber == BAD_TEXT ? faultPlace : NONE;
    }

    // ---- stamps

    public int next() {
        return hasStore() ? answer(rows.nextStamp) : refuse(NONE_SUCH);
    }

    public int age(int stamp) {
        int why = stampTrouble(stamp);
        return why != NO_TROUBLE ? refuse(why) : answer(rows.ageOf(stamp));
    }

    public int older(int stamp, int other) {
        int why = stampsTrouble(stamp, other);
        return why != NO_TROUBLE ? refuse(why) : answer(oneIf(Rows.holds(rows.olderThan(other), stamp)));
    }

    public int oldest() {
        return hasStore() ? answer(rows.greatestAge(rows.inUse())) : refuse(NONE_SUCH);
    }

    public int room() {
        return hasStore() ? answer(rows.roomBeside(rows.inUse())) : refuse(NONE_SUCH);
    }

    public int roomFrozen() {
        return hasStore() ? answer(rows.roomBeside(rows.inUseWhenFrozen())) : refuse(NONE_SUCH);
    }

    public int horizon() {
        return hasStore() ? answer(rows.horizonWithout(NOTHING)) : refuse(NONE_SUCH);
    }

    // ---- writers

    public int writer(int w, int what) {
        if (!rows.runs(w)) {
            return refuse(NONE_SUCH);
        }
        switch (what) {
            case 0:
                return answer(rows.stampOf(w));
            case 1:
                return answer(oneIf(rows.hasLost(w)));
            case 2:
                return answer(rows.snapshotLength(w));
            case 3:
                return answer(rows.madeBy(rows.stampOf(w)));
            case 4:
                return answer(rows.endedBy(rows.stampOf(w)));
            default:
                return refuse(NONE_SUCH);
        }
    }

    public int running() {
        return hasStore() ? answer(rows.runningSlots()) : refuse(NONE_SUCH);
    }

    public int counts(int w, int stamp) {
        if (!rows.runs(w)) {
            return refuse(NONE_SUCH);
        }
        if (!rows.isStamp(stamp)) {
            return refuse(BAD_NUMBER);
        }
        return answer(oneIf(Rows.holds(rows.countingFor(w), stamp)));
    }

    public int holdsBack() {
        return hasStore() ? answer(rows.slotHoldingBack()) : refuse(NONE_SUCH);
    }

    public int frees(int w) {
        if (!rows.runs(w)) {
            return refuse(NONE_SUCH);
        }
        return answer(rows.countDeadWithout(w) - rows.countDeadWithout(NOTHING));
    }

    // ---- versions

    public int version(int v, int what) {
        if (!rows.isVersion(v)) {
            return refuse(NONE_SUCH);
        }
        switch (what) {
            case 0:
                return answer(rows.rowOf(v));
            case 1:
                return answer(rows.valueOf(v));
            case 2:
                return answer(rows.fromOf(v));
            case 3:
                return answer(rows.tillOf(v));
            case 4:
                return answer(oneIf(rows.isDeadNow(v)));
            case 5:
                return answer(oneIf(rows.wouldFreeze(v)));
            default:
                return refuse(NONE_SUCH);
        }
    }

    public int chain(int row) {
        return rows.isRow(row) ? answer(rows.chainLength(row)) : refuse(NONE_SUCH);
    }

    public int chainAt(int row, int i) {
        if (!rows.isRow(row)) {
            return refuse(NONE_SUCH);
        }
        int v = rows.versionInChain(row, i);
        return v == NOTHING ? refuse(NONE_SUCH) : answer(v);
    }

    public int seenBy(int v) {
        if (!rows.isVersion(v)) {
            return refuse(NONE_SUCH);
        }
        int slots = 0;
        for (int w = 0; w < SLOTS; w++) {
            if (rows.runs(w) && rows.isSeen(v, rows.countingFor(w))) {
                slots |= 1 << w;
            }
        }
        return answer(slots);
    }

    public int dead() {
        return hasStore() ? answer(rows.countDeadWithout(NOTHING)) : refuse(NONE_SUCH);
    }

    public int freezes() {
        return hasStore() ? answer(rows.countFreezing()) : refuse(NONE_SUCH);
    }

    // ---- what is seen

    public int sees(int w, int row) {
        if (!rows.runs(w) || !rows.isRow(row)) {
            return refuse(NONE_SUCH);
        }
        return answer(rows.versionSeen(row, rows.countingFor(w)));
    }

    public int read(int w, int row) {
        if (!rows.runs(w) || !rows.isRow(row)) {
            return refuse(NONE_SUCH);
        }
        return answer(rows.valueSeen(row, rows.countingFor(w)));
    }

    public int sum(int w) {
        return rows.runs(w) ? answer(rows.sumSeen(rows.countingFor(w))) : refuse(NONE_SUCH);
    }

    public int differ(int w, int other) {
        if (!rows.runs(w) || !rows.runs(other)) {
            return refuse(NONE_SUCH);
        }
        long mine = rows.countingFor(w);
        long theirs = rows.countingFor(other);
        int bits = 0;
        for (int row = 0; row < rows.rowCount; row++) {
            if (rows.versionSeen(row, mine) != rows.versionSeen(row, theirs)) {
                bits |= 1 << row;
            }
        }
        return answer(bits);
    }

    public int fresh(int row) {
        return rows.isRow(row) ? answer(rows.valueSeen(row, rows.countingFresh())) : refuse(NONE_SUCH);
    }

    public int freshSum() {
        return hasStore() ? answer(rows.sumSeen(rows.countingFresh())) : refuse(NONE_SUCH);
    }

    public int asOf(int stamp, int row) {
        if (!rows.isRow(row)) {
            return refuse(NONE_SUCH);
        }
        if (!rows.isStamp(stamp)) {
            return refuse(BAD_NUMBER);
        }
        return answer(rows.valueSeen(row, rows.countingAsOf(stamp)));
    }

    public int changed(int stamp, int other) {
        int why = stampsTrouble(stamp, other);
        if (why != NO_TROUBLE) {
            return refuse(why);
        }
        long before = rows.countingAsOf(stamp);
        long behind = rows.countingAsOf(other);
        int bits = 0;
        for (int row = 0; row < rows.rowCount; row++) {
            if (rows.valueSeen(row, before) != rows.valueSeen(row, behind)) {
                bits |= 1 << row;
            }
        }
        return answer(bits);
    }

    // ---- who may put

    public int may(int w, int row) {
        if (!rows.runs(w) || !rows.isRow(row)) {
            return refuse(NONE_SUCH);
        }
        return answer(rows.verdict(w, row));
    }

    public int waitsFor(int w, int row) {
        if (!rows.runs(w) || !rows.isRow(row)) {
            return refuse(NONE_SUCH);
        }
        return answer(rows.holder(w, row));
    }

    public int open(int w) {
        return rows.runs(w) ? answer(rows.rowsWithVerdict(w, FREE)) : refuse(NONE_SUCH);
    }

    public int loses(int w) {
        return rows.runs(w) ? answer(rows.rowsWithVerdict(w, LOST_BY_IT)) : refuse(NONE_SUCH);
    }

    // ---- unsure ends

    public int fits() {
        return hasStore() ? answer(evidence.fitCount) : refuse(NONE_SUCH);
    }

    public int fitAt(int i) {
        int set = evidence.fitNumber(i);
        return set == NOTHING ? refuse(NONE_SUCH) : answer(set);
    }

    public int could() {
        return hasStore() ? answer(evidence.inSomeFit()) : refuse(NONE_SUCH);
    }

    public int surely() {
        return hasStore() ? answer(evidence.inEveryFit()) : refuse(NONE_SUCH);
    }

    public int ask() {
        return hasStore() ? answer(evidence.bestToAsk()) : refuse(NONE_SUCH);
    }

    public int askLeaves() {
        if (!hasStore()) {
            return refuse(NONE_SUCH);
        }
        int best = evidence.bestToAsk();
        return answer(best == NOTHING ? NOTHING : evidence.leftAtMost(best));
    }

    public int judge() {
        return hasStore() ? answer(evidence.firstWrong) : refuse(NONE_SUCH);
    }

    // ---- wait or yield

    public int waits(int cost, boolean one, boolean other, boolean ofOther) {
        int why = costTrouble(cost);
        if (why != NO_TROUBLE) {
            refuse(why);
            return -100;
        }
        return answer(ofOther ? Game.payoff(cost, other, one) : Game.payoff(cost, one, other));
    }

    public int rests(int cost) {
        int why = costTrouble(cost);
        return why != NO_TROUBLE ? refuse(why) : answer(Game.countRests(cost));
    }

    public int rest(int cost) {
        int why = costTrouble(cost);
        return why != NO_TROUBLE ? refuse(why) : answer(Game.firstRest(cost));
    }

    // ---- crashes

    public long odds(int row, int value, boolean lower) {
        if (!rows.isRow(row)) {
            return refuse(NONE_SUCH);
        }
        if (!isValue(value)) {
            return refuse(BAD_NUMBER);
        }
        troubleNumber = NO_TROUBLE;
        return Crash.inLowestTerms(Crash.weightOfValue(rows, row, value), Crash.wholeWeight(rows), lower);
    }

    public long mean(boolean lower) {
        if (!hasStore()) {
            return refuse(NONE_SUCH);
        }
        troubleNumber = NO_TROUBLE;
        return Crash.inLowestTerms(Crash.weightedSum(rows), Crash.wholeWeight(rows), lower);
    }

    public int drawn(int seed) {
        if (!hasStore()) {
            return refuse(NONE_SUCH);
        }
        if (seed < 0 || seed > MOST_SEED) {
            return refuse(BAD_NUMBER);
        }
        return answer(rows.sumSeen(Crash.countingByDraws(rows, seed)));
    }

    // ---- acts

    public int begin() {
        if (!hasStore()) {
            return refuse(NONE_SUCH);
        }
        if (!rows.canBegin()) {
            return refuse(NO_ROOM);
        }
        history.keep(rows);
        return answer(rows.beginWriter());
    }

    public int put(int w, int row, int value) {
        if (!rows.runs(w) || !rows.isRow(row)) {
            return refuse(NONE_SUCH);
        }
        if (!isValue(value)) {
            return refuse(BAD_NUMBER);
        }
        int why = rows.putTrouble(w, row);
        if (why != NO_TROUBLE) {
            return refuse(why);
        }
        history.keep(rows);
        return answer(rows.putValue(w, row, value));
    }

    public int drop(int w, int row) {
        if (!rows.runs(w) || !rows.isRow(row)) {
            return refuse(NONE_SUCH);
        }
        int why = rows.dropTrouble(w, row);
        if (why != NO_TROUBLE) {
            return refuse(why);
        }
        history.keep(rows);
        return answer(rows.dropValue(w, row));
    }

    public int done(int w) {
        if (!rows.runs(w)) {
            return refuse(NONE_SUCH);
        }
        if (rows.hasLost(w)) {
            return refuse(NOT_SO);
        }
        history.keep(rows);
        return answer(rows.endWriter(w, true));
    }

    public int gone(int w) {
        if (!rows.runs(w)) {
            return refuse(NONE_SUCH);
        }
        history.keep(rows);
        return answer(rows.endWriter(w, false));
    }

    public int clear() {
        if (!hasStore()) {
            return refuse(NONE_SUCH);
        }
        if (rows.countDeadWithout(NOTHING) == 0) {
            return refuse(THERE_IS_NONE);
        }
        history.keep(rows);
        return answer(rows.clearDead());
    }

    public int freeze() {
        if (!hasStore()) {
            return refuse(NONE_SUCH);
        }
        if (rows.countFreezing() == 0) {
            return refuse(THERE_IS_NONE);
        }
        history.keep(rows);
        return answer(rows.freezeAll());
    }

    public boolean undo() {
        boolean could = history.takeBack(rows);
        troubleNumber = could ? NO_TROUBLE : THERE_IS_NONE;
        return could;
    }

    public int image() {
        if (!hasStore()) {
            return refuse(NONE_SUCH);
        }
        int number = history.takeImage(rows);
        return number == NOTHING ? refuse(NO_ROOM) : answer(number);
    }

    public boolean back(int image) {
        boolean could = history.returnTo(image, rows);
        troubleNumber = could ? NO_TROUBLE : NONE_SUCH;
        return could;
    }

    // ---- what is told

    public int led(int i) throws NoSuchElementException {
        int row = rows.emptyRow(i);
        if (row == NOTHING) {
            throw new NoSuchElementException();
        }
        return row;
    }

    public int size(int what) {
        switch (what) {
            case 0:
                return rows.ring;
            case 1:
                return rows.rowCount;
            case 2:
                return rows.crash;
            case 3:
                return rows.count;
            case 4:
                return Integer.bitCount(rows.runningSlots());
            case 5:
                return evidence.unsureCount;
            case 6:
                return evidence.seenCount;
            case 7:
                return history.actCount;
            case 8:
                return history.imageCount;
            case 9:
                return reader.tape.size;
            default:
                return NONE;
        }
    }

    public int trouble() {
        return troubleNumber;
    }

    // ---- what the calls share

    private boolean hasStore() {
        return rows.ring != 0;
    }

    private int answer(int what) {
        troubleNumber = NO_TROUBLE;
        return what;
    }

    private int refuse(int why) {
        troubleNumber = why;
        return NONE;
    }

    private int stampTrouble(int stamp) {
        if (!hasStore()) {
            return NONE_SUCH;
        }
        return rows.isStamp(stamp) ? NO_TROUBLE : BAD_NUMBER;
    }

    private int stampsTrouble(int stamp, int other) {
        int why = stampTrouble(stamp);
        return why != NO_TROUBLE ? why : stampTrouble(other);
    }

    private int costTrouble(int cost) {
        if (!hasStore()) {
            return NONE_SUCH;
        }
        return cost >= 0 && cost <= MOST_COST ? NO_TROUBLE : BAD_NUMBER;
    }

    private static boolean isValue(int value) {
        return value >= 0 && value <= MOST_VALUE;
    }

    private static int oneIf(boolean so) {
        return so ? 1 : 0;
    }

    /** Everything that ACTS change, and the ring that it stands on; without a STORE the ring is 0. */
    private static final class Rows {
        int ring;
        int rowCount;
        int crash;
        int nextStamp;
        int count;
        private int lostSlots;
        /** How the latest WRITER who had a STAMP stands: it is in one of these sets, or in none if nobody had it. */
        private long runningStamps;
        private long doneStamps;
        private long goneStamps;
        private final int[] stamps = new int[SLOTS];
        /** Each WRITER's SNAPSHOT and his own STAMP: that by which he holds the HORIZON; none for a free SLOT. */
        private final long[] held = new long[SLOTS];
        private final int[] rowsOf = new int[VERSIONS];
        private final int[] values = new int[VERSIONS];
        private final int[] froms = new int[VERSIONS];
        private final int[] tills = new int[VERSIONS];
        /** The first `count` are numbers of VERSIONS in the order in which they were made: all CHAINS in one. */
        private final int[] made = new int[VERSIONS];

        Rows() {
            Arrays.fill(stamps, NOTHING);
            Arrays.fill(rowsOf, NOTHING);
        }

        void startAnew(int newRing, int newRowCount, int start, int newCrash) {
            ring = newRing;
            rowCount = newRowCount;
            crash = newCrash;
            nextStamp = start;
            count = 0;
            lostSlots = 0;
            runningStamps = 0L;
            doneStamps = 0L;
            goneStamps = 0L;
            Arrays.fill(stamps, NOTHING);
            Arrays.fill(held, 0L);
            Arrays.fill(rowsOf, NOTHING);
        }

        void takeOver(Rows other) {
            ring = other.ring;
            rowCount = other.rowCount;
            crash = other.crash;
            nextStamp = other.nextStamp;
            count = other.count;
            lostSlots = other.lostSlots;
            runningStamps = other.runningStamps;
            doneStamps = other.doneStamps;
            goneStamps = other.goneStamps;
            System.arraycopy(other.stamps, 0, stamps, 0, SLOTS);
            System.arraycopy(other.held, 0, held, 0, SLOTS);
            System.arraycopy(other.rowsOf, 0, rowsOf, 0, VERSIONS);
            System.arraycopy(other.values, 0, values, 0, VERSIONS);
            System.arraycopy(other.froms, 0, froms, 0, VERSIONS);
            System.arraycopy(other.tills, 0, tills, 0, VERSIONS);
            System.arraycopy(other.made, 0, made, 0, VERSIONS);
        }

        boolean isStamp(int stamp) {
            return stamp >= 0 && stamp < ring;
        }

        boolean isRow(int row) {
            return row >= 0 && row < rowCount;
        }

        boolean isVersion(int v) {
            return v >= 0 && v < VERSIONS && rowsOf[v] != NOTHING;
        }

        boolean runs(int w) {
            return w >= 0 && w < SLOTS && stamps[w] != NOTHING;
        }

        // stamps

        static long bitOf(int stamp) {
            return stamp < 0 ? 0L : 1L << stamp;
        }

        static boolean holds(long set, int stamp) {
            return stamp >= 0 && (set >>> stamp & 1L) != 0L;
        }

        int ageOf(int stamp) {
            return stamp <= nextStamp ? nextStamp - stamp : nextStamp - stamp + ring;
        }

        /** All STAMPS that are OLDER than one: half the ring behind it. */
        long olderThan(int moment) {
            long set = 0L;
            int stamp = moment;
            for (int steps = 1; steps <= ring / 2; steps++) {
                stamp = stamp > 0 ? stamp - 1 : ring - 1;
                set |= 1L << stamp;
            }
            return set;
        }

        int greatestAge(long set) {
            int greatest = NOTHING;
            for (int stamp = 0; stamp < ring; stamp++) {
                if (holds(set, stamp)) {
                    greatest = Math.max(greatest, ageOf(stamp));
                }
            }
            return greatest;
        }

        private long heldWithout(int w) {
            long set = 0L;
            for (int other = 0; other < SLOTS; other++) {
                if (other != w) {
                    set |= held[other];
                }
            }
            return set;
        }

        /** The HORIZON as it were without a WRITER; as it is, without NOTHING. */
        int horizonWithout(int w) {
            long holding = heldWithout(w);
            int horizon = nextStamp;
            for (int stamp = 0; stamp < ring; stamp++) {
                if (holds(holding, stamp) && ageOf(stamp) > ageOf(horizon)) {
                    horizon = stamp;
                }
            }
            return horizon;
        }

        /** STAMPS of WRITERS DONE that are OLDER than the HORIZON as it were without a WRITER. */
        long settledWithout(int w) {
            return doneStamps & olderThan(horizonWithout(w));
        }

        long inUse() {
            long set = heldWithout(NOTHING);
            for (int v = 0; v < VERSIONS; v++) {
                if (isVersion(v)) {
                    set |= bitOf(froms[v]) | bitOf(tills[v]);
                }
            }
            return set;
        }

        /** What would be IN USE were all CLEARED and FROZEN. */
        long inUseWhenFrozen() {
            long settled = settledWithout(NOTHING);
            long set = 0L;
            for (int v = 0; v < VERSIONS; v++) {
                if (isVersion(v) && !isDead(v, goneStamps, settled)) {
                    set |= bitOf(froms[v]) & ~settled | bitOf(tills[v]) & ~goneStamps;
                }
            }
            return set | heldWithout(NOTHING);
        }

        int roomBeside(long used) {
            int age = greatestAge(used);
            if (age == NOTHING) {
                return NOTHING;
            }
            return firstFreeSlot() == NOTHING ? 0 : Math.max(0, ring / 2 - age);
        }

        // writers

        int stampOf(int w) {
            return runs(w) ? stamps[w] : NOTHING;
        }

        int snapshotLength(int w) {
            return runs(w) ? Long.bitCount(held[w]) - 1 : 0;
        }

        boolean hasLost(int w) {
            return runs(w) && (lostSlots >> w & 1) != 0;
        }

        int runningSlots() {
            int slots = 0;
            for (int w = 0; w < SLOTS; w++) {
                if (runs(w)) {
                    slots |= 1 << w;
                }
            }
            return slots;
        }

        private int firstFreeSlot() {
            for (int w = 0; w < SLOTS; w++) {
                if (stamps[w] == NOTHING) {
                    return w;
                }
            }
            return NOTHING;
        }

        private int slotOf(int stamp) {
            for (int w = 0; w < SLOTS; w++) {
                if (runs(w) && stamps[w] == stamp) {
                    return w;
                }
            }
            return NOTHING;
        }

        int slotHoldingBack() {
            int slot = NOTHING;
            int greatest = NOTHING;
            for (int w = 0; w < SLOTS; w++) {
                int age = greatestAge(held[w]);
                if (age > greatest) {
                    greatest = age;
                    slot = w;
                }
            }
            return slot;
        }

        int madeBy(int stamp) {
            int n = 0;
            for (int v = 0; v < VERSIONS; v++) {
                if (isVersion(v) && froms[v] == stamp) {
                    n++;
                }
            }
            return n;
        }

        int endedBy(int stamp) {
            int n = 0;
            for (int v = 0; v < VERSIONS; v++) {
                if (isVersion(v) && tills[v] == stamp) {
                    n++;
                }
            }
            return n;
        }

        // versions

        int rowOf(int v) {
            return isVersion(v) ? rowsOf[v] : NOTHING;
        }

        int valueOf(int v) {
            return isVersion(v) ? values[v] : NOTHING;
        }

        int fromOf(int v) {
            return isVersion(v) ? froms[v] : NOTHING;
        }

        int tillOf(int v) {
            return isVersion(v) ? tills[v] : NOTHING;
        }

        /** The i-th VERSION of all, in the order in which they were made. */
        private int madeAt(int i) {
            return i >= 0 && i < count && i < VERSIONS ? made[i] : NOTHING;
        }

        int chainLength(int row) {
            int n = 0;
            for (int v = 0; v < VERSIONS; v++) {
                if (rowOf(v) == row) {
                    n++;
                }
            }
            return n;
        }

        int versionInChain(int row, int i) {
            int n = 0;
            for (int k = 0; k < count; k++) {
                int v = madeAt(k);
                if (rowOf(v) != row) {
                    continue;
                }
                if (n == i) {
                    return v;
                }
                n++;
            }
            return NOTHING;
        }

        private boolean isDead(int v, long gone, long settled) {
            return holds(gone, fromOf(v)) || holds(settled, tillOf(v));
        }

        boolean isDeadNow(int v) {
            return isDead(v, goneStamps, settledWithout(NOTHING));
        }

        /** How many were DEAD if a WRITER were GONE; how many are, without NOTHING. */
        int countDeadWithout(int w) {
            long settled = settledWithout(w);
            long gone = goneStamps | bitOf(stampOf(w));
            int n = 0;
            for (int v = 0; v < VERSIONS; v++) {
                if (isVersion(v) && isDead(v, gone, settled)) {
                    n++;
                }
            }
            return n;
        }

        boolean wouldFreeze(int v) {
            return holds(settledWithout(NOTHING), fromOf(v));
        }

        int countFreezing() {
            long settled = settledWithout(NOTHING);
            int n = 0;
            for (int v = 0; v < VERSIONS; v++) {
                if (holds(settled, fromOf(v)) || holds(goneStamps, tillOf(v))) {
                    n++;
                }
            }
            return n;
        }

        // what is seen

        long countingFor(int w) {
            if (!runs(w)) {
                return 0L;
            }
            return 1L << stamps[w] | doneStamps & ~held[w] & olderThan(stamps[w]);
        }

        long countingFresh() {
            return doneStamps;
        }

        long countingAsOf(int moment) {
            return doneStamps & olderThan(moment);
        }

        boolean isSeen(int v, long counting) {
            if (!isVersion(v)) {
                return false;
            }
            boolean isThere = froms[v] == NOTHING || holds(counting, froms[v]);
            return isThere && !holds(counting, tills[v]);
        }

        int versionSeen(int row, long counting) {
            for (int k = count - 1; k >= 0; k--) {
                int v = madeAt(k);
                if (rowOf(v) == row && isSeen(v, counting)) {
                    return v;
                }
            }
            return NOTHING;
        }

        int valueSeen(int row, long counting) {
            return valueOf(versionSeen(row, counting));
        }

        int sumSeen(long counting) {
            int total = 0;
            int rowsFound = 0;
            for (int k = count - 1; k >= 0; k--) {
                int v = madeAt(k);
                if (isSeen(v, counting) && (rowsFound >> rowOf(v) & 1) == 0) {
                    rowsFound |= 1 << rowOf(v);
                    total += valueOf(v);
                }
            }
            return total;
        }

        /** The i-th ROW in which a FRESH reader SEES none. */
        int emptyRow(int i) {
            int n = 0;
            for (int row = 0; row < rowCount; row++) {
                if (versionSeen(row, doneStamps) != NOTHING) {
                    continue;
                }
                if (n == i) {
                    return row;
                }
                n++;
            }
            return NOTHING;
        }

        // who may put

        /** Of a ROW's VERSIONS whose FROM's WRITER isn't GONE the last one. */
        private int lastNotGone(int row) {
            for (int k = count - 1; k >= 0; k--) {
                int v = madeAt(k);
                if (rowOf(v) == row && !holds(goneStamps, fromOf(v))) {
                    return v;
                }
            }
            return NOTHING;
        }

        int verdict(int w, int row) {
            if (hasLost(w)) {
                return LOST_ALREADY;
            }
            long counting = countingFor(w);
            int v = versionSeen(row, counting);
            // who SEES a VERSION is stopped by its end, who SEES none by what was made and doesn't COUNT for him
            int stopper = v == NOTHING ? fromOf(lastNotGone(row)) : tillOf(v);
            if (holds(counting, stopper)) {
                return FREE;
            }
            if (holds(runningStamps, stopper)) {
                return HELD;
            }
            return holds(doneStamps, stopper) ? LOST_BY_IT : FREE;
        }

        /** The SLOT of the WRITER by whom another one is HELD; NOTHING if he isn't. */
        int holder(int w, int row) {
            if (verdict(w, row) != HELD) {
                return NOTHING;
            }
            int v = versionSeen(row, countingFor(w));
            return slotOf(v == NOTHING ? fromOf(lastNotGone(row)) : tillOf(v));
        }

        int rowsWithVerdict(int w, int verdict) {
            int bits = 0;
            for (int row = 0; row < rowCount; row++) {
                if (verdict(w, row) == verdict) {
                    bits |= 1 << row;
                }
            }
            return bits;
        }

        // acts

        boolean canBegin() {
            return firstFreeSlot() != NOTHING && greatestAge(inUse()) < ring / 2;
        }

        int beginWriter() {
            int w = firstFreeSlot();
            if (w == NOTHING) {
                return NOTHING;
            }
            long own = 1L << nextStamp;
            held[w] = runningStamps | own;
            stamps[w] = nextStamp;
            lostSlots &= ~(1 << w);
            runningStamps |= own;
            doneStamps &= ~own;
            goneStamps &= ~own;
            nextStamp = nextStamp + 1 < ring ? nextStamp + 1 : 0;
            return w;
        }

        private int firstFreeNumber() {
            for (int v = 0; v < VERSIONS; v++) {
                if (rowsOf[v] == NOTHING) {
                    return v;
                }
            }
            return NOTHING;
        }

        private int makeVersion(int row, int value, int from) {
            int v = firstFreeNumber();
            if (v == NOTHING || count >= VERSIONS) {
                return NOTHING;
            }
            rowsOf[v] = row;
            values[v] = value;
            froms[v] = from;
            tills[v] = NOTHING;
            made[count] = v;
            count++;
            return v;
        }

        private boolean isOwn(int w, int v) {
            return isVersion(v) && froms[v] == stampOf(w);
        }

        int putTrouble(int w, int row) {
            int verdict = verdict(w, row);
            if (verdict == HELD || verdict == LOST_ALREADY) {
                return NOT_SO;
            }
            if (verdict == LOST_BY_IT || firstFreeNumber() != NOTHING) {
                return NO_TROUBLE;
            }
            return isOwn(w, versionSeen(row, countingFor(w))) ? NO_TROUBLE : NO_ROOM;
        }

        /** PUT, if there is no TROUBLE: the VERSION that has the value, or NOTHING if he has LOST by it. */
        int putValue(int w, int row, int value) {
            if (verdict(w, row) != FREE) {
                lostSlots |= 1 << w;
                return NOTHING;
            }
            int v = versionSeen(row, countingFor(w));
            if (isOwn(w, v)) {
                values[v] = value;
                return v;
            }
            if (isVersion(v)) {
                tills[v] = stampOf(w);
            }
            return makeVersion(row, value, stampOf(w));
        }

        int dropTrouble(int w, int row) {
            int verdict = verdict(w, row);
            if (verdict == HELD || verdict == LOST_ALREADY) {
                return NOT_SO;
            }
            if (verdict == LOST_BY_IT) {
                return NO_TROUBLE;
            }
            return versionSeen(row, countingFor(w)) == NOTHING ? THERE_IS_NONE : NO_TROUBLE;
        }

        /** DROP, if there is no TROUBLE: the VERSION, or NOTHING if he has LOST by it. */
        int dropValue(int w, int row) {
            if (verdict(w, row) != FREE) {
                lostSlots |= 1 << w;
                return NOTHING;
            }
            int v = versionSeen(row, countingFor(w));
            if (isVersion(v)) {
                tills[v] = stampOf(w);
            }
            return v;
        }

        /** DONE or else GONE: his STAMP. */
        int endWriter(int w, boolean isDone) {
            if (!runs(w)) {
                return NOTHING;
            }
            int stamp = stamps[w];
            stamps[w] = NOTHING;
            held[w] = 0L;
            runningStamps &= ~(1L << stamp);
            if (isDone) {
                doneStamps |= 1L << stamp;
            } else {
                goneStamps |= 1L << stamp;
            }
            return stamp;
        }

        int clearDead() {
            long settled = settledWithout(NOTHING);
            int all = count;
            int kept = 0;
            for (int k = 0; k < all; k++) {
                int v = madeAt(k);
                if (!isVersion(v)) {
                    continue;
                }
                if (isDead(v, goneStamps, settled)) {
                    rowsOf[v] = NOTHING;
                } else {
                    made[kept] = v;
                    kept++;
                }
            }
            count = kept;
            return all - kept;
        }

        int freezeAll() {
            long settled = settledWithout(NOTHING);
            int changes = 0;
            for (int v = 0; v < VERSIONS; v++) {
                boolean freezes = holds(settled, fromOf(v));
                boolean losesTill = holds(goneStamps, tillOf(v));
                if (freezes) {
                    froms[v] = NOTHING;
                }
                if (losesTill) {
                    tills[v] = NOTHING;
                }
                changes += freezes || losesTill ? 1 : 0;
            }
            return changes;
        }
    }

    /** Whose end isn't sure and what was seen, weighed once, as VERSIONS lay behind all LINES. */
    private static final class Evidence {
        int unsureCount;
        int seenCount;
        int fitCount;
        int firstWrong = NOTHING;
        /** For each unsure WRITER the STAMP that COUNTS or not, the other way round, if his end was the other one. */
        private final long[] flips = new long[MOST_UNSURE];
        private final int[] seenRows = new int[MOST_ROWS];
        private final int[] seenValues = new int[MOST_ROWS];
        /** The first `fitCount` are the FITS, as bits of unsure WRITERS, in rising order. */
        private final int[] fitSets = new int[1 << MOST_UNSURE];

        void startAnew() {
            unsureCount = 0;
            seenCount = 0;
        }

        void takeOver(Evidence other) {
            unsureCount = other.unsureCount;
            seenCount = other.seenCount;
            System.arraycopy(other.flips, 0, flips, 0, MOST_UNSURE);
            System.arraycopy(other.seenRows, 0, seenRows, 0, MOST_ROWS);
            System.arraycopy(other.seenValues, 0, seenValues, 0, MOST_ROWS);
        }

        void addUnsure(long flip) {
            if (unsureCount < MOST_UNSURE) {
                flips[unsureCount] = flip;
                unsureCount++;
            }
        }

        void addSeen(int row, int value) {
            if (seenCount < MOST_ROWS) {
                seenRows[seenCount] = row;
                seenValues[seenCount] = value;
                seenCount++;
            }
        }

        boolean isRowSeen(int row) {
            for (int i = 0; i < seenCount && i < MOST_ROWS; i++) {
                if (seenRows[i] == row) {
                    return true;
                }
            }
            return false;
        }

        void weigh(Rows rows) {
            long asTold = rows.countingFresh();
            firstWrong = firstNotSo(rows, asTold);
            fitCount = 0;
            for (int set = 0; set < 1 << unsureCount && fitCount < fitSets.length; set++) {
                if (firstNotSo(rows, asTold ^ flipsOf(set)) == NOTHING) {
                    fitSets[fitCount] = set;
                    fitCount++;
                }
            }
        }

        private long flipsOf(int set) {
            long flipped = 0L;
            for (int u = 0; u < MOST_UNSURE; u++) {
                if ((set >> u & 1) != 0) {
                    flipped ^= flips[u];
                }
            }
            return flipped;
        }

        private int firstNotSo(Rows rows, long counting) {
            for (int i = 0; i < seenCount && i < MOST_ROWS; i++) {
                if (rows.valueSeen(seenRows[i], counting) != seenValues[i]) {
                    return i;
                }
            }
            return NOTHING;
        }

        int fitNumber(int i) {
            return i >= 0 && i < fitCount && i < fitSets.length ? fitSets[i] : NOTHING;
        }

        int inSomeFit() {
            int some = 0;
            for (int i = 0; i < fitCount; i++) {
                some |= fitNumber(i);
            }
            return some;
        }

        int inEveryFit() {
            int every = fitCount == 0 ? 0 : fitNumber(0);
            for (int i = 1; i < fitCount; i++) {
                every &= fitNumber(i);
            }
            return every;
        }

        /** How many FITS are left at most once it is told how an unsure WRITER ended. */
        int leftAtMost(int u) {
            int with = 0;
            for (int i = 0; i < fitCount; i++) {
                with += fitNumber(i) >> u & 1;
            }
            return Math.max(with, fitCount - with);
        }

        int bestToAsk() {
            if (fitCount == 0 || unsureCount == 0) {
                return NOTHING;
            }
            int best = 0;
            for (int u = 1; u < unsureCount; u++) {
                if (leftAtMost(u) < leftAtMost(best)) {
                    best = u;
                }
            }
            return best;
        }
    }

    /** What can be undone, and the IMAGES. */
    private static final class History {
        int actCount;
        int imageCount;
        private int newest;
        /** A ring of its own: `newest` is how things were ahead of the latest ACT. */
        private final Rows[] before = new Rows[KEPT_ACTS];
        private final Rows[] images = new Rows[KEPT_IMAGES];

        History() {
            for (int i = 0; i < KEPT_ACTS; i++) {
                before[i] = new Rows();
            }
            for (int i = 0; i < KEPT_IMAGES; i++) {
                images[i] = new Rows();
            }
        }

        void forgetAll() {
            actCount = 0;
            imageCount = 0;
        }

        void keep(Rows rows) {
            newest = newest + 1 < KEPT_ACTS ? newest + 1 : 0;
            before[newest].takeOver(rows);
            actCount = Math.min(KEPT_ACTS, actCount + 1);
        }

        boolean takeBack(Rows rows) {
            if (actCount == 0) {
                return false;
            }
            rows.takeOver(before[newest]);
            newest = newest > 0 ? newest - 1 : KEPT_ACTS - 1;
            actCount--;
            return true;
        }

        int takeImage(Rows rows) {
            if (imageCount >= KEPT_IMAGES) {
                return NOTHING;
            }
            images[imageCount].takeOver(rows);
            imageCount++;
            return imageCount - 1;
        }

        boolean returnTo(int image, Rows rows) {
            if (image < 0 || image >= imageCount || image >= KEPT_IMAGES) {
                return false;
            }
            rows.takeOver(images[image]);
            actCount = 0;
            return true;
        }
    }

    /** WRITERS that crash, by chance and by draws. */
    private static final class Crash {
        private static final int MULTIPLIER = 75;
        private static final int INCREMENT = 74;
        private static final int MODULUS = 65537;

        /** Bits of the SLOTS whose end is left to chance: who has LOST is GONE anyway. */
        private static int uncertain(Rows rows) {
            int slots = 0;
            for (int w = 0; w < SLOTS; w++) {
                if (rows.runs(w) && !rows.hasLost(w)) {
                    slots |= 1 << w;
                }
            }
            return slots;
        }

        static long wholeWeight(Rows rows) {
            int slots = uncertain(rows);
            long weight = 1L;
            for (int w = 0; w < SLOTS; w++) {
                if ((slots >> w & 1) != 0) {
                    weight *= HUNDRED;
                }
            }
            return weight;
        }

        /** How many of the whole weight fall on just those of the uncertain being DONE, the others GONE. */
        private static long weightOf(Rows rows, int uncertain, int ending) {
            long weight = 1L;
            for (int w = 0; w < SLOTS; w++) {
                if ((uncertain >> w & 1) != 0) {
                    weight *= (ending >> w & 1) != 0 ? HUNDRED - rows.crash : rows.crash;
                }
            }
            return weight;
        }

        private static long stampsOf(Rows rows, int slots) {
            long set = 0L;
            for (int w = 0; w < SLOTS; w++) {
                if ((slots >> w & 1) != 0) {
                    set |= Rows.bitOf(rows.stampOf(w));
                }
            }
            return set;
        }

        static long weightOfValue(Rows rows, int row, int value) {
            int uncertain = uncertain(rows);
            long fresh = rows.countingFresh();
            long total = 0L;
            for (int ending = 0; ending < 1 << SLOTS; ending++) {
                if ((ending & ~uncertain) == 0
                    && rows.valueSeen(row, fresh | stampsOf(rows, ending)) == value) {
                    total += weightOf(rows, uncertain, ending);
                }
            }
            return total;
        }

        static long weightedSum(Rows rows) {
            int uncertain = uncertain(rows);
            long fresh = rows.countingFresh();
            long total = 0L;
            for (int ending = 0; ending < 1 << SLOTS; ending++) {
                if ((ending & ~uncertain) == 0) {
                    total += weightOf(rows, uncertain, ending) * rows.sumSeen(fresh | stampsOf(rows, ending));
                }
            }
            return total;
        }

        static long countingByDraws(Rows rows, int seed) {
            long counting = rows.countingFresh();
            int drawnSeed = seed;
            for (int w = 0; w < SLOTS; w++) {
                if (!rows.runs(w)) {
                    continue;
                }
                drawnSeed = (MULTIPLIER * drawnSeed + INCREMENT) % MODULUS;
                if (drawnSeed % HUNDRED >= rows.crash && !rows.hasLost(w)) {
                    counting |= Rows.bitOf(rows.stampOf(w));
                }
            }
            return counting;
        }

        static long inLowestTerms(long upper, long lower, boolean ofLower) {
            long divisor = commonDivisor(upper, lower);
            long asked = ofLower ? lower : upper;
            return divisor > 0L ? asked / divisor : asked;
        }

        private static long commonDivisor(long one, long other) {
            long a = one;
            long b = other;
            // Euclid halves a long in every two steps, so this bound is never what ends it
            for (int steps = 0; steps < 200 && b != 0L; steps++) {
                long rest = a % b;
                a = b;
                b = rest;
            }
            return a;
        }
    }

    /** ONE and OTHER, who each wait or yield. */
    private static final class Game {
        private static final int WAITS_ALONE = 4;
        private static final int YIELDS_ALONE = 1;
        private static final int BOTH_YIELD = 2;
        private static final int PAIRS = 4;

        /** What one has who waits or not, as the other one does. */
        static int payoff(int cost, boolean waits, boolean otherWaits) {
            if (waits) {
                return otherWaits ? -cost : WAITS_ALONE;
            }
            return otherWaits ? YIELDS_ALONE : BOTH_YIELD;
        }

        /** Pairs come in the order in which RESTS are told: yielding ahead, the one's first. */
        private static boolean oneWaits(int pair) {
            return pair >= 2;
        }

        private static boolean otherWaits(int pair) {
            return (pair & 1) != 0;
        }

        private static boolean isRest(int cost, int pair) {
            boolean one = oneWaits(pair);
            boolean other = otherWaits(pair);
            return payoff(cost, !one, other) <= payoff(cost, one, other)
                && payoff(cost, !other, one) <= payoff(cost, other, one);
        }

        static int countRests(int cost) {
            int n = 0;
            for (int pair = 0; pair < PAIRS; pair++) {
                if (isRest(cost, pair)) {
                    n++;
                }
            }
            return n;
        }

        static int firstRest(int cost) {
            for (int pair = 0; pair < PAIRS; pair++) {
                if (isRest(cost, pair)) {
                    return (oneWaits(pair) ? 10 : 0) + (otherWaits(pair) ? 1 : 0);
                }
            }
            return NOTHING;
        }
    }

    /** The WORDS that can't be NAMES. */
    private enum Word {
        STORE("store"),
        BEGIN("begin"),
        PUT("put"),
        DROP("drop"),
        DONE("done"),
        GONE("gone"),
        CLEAR("clear"),
        FREEZE("freeze"),
        UNSURE("unsure"),
        SEEN("seen"),
        NONE("none");

        final String text;

        Word(String text) {
            this.text = text;
        }
    }

    /** THE TAPE, and the TOKENS of its first bytes, from left to right. */
    private static final class Tape {
        static final int END = 0;
        static final int WORD = 1;
        static final int WHOLE = 2;
        static final int SEMICOLON = 3;
        static final int BAD = 4;
        private static final int LONGEST_WORD = 8;
        private static final int LONGEST_WHOLE = 3;

        int size;
        int kind;
        int start;
        /** A WORD's letters, five bits each, or what a WHOLE counts. */
        long value;
        private int after;
        /** How many bytes the text has that is read. */
        private int length;
        private final byte[] bytes = new byte[MOST_BYTES];

        void addFour(int four) {
            for (int shift = 24; shift >= 0 && size < MOST_BYTES; shift -= 8) {
                bytes[size] = (byte) (four >>> shift);
                size++;
            }
        }

        /** From now on THE TAPE is empty, and its first bytes are the text. */
        void startText(int n) {
            length = Math.min(n, size);
            size = 0;
            after = 0;
            advance();
        }

        void advance() {
            start = after;
            while (start < length && bytes[start] == ' ') {
                start++;
            }
            after = start;
            if (start >= length) {
                kind = END;
                return;
            }
            int first = bytes[start];
            if (first == ';') {
                kind = SEMICOLON;
                after = start + 1;
            } else if (first >= 'a' && first <= 'z') {
                scanWord();
            } else if (first >= '0' && first <= '9') {
                scanWhole();
            } else {
                kind = BAD;
            }
        }

        private void scanWord() {
            value = 0L;
            while (after < length && bytes[after] >= 'a' && bytes[after] <= 'z') {
                value = value * 32 + (bytes[after] - 'a' + 1);
                after++;
            }
            kind = after - start <= LONGEST_WORD ? WORD : BAD;
        }

        private void scanWhole() {
            value = 0L;
            while (after < length && bytes[after] >= '0' && bytes[after] <= '9') {
                value = value * 10 + (bytes[after] - '0');
                after++;
            }
            kind = after - start <= LONGEST_WHOLE ? WHOLE : BAD;
        }

        boolean isText(String text) {
            if (kind != WORD || text.length() != after - start) {
                return false;
            }
            for (int i = 0; i < text.length() && start + i < length; i++) {
                if (text.charAt(i) != bytes[start + i]) {
                    return false;
                }
            }
            return true;
        }

        /** Which of the WORDS that can't be NAMES the TOKEN is; null if none. */
        Word reserved() {
            for (int i = 0; i < WORDS.length; i++) {
                if (isText(WORDS[i].text)) {
                    return WORDS[i];
                }
            }
            return null;
        }
    }

    /** Makes a STORE of a text, or tells its FAULT. */
    private static final class Reader {
        int fault;
        int place;
        final Rows rows = new Rows();
        final Evidence evidence = new Evidence();
        final Tape tape = new Tape();
        private int nameCount;
        private final long[] names = new long[MOST_NAMES];
        private final int[] nameStamps = new int[MOST_NAMES];
        /** The SLOTS of those who run; NOTHING of those who have ended. */
        private final int[] nameSlots = new int[MOST_NAMES];
        /** Numbers of the NAMES of unsure WRITERS, as told. */
        private final int[] unsureNames = new int[MOST_UNSURE];
        private int unsureCount;
        /** What the LINE tells: its first WORD, and the latest NAME, ROW and WHOLE. */
        private Word head;
        private int name;
        private int row;
        private int whole;

        boolean readStore(int n) {
            fault = NO_FAULT;
            place = NOTHING;
            nameCount = 0;
            unsureCount = 0;
            rows.startAnew(0, 0, 0, 0);
            evidence.startAnew();
            tape.startText(n);
            // a LINE takes a byte at least, so no text has more of them than bytes
            for (int lines = 0; lines <= n; lines++) {
                if (!readLine()) {
                    return false;
                }
                if (!doAct()) {
                    return fail(REFUSED);
                }
                if (tape.kind == Tape.END) {
                    tellUnsure();
                    return true;
                }
                tape.advance();
            }
            return fail(FORM);
        }

        private boolean fail(int number) {
            fault = number;
            place = tape.start;
            return false;
        }

        private boolean isStored() {
            return rows.ring != 0;
        }

        private void tellUnsure() {
            for (int u = 0; u < unsureCount && u < MOST_UNSURE; u++) {
                evidence.addUnsure(flipOf(unsureNames[u]));
            }
        }

        /** One whose STAMP another WRITER has had since changes nothing. */
        private long flipOf(int who) {
            int stamp = stampNamed(who);
            for (int later = who + 1; later < nameCount; later++) {
                if (stampNamed(later) == stamp) {
                    return 0L;
                }
            }
            return Rows.bitOf(stamp);
        }

        private int stampNamed(int who) {
            return who >= 0 && who < MOST_NAMES ? nameStamps[who] : NOTHING;
        }

        private int slotNamed(int who) {
            return who >= 0 && who < MOST_NAMES ? nameSlots[who] : NOTHING;
        }

        // the LINES

        /** Reads a LINE up to the TOKEN behind it; what it tells of itself, but for its ACT, stands then. */
        private boolean readLine() {
            head = tape.reserved();
            if (head == null || head == Word.NONE) {
                return fail(FORM);
            }
            if (head == Word.STORE) {
                return isStored() ? fail(AGAIN) : readHead();
            }
            if (!isStored()) {
                return fail(LACKS);
            }
            switch (head) {
                case BEGIN:
                    return readBegin();
                case PUT:
                    return takeRunning() && takeRow() && takeWhole(0, MOST_VALUE) && takeLineEnd();
                case DROP:
                    return takeRunning() && takeRow() && takeLineEnd();
                case DONE:
                case GONE:
                    return takeRunning() && takeLineEnd();
                case UNSURE:
                    return readUnsure();
                case SEEN:
                    return readSeen();
                default:
                    return takeLineEnd();
            }
        }

        private boolean readHead() {
            if (!takeText("ring") || !takeWhole(8, MOST_RING)) {
                return false;
            }
            int ring = whole;
            if (ring % 2 != 0) {
                return fail(OUT_OF_BOUNDS);
            }
            if (!takeText("rows") || !takeWhole(1, MOST_ROWS)) {
                return false;
            }
            int rowCount = whole;
            if (!takeText("start") || !takeWhole(0, ring - 1)) {
                return false;
            }
            int start = whole;
            if (!takeText("crash") || !takeWhole(0, HUNDRED) || !takeLineEnd()) {
                return false;
            }
            rows.startAnew(ring, rowCount, start, whole);
            return true;
        }

        private boolean readBegin() {
            if (nameCount >= MOST_NAMES) {
                return fail(MANY);
            }
            if (!takeName()) {
                return false;
            }
            if (name != NOTHING) {
                return fail(AGAIN);
            }
            names[nameCount] = tape.value;
            return takeLineEnd();
        }

        private boolean readUnsure() {
            if (unsureCount >= MOST_UNSURE) {
                return fail(MANY);
            }
            if (!takeName()) {
                return false;
            }
            if (name == NOTHING) {
                return fail(UNTOLD);
            }
            if (isUnsure(name)) {
                return fail(AGAIN);
            }
            if (slotNamed(name) != NOTHING) {
                return fail(ENDED);
            }
            unsureNames[unsureCount] = name;
            unsureCount++;
            return takeLineEnd();
        }

        private boolean isUnsure(int who) {
            for (int u = 0; u < unsureCount && u < MOST_UNSURE; u++) {
                if (unsureNames[u] == who) {
                    return true;
                }
            }
            return false;
        }

        private boolean readSeen() {
            if (!takeRow()) {
                return false;
            }
            if (evidence.isRowSeen(row)) {
                return fail(AGAIN);
            }
            tape.advance();
            if (tape.reserved() == Word.NONE) {
                evidence.addSeen(row, NOTHING);
            } else if (tape.kind == Tape.WHOLE) {
                evidence.addSeen(row, (int) tape.value);
            } else {
                return fail(FORM);
            }
            return takeLineEnd();
        }

        // the parts of a LINE

        private boolean takeText(String text) {
            tape.advance();
            return tape.isText(text) || fail(FORM);
        }

        private boolean takeWhole(int least, int most) {
            tape.advance();
            if (tape.kind != Tape.WHOLE) {
                return fail(FORM);
            }
            if (tape.value < least || tape.value > most) {
                return fail(OUT_OF_BOUNDS);
            }
            whole = (int) tape.value;
            return true;
        }

        private boolean takeRow() {
            boolean isGood = takeWhole(0, rows.rowCount - 1);
            row = whole;
            return isGood;
        }

        /** A NAME: its number, or NOTHING if it isn't told yet. */
        private boolean takeName() {
            tape.advance();
            if (tape.kind != Tape.WORD || tape.reserved() != null) {
                return fail(FORM);
            }
            name = NOTHING;
            for (int i = 0; i < nameCount && i < MOST_NAMES; i++) {
                if (names[i] == tape.value) {
                    name = i;
                }
            }
            return true;
        }

        private boolean takeRunning() {
            if (!takeName()) {
                return false;
            }
            if (name == NOTHING) {
                return fail(UNTOLD);
            }
            return slotNamed(name) != NOTHING || fail(ENDED);
        }

        private boolean takeLineEnd() {
            tape.advance();
            return tape.kind == Tape.SEMICOLON || tape.kind == Tape.END || fail(FORM);
        }

        // the ACTS

        /** Does what the LINE tells, if it is an ACT; false if it is refused, or its WRITER has LOST by it. */
        private boolean doAct() {
            if (head == null) {
                return false;
            }
            int slot = slotNamed(name);
            switch (head) {
                case BEGIN:
                    return rows.canBegin() && addWriter();
                case PUT:
                    return rows.putTrouble(slot, row) == NO_TROUBLE && rows.putValue(slot, row, whole) != NOTHING;
                case DROP:
                    return rows.dropTrouble(slot, row) == NO_TROUBLE && rows.dropValue(slot, row) != NOTHING;
                case DONE:
                case GONE:
                    return endNamed(head == Word.DONE);
                case CLEAR:
                    return rows.clearDead() > 0;
                case FREEZE:
                    return rows.freezeAll() > 0;
                default:
                    return true;
            }
        }

        private boolean addWriter() {
            if (nameCount >= MOST_NAMES) {
                return false;
            }
            nameStamps[nameCount] = rows.nextStamp;
            nameSlots[nameCount] = rows.beginWriter();
            nameCount++;
            return true;
        }

        private boolean endNamed(boolean isDone) {
            if (name < 0 || name >= MOST_NAMES) {
                return false;
            }
            rows.endWriter(nameSlots[name], isDone);
            nameSlots[name] = NOTHING;
            return true;
        }
    }
}
