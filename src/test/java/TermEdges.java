/** Sentences of Terms II to IV, of the constants and of an object's use. */
final class TermEdges {
    private static final String HEAD = "store ring 8 rows 3 start 0 crash 0";
    private static final String WIDE = "store ring 64 rows 8 start 0 crash 0";

    /** b, SLOT 0, STAMP 1, has made 3 and 4, of the ROWS 0 and 2; 0 to 2 are free again. */
    static final String SPARSE = HEAD + ";begin a;put a 0 1;put a 1 1;put a 2 1;gone a;begin b;put b 0 7;put b 2 8;clear";
    /** r, SLOT 0, STAMP 0, holds a's two VERSIONS back, 0 ended by b; g, who is gone, made 2 and ended 1. */
    static final String HELD_BACK = HEAD + ";begin r;begin a;put a 0 1;put a 1 1;done a;begin b;drop b 0;done b;begin g;"
        + "put g 2 1;drop g 1;gone g";
    /** Six run, each of whom put in a ROW of his own: 1, 2, 4, 8, 16, 32. */
    static final String SIX = "begin a;begin b;begin c;begin d;begin e;begin f;put a 0 1;put b 1 2;put c 2 4;put d 3 8;"
        + "put e 4 16;put f 5 32";

    private TermEdges() {
    }

    static void run() {
        use();
        stamps();
        ages();
        writersBegin();
        versions();
        counting();
        seeing();
        inUse();
        horizon();
        dead();
        begin();
        put();
        held();
        lost();
        ends();
        clear();
        freeze();
        undo();
        fits();
        ask();
        crash();
        game();
        trouble();
    }

    /** So many begin and are done at once. */
    static void pass(StampedRows x, int writers) {
        for (int i = 0; i < writers; i++) {
            int w = x.begin();
            Edge.isTrue("one more begins", w >= 0);
            Edge.isTrue("and is done", x.done(w) >= 0);
        }
    }

    private static void use() {
        Edge.says(Document.USE, "for at most 512 calls after it has been made");
        StampedRows x = new StampedRows();
        Check.store(x, HEAD + "     ");
        // three calls till now; then 254 begin and end, on a ring of 8
        pass(x, 254);
        Edge.same("call 512: next()", x.next(), 254 % 8);
    }

    // Terms II

    private static void stamps() {
        Edge.says("II", "STAMPS are 0 .. ring less 1, going round;");
        for (int ring : new int[] {8, 64}) {
            StampedRows x = Edge.stored("store ring " + ring + " rows 1 start " + (ring - 1) + " crash 0");
            Edge.answers(x, "age(0)", ring - 1);
            Edge.answers(x, "age(" + (ring - 1) + ")", 0);
            Edge.refuses(x, "age(" + ring + ")", 2);
            Edge.refuses(x, "age(-1)", 2);
            Edge.answers(x, "begin()", 0);
            Edge.answers(x, "writer(0, 0)", ring - 1);
            Edge.answers(x, "next()", 0);
            Edge.answers(x, "begin()", 1);
            Edge.answers(x, "writer(1, 0)", 0);
            Edge.answers(x, "next()", 1);
        }

        Edge.says("II", "the NEXT one is start at first.");
        for (int start = 0; start < 8; start++) {
            Edge.answers(Edge.stored("store ring 8 rows 1 start " + start + " crash 0"), "next()", start);
        }
    }

    private static void ages() {
        Edge.says("II", "AGE of a STAMP: how many one goes on from it to the NEXT, going round.");
        for (int start = 0; start < 10; start++) {
            StampedRows x = Edge.stored("store ring 10 rows 1 start " + start + " crash 0");
            for (int stamp = 0; stamp < 10; stamp++) {
                int steps = 0;
                for (int at = stamp; at != start; at = at == 9 ? 0 : at + 1) {
                    steps++;
                }
                Edge.answers(x, "age(" + stamp + ")", steps);
            }
        }

        Edge.says("II", "One is OLDER than another one if from it one goes on 1 .. half the ring to that one.");
        StampedRows x = Edge.stored(HEAD);
        for (int stamp = 0; stamp < 8; stamp++) {
            Edge.answers(x, "older(" + stamp + ", " + stamp + ")", 0);
            for (int steps = 1; steps < 8; steps++) {
                Edge.answers(x, "older(" + stamp + ", " + (stamp + steps) % 8 + ")", steps <= 4 ? 1 : 0);
            }
        }
        StampedRows wide = Edge.stored(WIDE);
        Edge.answers(wide, "older(63, 0)", 1);
        Edge.answers(wide, "older(0, 63)", 0);
        Edge.answers(wide, "older(0, 32)", 1);
        Edge.answers(wide, "older(32, 0)", 1);
        Edge.answers(wide, "older(0, 33)", 0);
        Edge.answers(wide, "older(33, 0)", 1);
        Edge.answers(wide, "older(63, 31)", 1);
        Edge.answers(wide, "older(63, 32)", 0);
    }

    private static void writersBegin() {
        Edge.says("II", "A WRITER, when he begins, has the NEXT STAMP (the one behind is NEXT then),");
        StampedRows x = Edge.stored(WIDE);
        for (int w = 0; w < 6; w++) {
            Edge.answers(x, "next()", w);
            Edge.does(x, "begin()");
            Edge.answers(x, "writer(" + w + ", 0)", w);
        }

        Edge.says("II", "and a SNAPSHOT: the STAMPS of all others who RUN then.");
        for (int w = 0; w < 6; w++) {
            Edge.answers(x, "writer(" + w + ", 2)", w);
        }
        Edge.does(x, "done(0)", "gone(2)");
        // who has ended since stays in it; who had ended before isn't in the new one's
        Edge.answers(x, "writer(5, 2)", 5);
        Edge.does(x, "begin()");
        Edge.answers(x, "writer(0, 2)", 4);
        Edge.answers(x, "writer(1, 2)", 1);

        Edge.says("II", "He RUNS till he is DONE or GONE.");
        StampedRows y = Edge.stored(HEAD + ";begin a;begin b");
        Edge.answers(y, "running()", 3);
        Edge.does(y, "done(0)");
        Edge.answers(y, "running()", 2);
        Edge.does(y, "gone(1)");
        Edge.answers(y, "running()", 0);

        Edge.says("II", "He is one of six SLOTS, 0 .. 5: the first that is free.");
        StampedRows z = Edge.stored(WIDE);
        for (int w = 0; w < 6; w++) {
            Edge.answers(z, "begin()", w);
        }
        Edge.does(z, "done(5)", "gone(3)", "done(1)");
        Edge.answers(z, "begin()", 1);
        Edge.answers(z, "begin()", 3);
        Edge.answers(z, "begin()", 5);
    }

    private static void versions() {
        Edge.says("II", "A VERSION (numbers 0 .. 47, the first free one)");
        StampedRows x = full();
        Edge.tells(x, "size(3)", 48);
        Edge.answers(x, "version(0, 0)", 0);
        Edge.answers(x, "version(47, 0)", 7);
        Edge.refuses(x, "version(48, 0)", 1);
        Edge.refuses(x, "put(0, 0, 9)", 3);
        // what is ended is DEAD but for the last of each ROW, and one more
        Edge.does(x, "gone(0)", "clear()", "begin()");
        Edge.tells(x, "size(3)", 8);
        Edge.answers(x, "put(0, 3, 9)", 0);
        Edge.answers(x, "put(0, 2, 9)", 1);
        Edge.does(x, "gone(0)", "clear()", "begin()");
        Edge.answers(x, "put(0, 7, 9)", 0);

        Edge.says("II", "is of a ROW, has a value, FROM: the STAMP of who made it (or it is FROZEN), "
            + "TILL: the STAMP of who ended it, or none.");
        StampedRows y = Edge.stored("store ring 8 rows 8 start 7 crash 0;begin a;put a 7 999;done a;begin b");
        StampedRows sparse = Edge.stored(SPARSE);
        int[] third = {0, 7, 1, -2};
        for (int what = 0; what < third.length; what++) {
            Edge.answers(sparse, "version(3, " + what + ")", third[what]);
        }
        Edge.answers(y, "version(0, 0)", 7);
        Edge.answers(y, "version(0, 1)", 999);
        Edge.answers(y, "version(0, 2)", 7);
        Edge.answers(y, "version(0, 3)", -2);
        // a STAMP 0 is no sign of none
        Edge.does(y, "drop(0, 7)", "put(0, 0, 0)");
        Edge.answers(y, "version(0, 3)", 0);
        Edge.answers(y, "version(1, 2)", 0);
        Edge.does(y, "freeze()");
        Edge.answers(y, "version(0, 2)", -2);

        Edge.says("II", "A ROW's CHAIN: its VERSIONS in the order in which they were made.");
        StampedRows z = Edge.stored(HEAD + ";begin a;put a 1 1;put a 0 2;done a;begin b;put b 1 3;done b;clear");
        // 0 is free again: what is made now has a lesser number than what was made before
        Edge.does(z, "begin()", "put(0, 1, 4)");
        Edge.answers(z, "chainAt(1, 0)", 2);
        Edge.answers(z, "chainAt(1, 1)", 0);
        Edge.answers(z, "chainAt(0, 0)", 1);
    }

    /** All 48 numbers are taken, by six who each put in eight ROWS; one more runs. */
    static StampedRows full() {
        StampedRows x = Edge.stored(WIDE);
        for (int i = 0; i < 6; i++) {
            Edge.does(x, "begin()");
            for (int row = 0; row < 8; row++) {
                Edge.does(x, "put(0, " + row + ", " + i + ")");
            }
            Edge.does(x, "done(0)");
        }
        Edge.does(x, "begin()");
        return x;
    }

    private static void counting() {
        Edge.says("II", "A STAMP COUNTS for a WRITER if it is his own,");
        StampedRows x = Edge.stored(HEAD);
        pass(x, 8);
        Edge.does(x, "begin()", "begin()");
        Edge.answers(x, "counts(0, 0)", 1);
        Edge.answers(x, "counts(1, 1)", 1);
        Edge.answers(x, "counts(0, 1)", 0);
        Edge.answers(x, "counts(1, 0)", 0);

        Edge.says("II", "or its WRITER is DONE, it isn't in his SNAPSHOT, and is OLDER than his own.");
        StampedRows y = Edge.stored("store ring 8 rows 1 start 5 crash 0;begin a;done a;begin b;gone b;begin c;done c;"
            + "begin d;begin e;begin f;done d;done f");
        // STAMPS: a 5 done, b 6 gone, c 7 done, d 0 done, e 1 in SLOT 1, f 2 done
        Edge.answers(y, "counts(1, 5)", 1);
        Edge.answers(y, "counts(1, 6)", 0);
        Edge.answers(y, "counts(1, 7)", 1);
        Edge.answers(y, "counts(1, 0)", 0);
        Edge.answers(y, "counts(1, 2)", 0);
        Edge.answers(y, "counts(1, 4)", 0);
        // half the ring is OLDER still, one more isn't
        StampedRows z = Edge.stored(HEAD);
        pass(z, 5);
        Edge.does(z, "begin()");
        Edge.answers(z, "counts(0, 0)", 0);
        Edge.answers(z, "counts(0, 1)", 1);
        Edge.answers(z, "counts(0, 4)", 1);
        Edge.answers(z, "counts(0, 6)", 0);
    }

    private static void seeing() {
        Edge.says("II", "He SEES a VERSION that is FROZEN, or whose FROM COUNTS, if it has no TILL that COUNTS;");
        StampedRows x = Edge.stored(HEAD + ";begin a;put a 0 1;put a 1 2;done a;begin b;begin c;drop b 0;put b 2 3");
        // b, SLOT 0, and c, SLOT 1, both SEE a's, but for what they dropped
        Edge.answers(x, "sees(0, 0)", -2);
        Edge.answers(x, "sees(1, 0)", 0);
        Edge.answers(x, "sees(0, 1)", 1);
        Edge.answers(x, "sees(0, 2)", 2);
        Edge.answers(x, "sees(1, 2)", -2);
        Edge.does(x, "done(0)");
        Edge.answers(x, "sees(1, 0)", 0);
        Edge.answers(x, "sees(1, 2)", -2);
        Edge.does(x, "begin()");
        Edge.answers(x, "sees(0, 0)", -2);
        Edge.answers(x, "sees(0, 2)", 2);
        // as of a STAMP ahead of all nothing COUNTS, but what is FROZEN is there
        Edge.answers(x, "asOf(0, 1)", -2);
        Edge.does(x, "gone(0)", "gone(1)", "freeze()");
        Edge.answers(x, "asOf(0, 1)", 2);
        Edge.answers(x, "fresh(0)", -2);

        Edge.says("II", "of a ROW the last such of its CHAIN.");
        // were b done, his VERSION and c's would be there both
        StampedRows y = Edge.stored(HEAD + ";begin a;put a 0 1;done a;begin b;put b 0 2;gone b;begin c;put c 0 3;done c;"
            + "unsure b;seen 0 3");
        Edge.answers(y, "fits()", 2);
        Edge.does(y, "freeze()");
        // the first has an end that isn't there yet as of 0
        Edge.answers(y, "asOf(0, 0)", 3);

        Edge.says("II", "A FRESH reader is one who would begin NOW: all STAMPS of WRITERS DONE COUNT, no others.");
        StampedRows z = Edge.stored(HEAD + ";begin a;put a 0 1;put a 1 2;done a;begin b;drop b 0;put b 2 7;gone b;begin c;"
            + "drop c 1;put c 2 5");
        Edge.answers(z, "fresh(0)", 1);
        Edge.answers(z, "fresh(1)", 2);
        Edge.answers(z, "fresh(2)", -2);
        Edge.does(z, "done(0)");
        Edge.answers(z, "fresh(1)", -2);
        Edge.answers(z, "fresh(2)", 5);
        pass(z, 1);
        // nobody can begin any more, but who would sees all as before
        Edge.answers(z, "age(0)", 4);
        Edge.refuses(z, "begin()", 3);
        Edge.answers(z, "fresh(0)", 1);
    }

    private static void inUse() {
        Edge.says("II", "IN USE are all FROM and TILL of VERSIONS, STAMPS of WRITERS who RUN, and those in their SNAPSHOTS.");
        StampedRows from = Edge.stored(HEAD + ";begin a;put a 0 1;done a");
        Edge.answers(from, "oldest()", 1);
        pass(from, 1);
        Edge.answers(from, "oldest()", 2);
        StampedRows gone = Edge.stored(HEAD + ";begin a;put a 0 1;gone a;begin b;done b");
        Edge.answers(gone, "oldest()", 2);
        StampedRows till = Edge.stored(HEAD + ";begin a;put a 0 1;done a;freeze");
        Edge.answers(till, "oldest()", -2);
        Edge.does(till, "begin()", "drop(0, 0)", "gone(0)");
        pass(till, 1);
        Edge.answers(till, "oldest()", 2);
        StampedRows runs = Edge.stored(HEAD + ";begin a");
        pass(runs, 2);
        Edge.answers(runs, "oldest()", 3);
        StampedRows snapshot = Edge.stored(HEAD + ";begin a;begin b;begin c;done a");
        Edge.answers(snapshot, "oldest()", 3);
        Edge.does(snapshot, "gone(1)");
        Edge.answers(snapshot, "oldest()", 3);
        Edge.does(snapshot, "gone(2)");
        Edge.answers(snapshot, "oldest()", -2);
        StampedRows sparse = Edge.stored(SPARSE + ";done b");
        Edge.answers(sparse, "oldest()", 1);
        // no TILL, and no FROM of what is FROZEN, is no STAMP
        StampedRows none = Edge.stored(WIDE + ";begin a;put a 0 1;done a");
        Edge.answers(none, "oldest()", 1);
        Edge.does(none, "freeze()");
        Edge.answers(none, "oldest()", -2);
        // the last SLOT's SNAPSHOT
        StampedRows last = Edge.stored(WIDE + ";" + SIX + ";gone a;gone b;gone c;gone d;gone e;clear;gone f;clear");
        Edge.answers(last, "oldest()", -2);
        StampedRows sixth = Edge.stored(WIDE + ";" + SIX + ";gone a;gone b;gone c;gone d;gone e;clear");
        Edge.answers(sixth, "oldest()", 6);
    }

    private static void horizon() {
        Edge.says("II", "HORIZON: of STAMPS of WRITERS who RUN, and those in their SNAPSHOTS, the one of the greatest AGE;");
        StampedRows x = Edge.stored("store ring 8 rows 1 start 7 crash 0;begin a;begin b;begin c");
        // 7 is the greatest number, too: 0 is younger
        Edge.answers(x, "horizon()", 7);
        Edge.does(x, "gone(0)", "gone(1)");
        Edge.answers(x, "horizon()", 7);
        Edge.does(x, "begin()");
        Edge.answers(x, "horizon()", 7);
        Edge.does(x, "gone(2)");
        Edge.answers(x, "horizon()", 1);
        StampedRows last = Edge.stored(WIDE + ";" + SIX + ";done a;done b;done c;done d;done e");
        Edge.answers(last, "horizon()", 0);

        Edge.says("II", "NEXT, if none RUNS.");
        Edge.answers(Edge.stored("store ring 8 rows 1 start 6 crash 0"), "horizon()", 6);
        Edge.does(x, "gone(0)");
        Edge.answers(x, "horizon()", 3);
    }

    private static void dead() {
        Edge.says("II", "A VERSION is DEAD if its FROM's WRITER is GONE,");
        StampedRows x = Edge.stored(HEAD + ";begin r;begin a;put a 0 1;begin b");
        Edge.answers(x, "version(0, 4)", 0);
        Edge.does(x, "gone(1)");
        // whoever still looks back beyond it
        Edge.answers(x, "version(0, 4)", 1);
        // one was GONE who had the STAMP a round ago
        StampedRows round = Edge.stored(HEAD + ";begin a;gone a");
        pass(round, 7);
        Edge.does(round, "begin()", "put(0, 0, 5)");
        Edge.answers(round, "version(0, 2)", 0);
        Edge.answers(round, "version(0, 4)", 0);
        Edge.does(round, "done(0)");
        Edge.answers(round, "version(0, 4)", 0);

        Edge.says("II", "or its TILL's WRITER is DONE and that is OLDER than the HORIZON.");
        StampedRows y = Edge.stored(HEAD + ";begin a;put a 0 1;done a;begin b;begin r;drop b 0");
        Edge.answers(y, "dead()", 0);
        Edge.does(y, "done(0)");
        // the HORIZON is b's own STAMP, in r's SNAPSHOT
        Edge.answers(y, "horizon()", 1);
        Edge.answers(y, "dead()", 0);
        Edge.does(y, "begin()", "gone(1)");
        Edge.answers(y, "horizon()", 2);
        Edge.answers(y, "dead()", 1);
        StampedRows gone = Edge.stored(HEAD + ";begin a;put a 0 1;done a;begin b;drop b 0;gone b");
        Edge.answers(gone, "dead()", 0);
        StampedRows back = Edge.stored(HELD_BACK);
        Edge.answers(back, "version(0, 4)", 0);
        Edge.does(back, "gone(0)");
        Edge.answers(back, "version(0, 4)", 1);
        StampedRows sparse = Edge.stored(SPARSE);
        Edge.answers(sparse, "frees(0)", 2);
        Edge.does(sparse, "gone(0)");
        Edge.answers(sparse, "dead()", 2);
        // half the ring is OLDER still
        StampedRows half = Edge.stored(HEAD + ";begin a;put a 0 1;done a;freeze;begin b;drop b 0;done b");
        pass(half, 3);
        Edge.answers(half, "age(1)", 4);
        Edge.answers(half, "dead()", 1);
    }

    // Terms III

    private static void begin() {
        Edge.says("III", "ACTS. BEGIN: not if six RUN,");
        StampedRows six = Edge.stored(WIDE + ";begin a;begin b;begin c;begin d;begin e");
        Edge.answers(six, "begin()", 5);
        Edge.refuses(six, "begin()", 3);
        Edge.does(six, "gone(4)");
        Edge.answers(six, "begin()", 4);

        Edge.says("III", "or a STAMP IN USE has an AGE of half the ring or more.");
        for (int ring : new int[] {8, 10, 64}) {
            String head = "store ring " + ring + " rows 1 start " + (ring - 2) + " crash 0";
            half(Edge.stored(head + ";begin a;put a 0 1;done a"), ring);
            half(Edge.stored(head + ";begin a;put a 0 1;gone a"), ring);
            half(Edge.stored(head + ";begin a"), ring);
            half(Edge.stored(head + ";begin a;put a 0 1;done a;freeze;begin b;drop b 0;gone b"), ring);
            half(Edge.stored(head + ";begin a;begin b;done a"), ring);
        }
    }

    /** Goes on till a STAMP IN USE has the AGE of half the ring: only then nobody can begin. */
    private static void half(StampedRows x, int ring) {
        pass(x, ring / 2 - x.oldest());
        Edge.answers(x, "oldest()", ring / 2);
        Edge.refuses(x, "begin()", 3);
    }

    private static void put() {
        Edge.says("III", "PUT: a value in a ROW. If he SEES a VERSION he made: its value is changed.");
        StampedRows x = Edge.stored(HEAD + ";begin a;put a 0 1;done a;begin b;put b 1 2");
        Edge.answers(x, "put(0, 1, 3)", 1);
        Edge.answers(x, "chain(1)", 1);
        Edge.answers(x, "read(0, 1)", 3);
        Edge.answers(x, "version(1, 3)", -2);

        Edge.says("III", "If he SEES another one: it has his STAMP as TILL, and a VERSION more is made of him.");
        Edge.answers(x, "put(0, 0, 1)", 2);
        Edge.answers(x, "version(0, 3)", 1);
        Edge.answers(x, "version(0, 1)", 1);
        Edge.answers(x, "version(2, 2)", 1);
        Edge.answers(x, "version(2, 3)", -2);
        // one who is gone ended it before: his TILL is written over
        StampedRows again = Edge.stored(HEAD + ";begin a;put a 0 1;done a;begin b;drop b 0;gone b;begin c");
        Edge.answers(again, "version(0, 3)", 1);
        Edge.answers(again, "put(0, 0, 5)", 1);
        Edge.answers(again, "version(0, 3)", 2);

        Edge.says("III", "If he SEES none: one is made of him.");
        Edge.answers(x, "put(0, 2, 4)", 3);
        Edge.answers(x, "version(3, 2)", 1);
        StampedRows own = Edge.stored(HEAD + ";begin a;put a 0 1;drop a 0");
        Edge.answers(own, "put(0, 0, 2)", 1);
        Edge.answers(own, "version(0, 3)", 0);
        Edge.answers(own, "version(0, 1)", 1);

        Edge.says("III", "DROP: the VERSION he SEES has his STAMP as TILL. But, ahead of both:");
        Edge.answers(own, "drop(0, 0)", 1);
        Edge.answers(own, "version(1, 3)", 0);
        Edge.does(own, "done(0)", "begin()", "put(0, 1, 1)", "done(0)", "begin()");
        Edge.answers(own, "drop(0, 1)", 2);
        Edge.answers(own, "version(2, 3)", 2);
    }

    private static void held() {
        Edge.says("III", "HELD: he SEES a VERSION whose TILL's WRITER RUNS;");
        StampedRows x = Edge.stored(HEAD + ";begin a;put a 0 1;put a 1 1;done a;begin b;begin c;drop c 0;put c 1 2");
        Edge.answers(x, "may(0, 0)", 1);
        Edge.answers(x, "may(0, 1)", 1);
        Edge.refuses(x, "put(0, 0, 2)", 5);
        Edge.refuses(x, "drop(0, 1)", 5);
        Edge.does(x, "gone(1)");
        Edge.answers(x, "may(0, 0)", 0);
        Edge.answers(x, "may(0, 1)", 0);

        Edge.says("III", "or he SEES none, and of VERSIONS of the ROW whose FROM's WRITER isn't GONE the last one's FROM's "
            + "WRITER RUNS, another than he. It can't be done.");
        StampedRows y = Edge.stored(HEAD + ";begin a;begin b;begin c;put b 0 1;gone b;put c 0 2");
        Edge.refuses(y, "put(0, 0, 3)", 5);
        Edge.refuses(y, "drop(0, 0)", 5);
        Edge.answers(y, "waitsFor(0, 0)", 2);
        // the last of all is one of a WRITER gone, the last but that of one who runs
        StampedRows last = Edge.stored(HEAD + ";begin a;begin b;put b 0 1;drop b 0;done b;begin c;begin d;put c 0 2;gone c;"
            + "put d 0 3");
        Edge.answers(last, "may(0, 0)", 1);
        Edge.answers(last, "waitsFor(0, 0)", 2);
        StampedRows sparse = Edge.stored(SPARSE + ";begin c");
        for (int row = 0; row < 3; row++) {
            Edge.answers(sparse, "may(1, " + row + ")", row == 1 ? 0 : 1);
            Edge.answers(sparse, "waitsFor(1, " + row + ")", row == 1 ? -2 : 0);
        }
        StampedRows own = Edge.stored(HEAD + ";begin a;put a 0 1;drop a 0");
        Edge.answers(own, "may(0, 0)", 0);
        StampedRows gone = Edge.stored(HEAD + ";begin a;begin b;put b 0 1;gone b");
        Edge.answers(gone, "may(0, 0)", 0);
    }

    private static void lost() {
        Edge.says("III", "LOST: he SEES a VERSION whose TILL's WRITER is DONE;");
        StampedRows x = Edge.stored(HEAD + ";begin a;put a 0 1;put a 1 1;done a;begin b;begin c;drop c 0;put c 1 2;done c");
        Edge.answers(x, "may(0, 0)", 2);
        Edge.answers(x, "may(0, 1)", 2);
        Edge.answers(x, "may(0, 2)", 0);
        Edge.answers(x, "put(0, 0, 9)", -2);
        Edge.does(x, "undo()");
        Edge.answers(x, "drop(0, 1)", -2);

        Edge.says("III", "or he SEES none, and that last one's FROM, not FROZEN, doesn't COUNT for him (and he isn't HELD).");
        StampedRows y = Edge.stored(HEAD + ";begin a;begin b;put b 0 1;done b");
        Edge.answers(y, "may(0, 0)", 2);
        Edge.answers(y, "drop(0, 0)", -2);
        // the last one's FROM COUNTS, but its TILL does, too
        StampedRows ended = Edge.stored(HEAD + ";begin a;put a 0 1;done a;begin b;drop b 0;done b;begin c");
        Edge.answers(ended, "may(0, 0)", 0);
        Edge.does(ended, "freeze()");
        Edge.answers(ended, "may(0, 0)", 0);
        // b's, who is DONE, is number 1; c's, who is GONE and made his later, 0
        StampedRows later = Edge.stored(HEAD + ";begin z;put z 1 1;gone z;begin a;begin b;put b 0 1;clear;drop b 0;done b;"
            + "begin c;put c 0 2;gone c");
        Edge.answers(later, "chainAt(0, 1)", 0);
        Edge.answers(later, "may(0, 0)", 2);
        // behind the one DONE there is another one's who RUNS: he is HELD
        StampedRows held = Edge.stored(HEAD + ";begin a;begin b;put b 0 1;drop b 0;done b;begin c;put c 0 2");
        Edge.answers(held, "may(0, 0)", 1);
        Edge.does(held, "gone(1)");
        Edge.answers(held, "may(0, 0)", 2);

        Edge.says("III", "Then nothing is put or dropped, but he has LOST (an ACT, too, that can be undone): "
            + "from then on he can only be GONE.");
        StampedRows z = Edge.stored(HEAD + ";begin a;put a 0 1;done a;begin b;begin c;drop c 0;done c");
        Edge.answers(z, "put(0, 0, 9)", -2);
        Edge.tells(z, "size(3)", 1);
        Edge.tells(z, "size(7)", 1);
        Edge.answers(z, "version(0, 3)", 2);
        Edge.answers(z, "version(0, 1)", 1);
        Edge.answers(z, "writer(0, 1)", 1);
        Edge.refuses(z, "put(0, 1, 9)", 5);
        Edge.refuses(z, "put(0, 0, 9)", 5);
        Edge.refuses(z, "drop(0, 0)", 5);
        Edge.refuses(z, "drop(0, 1)", 5);
        Edge.refuses(z, "done(0)", 5);
        Edge.answers(z, "undo()", 1);
        Edge.answers(z, "writer(0, 1)", 0);
        Edge.answers(z, "put(0, 1, 9)", 1);
        Edge.answers(z, "drop(0, 0)", -2);
        Edge.answers(z, "gone(0)", 1);
        // the next in his SLOT hasn't
        Edge.answers(z, "begin()", 0);
        Edge.answers(z, "writer(0, 1)", 0);
    }

    private static void ends() {
        Edge.says("III", "DONE, GONE: he doesn't RUN any more; his SLOT is free.");
        StampedRows x = Edge.stored(HEAD + ";begin a;begin b;begin c");
        Edge.does(x, "done(1)");
        Edge.refuses(x, "writer(1, 0)", 1);
        Edge.answers(x, "running()", 5);
        Edge.answers(x, "begin()", 1);
        Edge.answers(x, "writer(1, 0)", 3);
        Edge.does(x, "gone(0)");
        Edge.refuses(x, "gone(0)", 1);
        Edge.answers(x, "running()", 6);
    }

    private static void clear() {
        Edge.says("III", "CLEAR: DEAD VERSIONS are taken out of their CHAINS.");
        StampedRows x = Edge.stored(HEAD + ";begin a;put a 0 1;put a 1 2;done a;begin b;put b 0 3;done b;begin c;put c 0 4;"
            + "put c 1 5;gone c");
        Edge.answers(x, "chain(0)", 3);
        Edge.answers(x, "clear()", 3);
        Edge.answers(x, "chain(0)", 1);
        Edge.answers(x, "chainAt(0, 0)", 2);
        Edge.answers(x, "chain(1)", 1);
        Edge.answers(x, "chainAt(1, 0)", 1);
        Edge.refuses(x, "version(0, 0)", 1);
        Edge.refuses(x, "version(3, 0)", 1);
        Edge.tells(x, "size(3)", 2);
        // what is held back by the first SLOT stays
        StampedRows back = Edge.stored(HELD_BACK);
        Edge.answers(back, "clear()", 1);
        Edge.answers(back, "chain(0)", 1);
        Edge.answers(back, "chain(1)", 1);
        Edge.answers(back, "chain(2)", 0);
        // the numbers that are left stay what they were
        StampedRows sparse = Edge.stored(SPARSE + ";drop b 0;done b;clear");
        Edge.answers(sparse, "chain(0)", 0);
        Edge.answers(sparse, "chainAt(2, 0)", 4);
        Edge.answers(sparse, "fresh(2)", 8);
        // what isn't DEAD stays, with the TILL of one gone
        Edge.answers(x, "version(1, 3)", 2);
        Edge.answers(x, "fresh(1)", 2);
    }

    private static void freeze() {
        Edge.says("III", "FREEZE: VERSIONS whose FROM's WRITER is DONE, and that is OLDER than the HORIZON, are FROZEN;");
        StampedRows x = Edge.stored(HEAD + ";begin a;put a 0 1;done a;begin b;put b 1 2;begin r;done b");
        // the HORIZON is b's own STAMP
        Edge.answers(x, "horizon()", 1);
        Edge.answers(x, "freeze()", 1);
        Edge.answers(x, "version(0, 2)", -2);
        Edge.answers(x, "version(1, 2)", 1);
        Edge.does(x, "gone(1)");
        Edge.answers(x, "freeze()", 1);
        Edge.answers(x, "version(1, 2)", -2);
        StampedRows half = Edge.stored(HEAD + ";begin a;put a 0 1;done a");
        pass(half, 3);
        Edge.answers(half, "age(0)", 4);
        Edge.answers(half, "freeze()", 1);
        StampedRows back = Edge.stored(HELD_BACK);
        Edge.answers(back, "version(0, 5)", 0);
        Edge.answers(back, "freeze()", 1);
        Edge.answers(back, "version(0, 2)", 1);
        Edge.answers(back, "version(1, 2)", 1);
        Edge.does(back, "gone(0)");
        Edge.answers(back, "version(0, 5)", 1);
        StampedRows sparse = Edge.stored(SPARSE + ";done b");
        Edge.answers(sparse, "freezes()", 2);
        Edge.answers(sparse, "freeze()", 2);
        Edge.answers(sparse, "version(3, 2)", -2);
        Edge.answers(sparse, "version(4, 2)", -2);
        StampedRows gone = Edge.stored(HEAD + ";begin a;put a 0 1;gone a");
        Edge.refuses(gone, "freeze()", 6);
        StampedRows runs = Edge.stored(HEAD + ";begin a;put a 0 1");
        Edge.refuses(runs, "freeze()", 6);

        Edge.says("III", "a TILL whose WRITER is GONE is none then.");
        StampedRows y = Edge.stored(HEAD + ";begin r;begin a;put a 0 1;put a 1 1;done a;begin b;drop b 0;begin c;drop c 1;"
            + "gone b");
        // r holds all back: nothing can be FROZEN, but b's TILL is taken off; c still runs
        Edge.answers(y, "freeze()", 1);
        Edge.answers(y, "version(0, 2)", 1);
        Edge.answers(y, "version(0, 3)", -2);
        Edge.answers(y, "version(1, 3)", 3);
        Edge.does(y, "done(2)");
        Edge.refuses(y, "freeze()", 6);
        Edge.answers(y, "version(1, 3)", 3);
        // the STAMP of one gone may be another's then, who ended nothing
        StampedRows z = Edge.stored(HEAD + ";begin a;put a 0 1;done a;begin b;drop b 0;gone b;freeze");
        pass(z, 8);
        Edge.answers(z, "fresh(0)", 1);
    }

    private static void undo() {
        Edge.says("III", "UNDO: the latest ACT (16 are kept).");
        StampedRows x = Edge.stored(HEAD + ";begin a");
        for (int value = 0; value < 18; value++) {
            Edge.does(x, "put(0, 0, " + value + ")");
        }
        Edge.tells(x, "size(7)", 16);
        for (int value = 16; value >= 1; value--) {
            Edge.answers(x, "undo()", 1);
            Edge.answers(x, "read(0, 0)", value);
        }
        Edge.refuses(x, "undo()", 0, 6);
        Edge.answers(x, "read(0, 0)", 1);
        // values, TILL and FROM of numbers above how many there are
        StampedRows sparse = Edge.stored(SPARSE);
        Edge.does(sparse, "put(0, 0, 9)", "undo()");
        Edge.answers(sparse, "read(0, 0)", 7);
        Edge.does(sparse, "drop(0, 0)", "undo()");
        Edge.answers(sparse, "version(3, 3)", -2);
        Edge.does(sparse, "done(0)", "freeze()", "undo()");
        Edge.answers(sparse, "version(3, 2)", 1);
        // a STAMP that was another's comes back to him
        StampedRows y = Edge.stored(HEAD);
        pass(y, 8);
        Edge.does(y, "begin()", "undo()", "begin()", "gone(0)");
        Edge.does(y, "begin()");
        Edge.answers(y, "counts(0, 0)", 0);
        Edge.does(y, "undo()", "undo()", "undo()", "undo()", "undo()", "begin()");
        Edge.answers(y, "writer(0, 0)", 7);
        Edge.answers(y, "counts(0, 6)", 1);

        Edge.says("III", "IMAGES: up to 3; gone back to one, nothing can be undone.");
        StampedRows z = Edge.stored(HEAD);
        for (int image = 0; image < 3; image++) {
            Edge.answers(z, "image()", image);
            Edge.does(z, "begin()");
        }
        Edge.refuses(z, "image()", 3);
        Edge.tells(z, "size(8)", 3);
        Edge.tells(z, "size(7)", 3);
        Edge.answers(z, "back(2)", 1);
        Edge.tells(z, "size(7)", 0);
        Edge.refuses(z, "undo()", 0, 6);
        Edge.answers(z, "running()", 3);
        Edge.answers(z, "back(0)", 1);
        Edge.answers(z, "running()", 0);
    }

    private static void fits() {
        Edge.says("III", "FITS: sets of unsure WRITERS who ended the other way "
            + "(as VERSIONS lay behind all LINES, nothing else being other;");
        StampedRows x = Edge.stored(HEAD + ";begin a;put a 0 1;done a;begin b;put b 1 2;gone b;unsure a;unsure b;seen 0 none;"
            + "seen 1 2");
        Edge.answers(x, "fits()", 1);
        Edge.answers(x, "fitAt(0)", 3);
        // were a gone, b would have seen nothing; but his VERSION is there as he made it
        StampedRows y = Edge.stored(HEAD + ";begin a;put a 0 1;done a;begin b;put b 0 2;done b;unsure a;seen 0 2");
        Edge.answers(y, "fits()", 2);
        StampedRows cleared = Edge.stored(HEAD + ";begin a;put a 0 1;gone a;clear;unsure a;seen 0 1");
        Edge.answers(cleared, "fits()", 0);
        StampedRows frozen = Edge.stored(HEAD + ";begin a;put a 0 1;done a;freeze;unsure a;seen 0 none");
        Edge.answers(frozen, "fits()", 0);
        StampedRows till = Edge.stored(HEAD + ";begin a;put a 0 1;done a;begin b;drop b 0;gone b;freeze;unsure b;seen 0 none");
        Edge.answers(till, "fits()", 0);
        // acts behind the text change nothing
        Edge.does(x, "begin()", "put(0, 0, 5)", "done(0)", "freeze()", "clear()");
        Edge.answers(x, "fits()", 1);

        Edge.says("III", "one whose STAMP another WRITER has had since changes nothing)");
        String round = HEAD + ";begin a;put a 0 1;done a;freeze;begin b;done b;begin c;done c;begin d;done d;begin e;done e;"
            + "begin f;done f;begin g;done g;begin h;put h 2 7;done h;";
        StampedRows seven = Edge.stored(round + "begin i;put i 1 3;done i;unsure h;unsure a;unsure i;seen 0 1;seen 1 3");
        // h's STAMP is his alone, but nobody saw what he did; a's is i's since
        Edge.answers(seven, "version(2, 2)", 0);
        Edge.answers(seven, "fits()", 4);
        Edge.answers(seven, "could()", 3);
        StampedRows runs = Edge.stored(round + "begin i;put i 1 3;unsure a;seen 0 1;seen 1 none;seen 2 7");
        Edge.answers(runs, "fits()", 2);
        // not had since: one STAMP ahead of that
        StampedRows ahead = Edge.stored(HEAD + ";begin a;done a;begin b;put b 0 1;done b;unsure b;seen 0 none");
        pass(ahead, 3);
        Edge.answers(ahead, "fits()", 1);
        Edge.answers(ahead, "surely()", 1);

        Edge.says("III", "by which a FRESH reader then saw all that was seen: all such.");
        StampedRows all = Edge.stored(HEAD + ";begin a;put a 0 1;done a;begin b;put b 1 1;done b;begin c;put c 2 1;done c;"
            + "begin d;done d;unsure a;unsure b;unsure c;unsure d");
        Edge.answers(all, "fits()", 16);
        StampedRows some = Edge.stored(HEAD + ";begin a;put a 0 1;done a;begin b;put b 1 1;done b;unsure a;unsure b;"
            + "seen 0 1;seen 1 none");
        Edge.answers(some, "fits()", 1);
        Edge.answers(some, "fitAt(0)", 2);
        StampedRows none = Edge.stored(HEAD + ";begin a;put a 0 1;done a;unsure a;seen 0 2");
        Edge.answers(none, "fits()", 0);
    }

    private static void ask() {
        Edge.says("III", "ASK: the unsure WRITER by whom, it being told, at most fewest FITS are left, the first such.");
        // b's end is known by what was seen, a's and c's are not
        StampedRows x = Edge.stored(HEAD + ";begin a;put a 0 1;done a;begin b;put b 1 1;done b;begin c;put c 2 1;done c;"
            + "unsure b;unsure a;unsure c;seen 1 1");
        Edge.answers(x, "fits()", 4);
        Edge.answers(x, "ask()", 1);
        Edge.answers(x, "askLeaves()", 2);
        // 5 unless a and b are gone both: 3 sets, either leaves two at most
        StampedRows y = Edge.stored(HEAD + ";begin a;put a 0 5;done a;begin b;put b 0 5;done b;unsure a;unsure b;seen 0 5");
        Edge.answers(y, "fits()", 3);
        Edge.answers(y, "ask()", 0);
        Edge.answers(y, "askLeaves()", 2);
    }

    private static void crash() {
        Edge.says("III", "CRASH by chance: each WRITER who RUNS is GONE, as likely as told, else DONE, each for himself;");
        StampedRows x = Edge.stored("store ring 8 rows 3 start 0 crash 20;begin a;begin b;put a 0 10;put b 1 10;put b 2 10");
        Edge.answers(x, "odds(0, 10, false)", 4);
        Edge.answers(x, "odds(0, 10, true)", 5);
        Edge.answers(x, "odds(2, 10, false)", 4);
        // 30 times four fifths
        Edge.answers(x, "mean(false)", 24);
        Edge.answers(x, "mean(true)", 1);
        // a's being gone lets the former value be seen again; b's end changes nothing
        StampedRows each = Edge.stored("store ring 8 rows 1 start 0 crash 20;begin r;put r 0 7;done r;begin a;begin b;"
            + "put a 0 10");
        Edge.answers(each, "odds(0, 7, false)", 1);
        Edge.answers(each, "odds(0, 7, true)", 5);
        Edge.answers(each, "mean(false)", 47);
        Edge.answers(each, "mean(true)", 5);
        StampedRows never = Edge.stored("store ring 8 rows 1 start 0 crash 0;begin a;put a 0 10");
        Edge.answers(never, "mean(false)", 10);
        StampedRows always = Edge.stored("store ring 8 rows 1 start 0 crash 100;begin a;put a 0 10");
        Edge.answers(always, "mean(false)", 0);
        Edge.answers(always, "mean(true)", 1);

        Edge.says("III", "who has LOST is GONE.");
        StampedRows lost = Edge.stored("store ring 8 rows 2 start 0 crash 0;begin a;begin b;put b 0 5;put a 1 6;done b");
        Edge.answers(lost, "odds(1, 6, false)", 1);
        Edge.answers(lost, "drawn(0)", 11);
        Edge.answers(lost, "put(0, 0, 9)", -2);
        Edge.answers(lost, "odds(1, 6, false)", 0);
        Edge.answers(lost, "mean(false)", 5);
        Edge.answers(lost, "drawn(0)", 5);

        StampedRows second = Edge.stored("store ring 8 rows 2 start 0 crash 0;begin a;begin b;put a 0 5;put b 1 6;done a");
        Edge.answers(second, "odds(1, 6, false)", 1);
        Edge.answers(second, "put(1, 0, 9)", -2);
        Edge.answers(second, "odds(1, 6, false)", 0);
        Edge.answers(second, "mean(false)", 5);

        Edge.says("III", "By a SEED: SLOT by SLOT, for each who RUNS (LOST, too), a DRAW mod 100: below crash he is GONE");
        String three = "begin a;begin b;begin c;put a 0 1;put b 1 10;put c 2 100";
        // 0: 74, 5,624, 28,652
        Edge.answers(Edge.stored("store ring 8 rows 3 start 0 crash 24;" + three), "drawn(0)", 111);
        Edge.answers(Edge.stored("store ring 8 rows 3 start 0 crash 25;" + three), "drawn(0)", 101);
        Edge.answers(Edge.stored("store ring 8 rows 3 start 0 crash 52;" + three), "drawn(0)", 101);
        Edge.answers(Edge.stored("store ring 8 rows 3 start 0 crash 53;" + three), "drawn(0)", 1);
        Edge.answers(Edge.stored("store ring 8 rows 3 start 0 crash 74;" + three), "drawn(0)", 1);
        Edge.answers(Edge.stored("store ring 8 rows 3 start 0 crash 75;" + three), "drawn(0)", 0);
        StampedRows x53 = Edge.stored("store ring 8 rows 3 start 0 crash 53;" + three);
        // six: 74, 24, 52, 90, 41, 9
        Edge.answers(Edge.stored("store ring 64 rows 6 start 0 crash 41;" + SIX), "drawn(0)", 29);
        Edge.answers(Edge.stored("store ring 64 rows 6 start 0 crash 42;" + SIX), "drawn(0)", 13);
        // a free SLOT draws nothing: b draws 74 and c 24
        Edge.does(x53, "gone(0)");
        Edge.answers(x53, "drawn(0)", 10);
        StampedRows draws = Edge.stored("store ring 8 rows 3 start 0 crash 53;begin a;begin b;begin c;put b 0 5;done b;"
            + "put c 2 100");
        Edge.answers(draws, "drawn(0)", 5);
        Edge.answers(draws, "put(0, 0, 1)", -2);
        Edge.answers(draws, "drawn(0)", 5);
        Edge.answers(draws, "gone(0)", 0);
        Edge.answers(draws, "drawn(0)", 105);

        Edge.says("III", "(SEED becomes (75 times SEED and 74) mod 65,537).");
        // 874 becomes 65,624, that is 87; then 6,599, then 494,999, that is 36,240
        Edge.answers(Edge.stored("store ring 8 rows 3 start 0 crash 87;" + three), "drawn(874)", 11);
        Edge.answers(Edge.stored("store ring 8 rows 3 start 0 crash 88;" + three), "drawn(874)", 10);
        // 65,536 stays itself
        Edge.answers(Edge.stored("store ring 8 rows 3 start 0 crash 36;" + three), "drawn(65536)", 111);
        Edge.answers(Edge.stored("store ring 8 rows 3 start 0 crash 37;" + three), "drawn(65536)", 0);
    }

    private static void game() {
        Edge.says("III", "ONE and OTHER each wait or yield: both wait: 0 less cost each;");
        StampedRows x = Edge.stored(HEAD);
        Edge.answers(x, "waits(0, true, true, false)", 0);
        Edge.answers(x, "waits(0, true, true, true)", 0);
        Edge.answers(x, "waits(9, true, true, false)", -9);
        Edge.answers(x, "waits(9, true, true, true)", -9);

        Edge.says("III", "who waits alone has 4, the other one 1; both yield: 2 each.");
        for (int cost = 0; cost <= 9; cost += 9) {
            Edge.answers(x, "waits(" + cost + ", true, false, false)", 4);
            Edge.answers(x, "waits(" + cost + ", true, false, true)", 1);
            Edge.answers(x, "waits(" + cost + ", false, true, false)", 1);
            Edge.answers(x, "waits(" + cost + ", false, true, true)", 4);
            Edge.answers(x, "waits(" + cost + ", false, false, false)", 2);
            Edge.answers(x, "waits(" + cost + ", false, false, true)", 2);
        }

        Edge.says("III", "REST: a pair by which neither could have more alone.");
        for (int cost = 0; cost <= 9; cost++) {
            Edge.answers(x, "rests(" + cost + ")", 2);
            Edge.answers(x, "rest(" + cost + ")", 1);
        }
    }

    // Terms IV

    private static void trouble() {
        Edge.says("IV", "TROUBLE of the latest call that may be refused (those of which a number is told here):");
        StampedRows x = Edge.stored(HEAD + ";begin a;put a 0 1;done a");
        Edge.same("age(8)", x.age(8), -1);
        for (int i = 0; i < 46; i++) {
            x.feed(0, 0, 0, 0, 0);
        }
        Edge.tells(x, "feed(0, 0, 0, 0, 0)", -1);
        Edge.tells(x, "size(10)", -1);
        Edge.tells(x, "where()", -1);
        Edge.tells(x, "fault()", 0);
        Edge.tells(x, "led(0)", 1);
        Edge.tellsNone(x, "led(2)");
        Edge.tells(x, "trouble()", 2);

        Edge.says("IV", "0 it wasn't;");
        Edge.tells(new StampedRows(), "trouble()", 0);
        // an answer of -2, or of 0, isn't a refusal
        Edge.answers(x, "fresh(1)", -2);
        Edge.answers(x, "age(1)", 0);
        Edge.answers(x, "holdsBack()", -2);
        Edge.answers(x, "waits(1, true, true, true)", -1);

        Edge.says("IV", "1 there is none such;");
        Edge.refuses(x, "writer(0, 0)", 1);
        Edge.refuses(x, "fresh(3)", 1);

        Edge.says("IV", "2 a number;");
        Edge.refuses(x, "age(8)", 2);
        Edge.refuses(x, "store(901)", 2);

        Edge.says("IV", "3 no room;");
        Edge.does(x, "image()", "image()", "image()");
        Edge.refuses(x, "image()", 3);

        Edge.says("IV", "4 a FAULT;");
        Edge.refuses(x, "store(900)", 4);

        Edge.says("IV", "5 not so;");
        Edge.does(x, "begin()", "begin()", "put(0, 1, 1)");
        Edge.refuses(x, "put(1, 1, 1)", 5);

        Edge.says("IV", "6 there is none.");
        Edge.refuses(x, "drop(0, 2)", 6);
        Edge.refuses(x, "clear()", 6);

        Edge.says(Document.CONSTANTS, "NONE = -1: There is none; refused.");
        Edge.same("NONE", StampedRows.NONE, -1);
        Edge.refuses(x, "age(-1)", StampedRows.NONE, 2);
    }
}
