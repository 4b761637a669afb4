/** Sentences of promises 18 to 35: versions, what is seen, who may put. */
final class VersionEdges {
    private static final String HEAD = "store ring 8 rows 3 start 0 crash 0";
    /** SLOTS: b 0, c 1. a 0 put 10 and 20; b 1 put 11 over 10, c 2 dropped 20 and put 22. */
    private static final String TWO = HEAD + ";begin a;put a 0 10;put a 1 20;done a;begin b;begin c;put b 0 11;drop c 1;"
        + "put c 2 22";

    private VersionEdges() {
    }

    static void run() {
        version();
        chain();
        chainAt();
        seenBy();
        dead();
        freezes();
        sees();
        read();
        sum();
        differ();
        fresh();
        asOf();
        changed();
        may();
        waitsFor();
        openAndLoses();
    }

    /** A ROW, as the only argument or behind a SLOT that runs, that isn't there. */
    private static void noRow(StampedRows x, String open) {
        for (String row : new String[] {"-1", "3", "8", "MIN", "MAX"}) {
            Edge.refuses(x, open + row + ")", 1);
        }
    }

    /** A SLOT whose WRITER doesn't run, or that isn't there. */
    private static void nobody(StampedRows x, String call, String rest) {
        for (String w : new String[] {"-1", "2", "5", "6", "MIN", "MAX"}) {
            Edge.refuses(x, call + "(" + w + rest + ")", 1);
        }
        Edge.refuses(new StampedRows(), call + "(0" + rest + ")", 1);
    }

    private static void version() {
        Edge.says(18, "Of a VERSION 0 its ROW, 1 its value, 2 FROM (-2 it is FROZEN), 3 TILL (-2 none), 4 1 if it is DEAD, "
            + "5 1 if FREEZE would make it FROZEN.");
        StampedRows x = Edge.stored("store ring 8 rows 8 start 7 crash 0;begin a;put a 7 999;done a;begin b;put b 7 0");
        int[] first = {7, 999, 7, 0, 0, 1};
        int[] second = {7, 0, 0, -2, 0, 0};
        for (int what = 0; what < 6; what++) {
            Edge.answers(x, "version(0, " + what + ")", first[what]);
            Edge.answers(x, "version(1, " + what + ")", second[what]);
        }
        Edge.does(x, "freeze()", "done(0)");
        int[] frozen = {7, 999, -2, 0, 1, 0};
        for (int what = 0; what < 6; what++) {
            Edge.answers(x, "version(0, " + what + ")", frozen[what]);
        }
        Edge.answers(x, "version(1, 5)", 1);

        Edge.says(18, "NONE: 1.");
        Edge.does(x, "clear()");
        // the first number is free, though a later one is taken
        Edge.refuses(x, "version(0, 0)", 1);
        Edge.refuses(x, "version(2, 0)", 1);
        Edge.refuses(x, "version(47, 0)", 1);
        Edge.refuses(x, "version(48, 0)", 1);
        Edge.refuses(x, "version(-1, 0)", 1);
        Edge.refuses(x, "version(MIN, 0)", 1);
        Edge.refuses(x, "version(MAX, 0)", 1);
        Edge.refuses(x, "version(1, -1)", 1);
        Edge.refuses(x, "version(1, 6)", 1);
        Edge.refuses(x, "version(1, MIN)", 1);
        Edge.refuses(x, "version(1, MAX)", 1);
        Edge.refuses(new StampedRows(), "version(0, 0)", 1);
    }

    private static void chain() {
        Edge.says(19, "How many VERSIONS a ROW has.");
        StampedRows x = Edge.stored(TWO);
        Edge.answers(x, "chain(0)", 2);
        Edge.answers(x, "chain(1)", 1);
        Edge.answers(x, "chain(2)", 1);
        Edge.does(x, "gone(1)", "clear()");
        Edge.answers(x, "chain(2)", 0);
        StampedRows full = Edge.stored("store ring 8 rows 1 start 0 crash 0;begin a");
        for (int i = 0; i < 48; i++) {
            full.put(0, 0, i);
            full.drop(0, 0);
        }
        Edge.answers(full, "chain(0)", 48);
        Edge.answers(full, "chainAt(0, 47)", 47);

        Edge.says(19, "NONE: 1.");
        noRow(x, "chain(");
        Edge.refuses(new StampedRows(), "chain(0)", 1);
    }

    private static void chainAt() {
        Edge.says(20, "The i-th of its CHAIN.");
        StampedRows x = Edge.stored(TWO);
        Edge.answers(x, "chainAt(0, 0)", 0);
        Edge.answers(x, "chainAt(0, 1)", 2);
        Edge.answers(x, "chainAt(2, 0)", 3);

        Edge.says(20, "NONE: 1 (i, too).");
        Edge.refuses(x, "chainAt(0, 2)", 1);
        Edge.refuses(x, "chainAt(0, -1)", 1);
        Edge.refuses(x, "chainAt(0, MIN)", 1);
        Edge.refuses(x, "chainAt(0, MAX)", 1);
        Edge.refuses(x, "chainAt(3, 0)", 1);
        Edge.refuses(x, "chainAt(-1, 0)", 1);
        Edge.refuses(x, "chainAt(-2, 0)", 1);
        Edge.refuses(x, "chainAt(MAX, 0)", 1);
        Edge.does(x, "gone(1)", "clear()");
        Edge.refuses(x, "chainAt(2, 0)", 1);
        Edge.refuses(new StampedRows(), "chainAt(0, 0)", 1);
    }

    private static void seenBy() {
        Edge.says(21, "SLOTS of WRITERS who SEE a VERSION (it need not be the last such), as bits.");
        StampedRows x = Edge.stored(TWO);
        int[] due = {2, 1, 1, 2};
        for (int v = 0; v < due.length; v++) {
            Edge.answers(x, "seenBy(" + v + ")", due[v]);
        }
        // 0 isn't the last of its CHAIN, but c still SEES it
        Edge.does(x, "done(0)", "begin()");
        Edge.answers(x, "seenBy(0)", 2);
        Edge.answers(x, "seenBy(2)", 1);
        StampedRows six = Edge.stored("store ring 64 rows 1 start 0 crash 0;begin z;put z 0 1;done z;begin a;begin b;begin c;"
            + "begin d;begin e;begin f");
        Edge.answers(six, "seenBy(0)", 63);
        Edge.answers(Edge.stored(HEAD + ";begin z;put z 0 1;done z"), "seenBy(0)", 0);

        Edge.says(21, "NONE: 1.");
        for (String v : new String[] {"-1", "4", "47", "48", "MIN", "MAX"}) {
            Edge.refuses(x, "seenBy(" + v + ")", 1);
        }
        Edge.refuses(new StampedRows(), "seenBy(0)", 1);
    }

    private static void dead() {
        Edge.says(22, "How many VERSIONS are DEAD.");
        Edge.answers(Edge.stored(HEAD), "dead()", 0);
        StampedRows x = Edge.stored(TWO);
        Edge.answers(x, "dead()", 0);
        Edge.does(x, "gone(1)");
        Edge.answers(x, "dead()", 1);
        Edge.does(x, "done(0)");
        Edge.answers(x, "dead()", 2);
        Edge.does(x, "clear()");
        Edge.answers(x, "dead()", 0);
        // DEAD by FROM and by TILL is counted once
        StampedRows once = Edge.stored(HEAD + ";begin a;put a 0 1;drop a 0;gone a");
        Edge.answers(once, "dead()", 1);
        StampedRows done = Edge.stored(HEAD + ";begin a;put a 0 1;drop a 0;done a");
        Edge.answers(done, "dead()", 1);

        Edge.says(22, "NONE: 1 (no STORE).");
        Edge.refuses(new StampedRows(), "dead()", 1);
    }

    private static void freezes() {
        Edge.says(23, "How many FREEZE would change (FROZEN, or without TILL then).");
        Edge.answers(Edge.stored(HEAD), "freezes()", 0);
        StampedRows x = Edge.stored(TWO);
        // both of a's; b's and c's aren't done
        Edge.answers(x, "freezes()", 2);
        Edge.does(x, "gone(1)");
        // the second is both: it is counted once
        Edge.answers(x, "freezes()", 2);
        Edge.does(x, "freeze()");
        Edge.answers(x, "freezes()", 0);
        Edge.does(x, "gone(0)");
        // the first is FROZEN already, but has the TILL of one gone
        Edge.answers(x, "freezes()", 1);
        Edge.answers(x, "version(0, 5)", 0);

        Edge.says(23, "NONE: 1 (no STORE).");
        Edge.refuses(new StampedRows(), "freezes()", 1);
    }

    private static void sees() {
        Edge.says(24, "The VERSION of a ROW that a WRITER SEES;");
        StampedRows x = Edge.stored(TWO);
        Edge.answers(x, "sees(0, 0)", 2);
        Edge.answers(x, "sees(1, 0)", 0);
        Edge.answers(x, "sees(0, 1)", 1);

        Edge.says(24, "-2 none.");
        Edge.answers(x, "sees(1, 1)", -2);
        Edge.answers(x, "sees(0, 2)", -2);

        Edge.says(24, "NONE: 1.");
        noRow(x, "sees(0, ");
        nobody(x, "sees", ", 0");
    }

    private static void read() {
        Edge.says(25, "Its value;");
        StampedRows x = Edge.stored(TWO);
        Edge.answers(x, "read(0, 0)", 11);
        Edge.answers(x, "read(1, 0)", 10);
        Edge.does(x, "put(0, 0, 0)");
        Edge.answers(x, "read(0, 0)", 0);

        Edge.says(25, "-2.");
        Edge.answers(x, "read(1, 1)", -2);
        Edge.answers(x, "read(0, 2)", -2);

        Edge.says(25, "NONE: 1.");
        noRow(x, "read(1, ");
        nobody(x, "read", ", 0");
    }

    private static void sum() {
        Edge.says(26, "The sum of all values he SEES.");
        StampedRows x = Edge.stored(TWO);
        Edge.answers(x, "sum(0)", 31);
        Edge.answers(x, "sum(1)", 32);
        Edge.answers(Edge.stored(TermEdges.SPARSE), "sum(0)", 15);
        Edge.answers(Edge.stored(HEAD + ";begin a"), "sum(0)", 0);
        StampedRows most = Edge.stored("store ring 8 rows 8 start 0 crash 0;begin a;put a 0 999;put a 1 999;put a 2 999;"
            + "put a 3 999;put a 4 999;put a 5 999;put a 6 999;put a 7 999");
        Edge.answers(most, "sum(0)", 7992);

        Edge.says(26, "NONE: 1.");
        nobody(x, "sum", "");
    }

    private static void differ() {
        Edge.says(27, "ROWS in which two WRITERS don't SEE the same VERSION, as bits.");
        StampedRows x = Edge.stored(TWO);
        Edge.answers(x, "differ(0, 1)", 7);
        Edge.answers(x, "differ(1, 0)", 7);
        Edge.answers(x, "differ(0, 0)", 0);
        // the same value, but another VERSION
        Edge.does(x, "put(0, 0, 10)", "gone(1)", "begin()");
        Edge.answers(x, "differ(0, 1)", 1);
        StampedRows none = Edge.stored("store ring 8 rows 8 start 0 crash 0;begin a;begin b;put b 7 0");
        Edge.answers(none, "differ(0, 1)", 128);

        Edge.says(27, "NONE: 1.");
        nobody(x, "differ", ", 0");
        for (String w : new String[] {"-1", "2", "5", "6", "MIN", "MAX"}) {
            Edge.refuses(x, "differ(0, " + w + ")", 1);
        }
        Edge.refuses(x, "differ(2, 2)", 1);
    }

    private static void fresh() {
        Edge.says(28, "The value of a ROW that a FRESH reader would SEE;");
        StampedRows x = Edge.stored(TWO);
        Edge.answers(x, "fresh(0)", 10);
        Edge.answers(x, "fresh(1)", 20);

        Edge.says(28, "-2.");
        Edge.answers(x, "fresh(2)", -2);
        Edge.does(x, "done(1)");
        Edge.answers(x, "fresh(1)", -2);

        Edge.says(28, "NONE: 1.");
        noRow(x, "fresh(");
        Edge.refuses(new StampedRows(), "fresh(0)", 1);

        Edge.says(29, "The sum of all of them.");
        Edge.answers(x, "freshSum()", 32);
        Edge.does(x, "done(0)");
        Edge.answers(x, "freshSum()", 33);
        Edge.answers(Edge.stored(HEAD), "freshSum()", 0);

        Edge.says(29, "NONE: 1 (no STORE).");
        Edge.refuses(new StampedRows(), "freshSum()", 1);
    }

    /** STAMPS: a 8, b 9, c 0, all DONE; d 1 runs, e 2 is GONE. */
    private static StampedRows history() {
        return Edge.stored("store ring 10 rows 3 start 8 crash 0;begin a;put a 0 10;done a;begin b;put b 0 11;put b 1 5;"
            + "done b;begin c;drop c 0;put c 1 5;done c;begin d;begin e;put d 1 6;put e 2 7;gone e");
    }

    private static void asOf() {
        Edge.says(30, "The value of a ROW as of a STAMP: were only those of WRITERS DONE that are OLDER than it to COUNT");
        StampedRows x = history();
        int[] first = {11, -2, -2, -2, -2, -2, -2, -2, -2, 10};
        // c's is OLDER up to 5
        int[] second = {5, 5, 5, 5, 5, 5, -2, -2, -2, -2};
        for (int stamp = 0; stamp < 10; stamp++) {
            Edge.answers(x, "asOf(" + stamp + ", 0)", first[stamp]);
            Edge.answers(x, "asOf(" + stamp + ", 1)", second[stamp]);
        }
        Edge.answers(x, "asOf(3, 2)", -2);
        // half the ring is OLDER still, one more isn't
        StampedRows half = Edge.stored(HEAD + ";begin a;put a 0 1;done a");
        Edge.answers(half, "asOf(4, 0)", 1);
        Edge.answers(half, "asOf(5, 0)", -2);

        Edge.says(30, "(FROZEN VERSIONS being FROZEN);");
        Edge.does(half, "freeze()");
        Edge.answers(half, "asOf(5, 0)", 1);
        Edge.answers(half, "asOf(0, 0)", 1);
        Edge.does(x, "freeze()");
        Edge.answers(x, "asOf(6, 1)", 5);

        Edge.says(30, "-2.");
        Edge.answers(history(), "asOf(8, 0)", -2);
        Edge.answers(half, "asOf(5, 2)", -2);

        Edge.says(30, "NONE: 1;");
        noRow(x, "asOf(0, ");
        Edge.refuses(x, "asOf(10, 3)", 1);
        Edge.refuses(new StampedRows(), "asOf(0, 0)", 1);

        Edge.says(30, "2 (no STAMP).");
        for (String stamp : new String[] {"-1", "10", "MIN", "MAX"}) {
            Edge.refuses(x, "asOf(" + stamp + ", 0)", 2);
        }
    }

    private static void changed() {
        Edge.says(31, "ROWS that were not the same (value, or none) as of two STAMPS, as bits.");
        StampedRows x = history();
        Edge.answers(x, "changed(8, 9)", 1);
        Edge.answers(x, "changed(9, 0)", 3);
        // c made another VERSION of the same value
        Edge.answers(x, "changed(0, 1)", 1);
        Edge.answers(x, "changed(1, 0)", 1);
        Edge.answers(x, "changed(1, 2)", 0);
        Edge.answers(x, "changed(0, 0)", 0);
        StampedRows last = Edge.stored("store ring 8 rows 8 start 0 crash 0;begin a;put a 7 0;done a");
        Edge.answers(last, "changed(0, 1)", 128);

        Edge.says(31, "NONE: 1 (no STORE);");
        Edge.refuses(new StampedRows(), "changed(0, 0)", 1);
        Edge.refuses(new StampedRows(), "changed(-1, 64)", 1);

        Edge.says(31, "2 (no STAMP).");
        for (String stamp : new String[] {"-1", "10", "MIN", "MAX"}) {
            Edge.refuses(x, "changed(" + stamp + ", 0)", 2);
            Edge.refuses(x, "changed(0, " + stamp + ")", 2);
        }
    }

    private static void may() {
        Edge.says(32, "0 if a WRITER can PUT in a ROW (a number free or not),");
        StampedRows x = Edge.stored(TWO);
        Edge.answers(x, "may(0, 0)", 0);
        Edge.answers(x, "may(1, 1)", 0);
        StampedRows full = TermEdges.full();
        Edge.answers(full, "may(0, 0)", 0);
        Edge.refuses(full, "may(0, 8)", 1);

        Edge.says(32, "1 if he is HELD,");
        Edge.answers(x, "may(0, 1)", 1);
        Edge.answers(x, "may(0, 2)", 1);
        Edge.answers(x, "may(1, 0)", 1);

        Edge.says(32, "2 if he has LOST by it,");
        Edge.does(x, "done(1)");
        Edge.answers(x, "may(0, 1)", 2);
        Edge.answers(x, "may(0, 2)", 2);
        Edge.answers(x, "writer(0, 1)", 0);

        Edge.says(32, "3 if he has LOST already.");
        Edge.answers(x, "put(0, 1, 1)", -2);
        for (int row = 0; row < 3; row++) {
            Edge.answers(x, "may(0, " + row + ")", 3);
        }
        Edge.does(x, "begin()", "put(1, 1, 3)");
        Edge.answers(x, "may(0, 1)", 3);

        Edge.says(32, "NONE: 1.");
        noRow(x, "may(0, ");
        nobody(x, "may", ", 0");
    }

    private static void waitsFor() {
        Edge.says(33, "The SLOT of the WRITER by whom he is HELD;");
        StampedRows x = Edge.stored(TWO);
        Edge.answers(x, "waitsFor(0, 1)", 1);
        Edge.answers(x, "waitsFor(0, 2)", 1);
        Edge.answers(x, "waitsFor(1, 0)", 0);
        StampedRows six = Edge.stored("store ring 64 rows 6 start 0 crash 0;" + TermEdges.SIX);
        for (int w = 1; w < 6; w++) {
            Edge.answers(six, "waitsFor(0, " + w + ")", w);
        }

        Edge.says(33, "-2 he isn't (or has LOST already).");
        Edge.answers(x, "waitsFor(0, 0)", -2);
        Edge.answers(x, "waitsFor(1, 1)", -2);
        Edge.does(x, "done(1)");
        Edge.answers(x, "waitsFor(0, 1)", -2);
        Edge.answers(x, "put(0, 1, 1)", -2);
        Edge.does(x, "begin()", "put(1, 2, 3)");
        // he would be HELD by it, had he not LOST
        Edge.answers(x, "waitsFor(0, 2)", -2);

        Edge.says(33, "NONE: 1.");
        noRow(x, "waitsFor(0, ");
        nobody(x, "waitsFor", ", 0");
    }

    private static void openAndLoses() {
        Edge.says(34, "ROWS in which he could PUT, as bits");
        StampedRows x = Edge.stored(TWO);
        Edge.answers(x, "open(0)", 1);
        Edge.answers(x, "open(1)", 6);
        Edge.answers(Edge.stored("store ring 8 rows 8 start 0 crash 0;begin a"), "open(0)", 255);
        Edge.answers(Edge.stored("store ring 8 rows 1 start 0 crash 0;begin a"), "open(0)", 1);

        Edge.says(35, "ROWS in which he would have LOST by it, as bits");
        Edge.answers(x, "loses(0)", 0);
        Edge.does(x, "done(1)");
        Edge.answers(x, "loses(0)", 6);
        Edge.answers(x, "open(0)", 1);

        Edge.says(34, "(none if he has LOST).");
        Edge.answers(x, "drop(0, 1)", -2);
        Edge.answers(x, "open(0)", 0);

        Edge.says(35, "(none if he has LOST already).");
        Edge.answers(x, "loses(0)", 0);

        Edge.says(34, "NONE: 1.");
        nobody(x, "open", "");

        Edge.says(35, "NONE: 1.");
        nobody(x, "loses", "");
    }
}
