/** Sentences of promises 36 to 48: unsure ends, wait or yield, crashes. */
final class UnsureEdges {
    private static final String HEAD = "store ring 8 rows 3 start 0 crash 0";
    private static final String TWO = HEAD + ";begin a;put a 0 1;done a;begin b;put b 1 2;gone b;unsure b;unsure a";

    /** 5 was seen, of a, of b, or of both. */
    private static final String EITHER = HEAD + ";begin a;put a 0 5;gone a;begin b;put b 0 5;gone b;unsure a;unsure b;seen 0 5";

    private UnsureEdges() {
    }

    static void run() {
        fits();
        fitAt();
        could();
        surely();
        ask();
        askLeaves();
        judge();
        waits();
        rests();
        rest();
        odds();
        mean();
        drawn();
    }

    private static void fits() {
        Edge.says(36, "FITS: how many.");
        Edge.answers(Edge.stored(TWO), "fits()", 4);
        Edge.answers(Edge.stored(TWO + ";seen 0 1"), "fits()", 2);
        Edge.answers(Edge.stored(TWO + ";seen 0 1;seen 1 2;seen 2 none"), "fits()", 1);
        Edge.answers(Edge.stored(TWO + ";seen 2 0"), "fits()", 0);
        // without an unsure WRITER the empty set is the only one
        Edge.answers(Edge.stored(HEAD), "fits()", 1);
        Edge.answers(Edge.stored(HEAD + ";seen 0 none"), "fits()", 1);
        Edge.answers(Edge.stored(HEAD + ";seen 0 0"), "fits()", 0);

        Edge.says(36, "NONE: 1 (no STORE).");
        Edge.refuses(new StampedRows(), "fits()", 1);
    }

    private static void fitAt() {
        Edge.says(37, "The i-th, by bits of unsure WRITERS as told.");
        StampedRows x = Edge.stored(TWO);
        for (int i = 0; i < 4; i++) {
            Edge.answers(x, "fitAt(" + i + ")", i);
        }
        // b was told first: his is the lowest bit
        StampedRows y = Edge.stored(TWO + ";seen 1 2");
        Edge.answers(y, "fitAt(0)", 1);
        Edge.answers(y, "fitAt(1)", 3);
        Edge.answers(Edge.stored(HEAD), "fitAt(0)", 0);
        StampedRows either = Edge.stored(EITHER);
        for (int i = 0; i < 3; i++) {
            Edge.answers(either, "fitAt(" + i + ")", i + 1);
        }
        StampedRows most = Edge.stored(HEAD + ";begin a;done a;begin b;done b;begin c;done c;begin d;done d;unsure a;unsure b;"
            + "unsure c;unsure d");
        Edge.answers(most, "fitAt(15)", 15);

        Edge.says(37, "NONE: 1 (i, too).");
        Edge.refuses(x, "fitAt(4)", 1);
        Edge.refuses(x, "fitAt(-1)", 1);
        Edge.refuses(x, "fitAt(MIN)", 1);
        Edge.refuses(x, "fitAt(MAX)", 1);
        Edge.refuses(y, "fitAt(2)", 1);
        Edge.refuses(most, "fitAt(16)", 1);
        Edge.refuses(Edge.stored(HEAD + ";seen 0 0"), "fitAt(0)", 1);
        Edge.refuses(new StampedRows(), "fitAt(0)", 1);
    }

    private static void could() {
        Edge.says(38, "Unsure WRITERS in some, as bits.");
        Edge.answers(Edge.stored(TWO), "could()", 3);
        Edge.answers(Edge.stored(TWO + ";seen 0 1"), "could()", 1);
        Edge.answers(Edge.stored(TWO + ";seen 0 1;seen 1 none"), "could()", 0);
        Edge.answers(Edge.stored(TWO + ";seen 0 1;seen 1 2"), "could()", 1);
        Edge.answers(Edge.stored(EITHER), "could()", 3);
        Edge.answers(Edge.stored(TWO + ";seen 2 5"), "could()", 0);
        Edge.answers(Edge.stored(HEAD), "could()", 0);

        Edge.says(38, "NONE: 1 (no STORE).");
        Edge.refuses(new StampedRows(), "could()", 1);
    }

    private static void surely() {
        Edge.says(39, "Unsure WRITERS in all");
        Edge.answers(Edge.stored(TWO), "surely()", 0);
        Edge.answers(Edge.stored(TWO + ";seen 0 none"), "surely()", 2);
        Edge.answers(Edge.stored(TWO + ";seen 0 none;seen 1 2"), "surely()", 3);
        Edge.answers(Edge.stored(EITHER), "surely()", 0);

        Edge.says(39, "(0 without a set), as bits.");
        Edge.answers(Edge.stored(TWO + ";seen 2 5"), "surely()", 0);
        Edge.answers(Edge.stored(HEAD + ";seen 2 5"), "surely()", 0);

        Edge.says(39, "NONE: 1 (no STORE).");
        Edge.refuses(new StampedRows(), "surely()", 1);
    }

    private static void ask() {
        Edge.says(40, "ASK;");
        Edge.answers(Edge.stored(TWO), "ask()", 0);
        // b's end is known by what was seen, so a is asked for
        Edge.answers(Edge.stored(TWO + ";seen 1 2"), "ask()", 1);
        Edge.answers(Edge.stored(TWO + ";seen 1 2;seen 0 none"), "ask()", 0);

        Edge.says(40, "-2 no FITS, no unsure WRITER.");
        Edge.answers(Edge.stored(TWO + ";seen 2 5"), "ask()", -2);
        Edge.answers(Edge.stored(HEAD), "ask()", -2);
        Edge.answers(Edge.stored(HEAD + ";seen 0 5"), "ask()", -2);

        Edge.says(40, "NONE: 1 (no STORE).");
        Edge.refuses(new StampedRows(), "ask()", 1);
    }

    private static void askLeaves() {
        Edge.says(41, "How many are left at most then;");
        Edge.answers(Edge.stored(TWO), "askLeaves()", 2);
        Edge.answers(Edge.stored(TWO + ";seen 1 2"), "askLeaves()", 1);
        // it is known already: the one FIT is left
        Edge.answers(Edge.stored(TWO + ";seen 1 2;seen 0 none"), "askLeaves()", 1);
        // 5 by a or by b: a told leaves one of three, or two
        Edge.answers(Edge.stored(HEAD + ";begin a;put a 0 5;done a;begin b;put b 0 5;done b;unsure a;unsure b;seen 0 5"),
            "askLeaves()", 2);

        Edge.says(41, "-2 likewise.");
        Edge.answers(Edge.stored(TWO + ";seen 2 5"), "askLeaves()", -2);
        Edge.answers(Edge.stored(HEAD), "askLeaves()", -2);

        Edge.says(41, "NONE: 1 (no STORE).");
        Edge.refuses(new StampedRows(), "askLeaves()", 1);
    }

    private static void judge() {
        Edge.says(42, "The first seen, as told, that isn't so by ends as told;");
        Edge.answers(Edge.stored(TWO + ";seen 2 none;seen 1 2;seen 0 9"), "judge()", 1);
        Edge.answers(Edge.stored(TWO + ";seen 2 none;seen 1 none;seen 0 none"), "judge()", 2);
        Edge.answers(Edge.stored(TWO + ";seen 0 none;seen 1 2"), "judge()", 0);
        Edge.answers(Edge.stored("store ring 8 rows 8 start 0 crash 0;seen 7 none;seen 6 none;seen 5 none;seen 4 none;"
            + "seen 3 none;seen 2 none;seen 1 none;seen 0 0"), "judge()", 7);

        Edge.says(42, "-2.");
        Edge.answers(Edge.stored(TWO), "judge()", -2);
        StampedRows x = Edge.stored(TWO + ";seen 0 1;seen 1 none");
        Edge.answers(x, "judge()", -2);
        // what is put later was not seen
        Edge.does(x, "begin()", "put(0, 0, 9)", "done(0)");
        Edge.answers(x, "judge()", -2);

        Edge.says(42, "NONE: 1 (no STORE).");
        Edge.refuses(new StampedRows(), "judge()", 1);
    }

    private static void waits() {
        Edge.says(43, "What the one (or ofOther, the other) has if each waits or yields, and cost is so much (0 .. 9).");
        StampedRows x = Edge.stored(HEAD);
        for (int cost = 0; cost <= 9; cost++) {
            Edge.answers(x, "waits(" + cost + ", true, true, false)", -cost);
            Edge.answers(x, "waits(" + cost + ", true, false, false)", 4);
            Edge.answers(x, "waits(" + cost + ", true, false, true)", 1);
            Edge.answers(x, "waits(" + cost + ", false, true, true)", 4);
        }

        Edge.says(43, "-100: 1 (no STORE);");
        Edge.refuses(new StampedRows(), "waits(0, true, true, true)", -100, 1);
        Edge.refuses(new StampedRows(), "waits(10, false, false, false)", -100, 1);

        Edge.says(43, "2.");
        for (String cost : new String[] {"-1", "10", "MIN", "MAX"}) {
            Edge.refuses(x, "waits(" + cost + ", true, true, false)", -100, 2);
            Edge.refuses(x, "waits(" + cost + ", false, false, true)", -100, 2);
        }
    }

    private static void rests() {
        Edge.says(44, "How many RESTS.");
        StampedRows x = Edge.stored(HEAD);
        for (int cost = 0; cost <= 9; cost++) {
            Edge.answers(x, "rests(" + cost + ")", 2);
        }

        Edge.says(44, "NONE: 1 (no STORE);");
        Edge.refuses(new StampedRows(), "rests(0)", 1);
        Edge.refuses(new StampedRows(), "rests(10)", 1);

        Edge.says(44, "2.");
        for (String cost : new String[] {"-1", "10", "MIN", "MAX"}) {
            Edge.refuses(x, "rests(" + cost + ")", 2);
        }
    }

    private static void rest() {
        Edge.says(45, "The first (yielding ahead, the one's first): 10 if the one waits, and 1 if the other does; -2.");
        StampedRows x = Edge.stored(HEAD);
        for (int cost = 0; cost <= 9; cost++) {
            Edge.answers(x, "rest(" + cost + ")", 1);
        }

        Edge.says(45, "NONE: likewise.");
        Edge.refuses(new StampedRows(), "rest(0)", 1);
        Edge.refuses(new StampedRows(), "rest(-1)", 1);
        for (String cost : new String[] {"-1", "10", "MIN", "MAX"}) {
            Edge.refuses(x, "rest(" + cost + ")", 2);
        }
    }

    private static void odds() {
        Edge.says(46, "How likely a FRESH reader behind a CRASH SEES a value (0 .. 999) in a ROW,");
        StampedRows x = Edge.stored("store ring 8 rows 3 start 0 crash 30;begin a;put a 0 0;put a 1 999;done a;begin b;"
            + "put b 0 7;begin c;drop c 1");
        Edge.answers(x, "odds(0, 0, false)", 3);
        Edge.answers(x, "odds(0, 7, false)", 7);
        Edge.answers(x, "odds(1, 999, false)", 3);
        Edge.answers(x, "odds(2, 0, false)", 0);

        Edge.says(46, "the upper WHOLE or the lower, in lowest terms");
        Edge.answers(x, "odds(0, 0, true)", 10);
        Edge.answers(x, "odds(0, 7, true)", 10);
        StampedRows prime = Edge.stored("store ring 8 rows 1 start 0 crash 3;begin a;put a 0 1");
        Edge.answers(prime, "odds(0, 1, false)", 97);
        Edge.answers(prime, "odds(0, 1, true)", 100);
        StampedRows sure = Edge.stored("store ring 8 rows 1 start 0 crash 3;begin a;put a 0 1;done a;begin b");
        Edge.answers(sure, "odds(0, 1, false)", 1);
        Edge.answers(sure, "odds(0, 1, true)", 1);
        StampedRows six = Edge.stored("store ring 64 rows 1 start 0 crash 50;begin a;begin b;begin c;begin d;begin e;begin f;"
            + "put f 0 1");
        Edge.answers(six, "odds(0, 1, false)", 1);
        Edge.answers(six, "odds(0, 1, true)", 2);

        Edge.says(46, "(0 by 1).");
        Edge.answers(x, "odds(0, 1, false)", 0);
        Edge.answers(x, "odds(0, 1, true)", 1);
        Edge.answers(x, "odds(2, 999, false)", 0);
        Edge.answers(x, "odds(2, 999, true)", 1);

        Edge.says(46, "-1: 1;");
        for (String row : new String[] {"-1", "3", "MIN", "MAX"}) {
            Edge.refuses(x, "odds(" + row + ", 0, true)", 1);
        }
        Edge.refuses(x, "odds(3, 1000, false)", 1);
        Edge.refuses(new StampedRows(), "odds(0, 0, false)", 1);

        Edge.says(46, "2.");
        for (String value : new String[] {"-1", "-2", "1000", "MIN", "MAX"}) {
            Edge.refuses(x, "odds(0, " + value + ", false)", 2);
            Edge.refuses(x, "odds(2, " + value + ", true)", 2);
        }
    }

    private static void mean() {
        Edge.says(47, "The mean of the sum of all that he SEES, likewise.");
        StampedRows x = Edge.stored("store ring 8 rows 3 start 0 crash 30;begin a;put a 0 10;done a;begin b;put b 0 20;"
            + "begin c;put c 1 8");
        // 3 and 14 and 5.6
        Edge.answers(x, "mean(false)", 113);
        Edge.answers(x, "mean(true)", 5);
        StampedRows none = Edge.stored("store ring 8 rows 1 start 0 crash 30");
        Edge.answers(none, "mean(false)", 0);
        Edge.answers(none, "mean(true)", 1);
        StampedRows most = Edge.stored("store ring 64 rows 8 start 0 crash 1;begin a;begin b;begin c;begin d;begin e;begin f;"
            + "put a 0 999;put b 1 999;put c 2 999;put d 3 999;put e 4 999;put f 5 999;put f 6 999;put f 7 999");
        Edge.answers(most, "mean(false)", 197802);
        Edge.answers(most, "mean(true)", 25);
        StampedRows odd = Edge.stored("store ring 64 rows 8 start 0 crash 1;begin a;begin b;begin c;begin d;begin e;begin f;"
            + "put a 0 1");
        Edge.answers(odd, "mean(false)", 99);
        Edge.answers(odd, "mean(true)", 100);

        Edge.says(47, "-1: 1 (no STORE).");
        Edge.refuses(new StampedRows(), "mean(false)", 1);
        Edge.refuses(new StampedRows(), "mean(true)", 1);
    }

    private static void drawn() {
        Edge.says(48, "That sum by a SEED (0 .. 65,536).");
        String two = "begin r;put r 0 1;done r;begin a;begin b;put a 0 5;put b 1 10";
        // 0: 74, 24; 65,536: 36, 36
        StampedRows x = Edge.stored("store ring 8 rows 2 start 0 crash 50;" + two);
        Edge.answers(x, "drawn(0)", 5);
        Edge.answers(x, "drawn(65536)", 1);
        StampedRows less = Edge.stored("store ring 8 rows 2 start 0 crash 36;" + two);
        Edge.answers(less, "drawn(0)", 5);
        Edge.answers(less, "drawn(65536)", 15);
        Edge.answers(Edge.stored("store ring 8 rows 2 start 0 crash 100;" + two), "drawn(0)", 1);
        Edge.answers(Edge.stored("store ring 8 rows 2 start 0 crash 0;" + two), "drawn(65536)", 15);
        Edge.answers(Edge.stored("store ring 8 rows 2 start 0 crash 0"), "drawn(0)", 0);

        Edge.says(48, "NONE: 1 (no STORE);");
        Edge.refuses(new StampedRows(), "drawn(0)", 1);
        Edge.refuses(new StampedRows(), "drawn(-1)", 1);

        Edge.says(48, "2.");
        for (String seed : new String[] {"-1", "65537", "MIN", "MAX"}) {
            Edge.refuses(x, "drawn(" + seed + ")", 2);
        }
    }
}
