/** Sentences of promises 6 to 17: stamps and writers. */
final class StampEdges {
    private static final String HEAD = "store ring 8 rows 3 start 0 crash 0";
    private static final String SIX = "store ring 64 rows 1 start 0 crash 0;begin a;begin b;begin c;begin d;begin e;begin f";

    private StampEdges() {
    }

    static void run() {
        next();
        age();
        older();
        oldest();
        room();
        roomFrozen();
        horizon();
        writer();
        running();
        counts();
        holdsBack();
        frees();
    }

    private static void next() {
        Edge.says(6, "The NEXT STAMP.");
        StampedRows x = Edge.stored("store ring 8 rows 1 start 7 crash 0");
        Edge.answers(x, "next()", 7);
        TermEdges.pass(x, 1);
        Edge.answers(x, "next()", 0);
        TermEdges.pass(x, 7);
        Edge.answers(x, "next()", 7);

        Edge.says(6, "NONE: 1 (no STORE).");
        Edge.refuses(new StampedRows(), "next()", 1);
    }

    private static void age() {
        Edge.says(7, "AGE of a STAMP.");
        StampedRows x = Edge.stored("store ring 64 rows 1 start 10 crash 0");
        Edge.answers(x, "age(10)", 0);
        Edge.answers(x, "age(9)", 1);
        Edge.answers(x, "age(0)", 10);
        Edge.answers(x, "age(63)", 11);
        Edge.answers(x, "age(11)", 63);

        Edge.says(7, "NONE: 1 (no STORE);");
        Edge.refuses(new StampedRows(), "age(0)", 1);
        Edge.refuses(new StampedRows(), "age(-1)", 1);
        Edge.refuses(new StampedRows(), "age(64)", 1);

        Edge.says(7, "2 (no STAMP).");
        Edge.refuses(x, "age(-1)", 2);
        Edge.refuses(x, "age(64)", 2);
        Edge.refuses(x, "age(MIN)", 2);
        Edge.refuses(x, "age(MAX)", 2);
        Edge.refuses(Edge.stored(HEAD), "age(8)", 2);
    }

    private static void older() {
        Edge.says(8, "1 if one STAMP is OLDER than another one, else 0.");
        StampedRows x = Edge.stored(HEAD);
        Edge.answers(x, "older(7, 0)", 1);
        Edge.answers(x, "older(0, 7)", 0);
        Edge.answers(x, "older(7, 3)", 1);
        Edge.answers(x, "older(3, 7)", 1);
        Edge.answers(x, "older(7, 4)", 0);
        Edge.answers(x, "older(4, 4)", 0);

        Edge.says(8, "NONE: 1 (no STORE);");
        Edge.refuses(new StampedRows(), "older(0, 1)", 1);
        Edge.refuses(new StampedRows(), "older(-1, 64)", 1);

        Edge.says(8, "2 (no STAMP).");
        Edge.refuses(x, "older(-1, 0)", 2);
        Edge.refuses(x, "older(0, -1)", 2);
        Edge.refuses(x, "older(8, 0)", 2);
        Edge.refuses(x, "older(0, 8)", 2);
        Edge.refuses(x, "older(MIN, MAX)", 2);
        Edge.refuses(x, "older(0, MAX)", 2);
        Edge.refuses(x, "older(MAX, 0)", 2);
    }

    private static void oldest() {
        Edge.says(9, "The greatest AGE of a STAMP IN USE;");
        StampedRows x = Edge.stored("store ring 8 rows 1 start 6 crash 0;begin a");
        Edge.answers(x, "oldest()", 1);
        TermEdges.pass(x, 3);
        Edge.answers(x, "oldest()", 4);

        Edge.says(9, "-2 none is.");
        Edge.answers(Edge.stored(HEAD), "oldest()", -2);
        Edge.does(x, "gone(0)");
        Edge.answers(x, "oldest()", -2);

        Edge.says(9, "NONE: 1 (no STORE).");
        Edge.refuses(new StampedRows(), "oldest()", 1);
    }

    private static void room() {
        Edge.says(10, "How many could BEGIN, each DONE at once, nothing put, till one couldn't");
        for (int ring : new int[] {8, 10, 64}) {
            String head = "store ring " + ring + " rows 1 start 0 crash 0;begin a";
            for (String end : new String[] {"", ";put a 0 1;done a", ";begin b;begin c;begin d;gone a"}) {
                StampedRows x = Edge.stored(head + end);
                int room = x.room();
                Edge.isTrue("there is room", room >= 0);
                TermEdges.pass(x, room);
                Edge.same("begin() then", x.begin(), -1);
                Edge.answers(x, "room()", 0);
            }
        }
        Edge.answers(Edge.stored(HEAD + ";begin a"), "room()", 3);
        Edge.answers(Edge.stored("store ring 64 rows 1 start 60 crash 0;begin a"), "room()", 31);

        Edge.says(10, "(0 if six RUN);");
        StampedRows six = Edge.stored(SIX);
        Edge.answers(six, "room()", 0);
        Edge.does(six, "done(5)");
        Edge.answers(six, "room()", 26);

        Edge.says(10, "-2 no STAMP is IN USE.");
        Edge.answers(Edge.stored(HEAD), "room()", -2);
        Edge.answers(Edge.stored(HEAD + ";begin a;done a"), "room()", -2);
        Edge.answers(Edge.stored(HEAD + ";begin a;put a 0 1;done a;freeze"), "room()", -2);

        Edge.says(10, "NONE: 1 (no STORE).");
        Edge.refuses(new StampedRows(), "room()", 1);
    }

    private static void roomFrozen() {
        Edge.says(11, "The same, were all CLEARED and FROZEN ahead.");
        String made = HEAD + ";begin a;put a 0 1;done a;begin b;drop b 0;done b";
        StampedRows x = Edge.stored(made);
        Edge.answers(x, "room()", 2);
        Edge.answers(x, "roomFrozen()", -2);
        Edge.does(x, "begin()");
        Edge.answers(x, "roomFrozen()", 3);
        StampedRows tillGone = Edge.stored(HEAD + ";begin a;put a 0 1;done a;begin b;drop b 0;gone b;begin c;put c 1 1;gone c");
        Edge.answers(tillGone, "room()", 1);
        Edge.answers(tillGone, "roomFrozen()", -2);
        StampedRows back = Edge.stored(HEAD + ";begin r;begin a;put a 0 1;done a");
        Edge.answers(back, "roomFrozen()", 2);
        for (String text : new String[] {made + ";begin c", HEAD + ";begin a;put a 0 1;begin r;done a;begin b;drop b 0;gone b",
            HEAD + ";begin a;put a 0 1;gone a;begin b;begin c;done b"}) {
            StampedRows y = Edge.stored(text);
            int frozen = y.roomFrozen();
            y.clear();
            y.freeze();
            Edge.answers(y, "room()", frozen);
            Edge.answers(y, "roomFrozen()", frozen);
        }
        Edge.answers(Edge.stored(HEAD), "roomFrozen()", -2);
        Edge.answers(Edge.stored(SIX), "roomFrozen()", 0);
        StampedRows half = Edge.stored(HEAD + ";begin a;begin b;done b;begin c;done c;begin d;done d");
        Edge.answers(half, "roomFrozen()", 0);

        Edge.says(11, "NONE: 1 (no STORE).");
        Edge.refuses(new StampedRows(), "roomFrozen()", 1);
    }

    private static void horizon() {
        Edge.says(12, "HORIZON.");
        StampedRows x = Edge.stored("store ring 8 rows 1 start 7 crash 0");
        Edge.answers(x, "horizon()", 7);
        Edge.does(x, "begin()", "begin()", "done(0)");
        Edge.answers(x, "horizon()", 7);
        Edge.does(x, "done(1)");
        Edge.answers(x, "horizon()", 1);

        Edge.says(12, "NONE: 1 (no STORE).");
        Edge.refuses(new StampedRows(), "horizon()", 1);
    }

    private static void writer() {
        Edge.says(13, "Of a SLOT whose WRITER RUNS 0 his STAMP, 1 1 if he has LOST, 2 how many STAMPS his SNAPSHOT has, "
            + "3 how many VERSIONS he made, 4 how many have his STAMP as TILL.");
        StampedRows x = Edge.stored("store ring 8 rows 3 start 7 crash 0;begin a;put a 0 1;put a 1 1;done a;begin b;begin c;"
            + "begin d;put b 0 2;put b 0 3;drop b 1;put b 2 1;drop b 2");
        int[] b = {0, 0, 0, 2, 3};
        int[] d = {2, 0, 2, 0, 0};
        for (int what = 0; what < 5; what++) {
            Edge.answers(x, "writer(0, " + what + ")", b[what]);
            Edge.answers(x, "writer(2, " + what + ")", d[what]);
        }
        // the VERSION 0 is one, too
        Edge.answers(Edge.stored(HEAD + ";begin a;put a 0 1"), "writer(0, 3)", 1);
        Edge.answers(Edge.stored(HEAD + ";begin a;put a 0 1;done a;begin b;drop b 0"), "writer(0, 4)", 1);
        StampedRows sparse = Edge.stored(TermEdges.SPARSE + ";drop b 2");
        Edge.answers(sparse, "writer(0, 3)", 2);
        Edge.answers(sparse, "writer(0, 4)", 1);
        Edge.does(x, "done(0)");
        Edge.answers(x, "drop(1, 0)", -2);
        Edge.answers(x, "writer(1, 1)", 1);
        Edge.answers(x, "writer(2, 2)", 2);

        Edge.says(13, "NONE: 1.");
        Edge.refuses(x, "writer(0, 0)", 1);
        Edge.refuses(x, "writer(-1, 0)", 1);
        Edge.refuses(x, "writer(6, 0)", 1);
        Edge.refuses(x, "writer(MIN, 0)", 1);
        Edge.refuses(x, "writer(MAX, 0)", 1);
        Edge.refuses(x, "writer(1, -1)", 1);
        Edge.refuses(x, "writer(1, 5)", 1);
        Edge.refuses(x, "writer(1, MIN)", 1);
        Edge.refuses(x, "writer(1, MAX)", 1);
        Edge.refuses(new StampedRows(), "writer(0, 0)", 1);
        Edge.answers(Edge.stored(SIX), "writer(5, 2)", 5);
    }

    private static void running() {
        Edge.says(14, "SLOTS whose WRITERS RUN, as bits.");
        Edge.answers(Edge.stored(HEAD), "running()", 0);
        StampedRows x = Edge.stored(SIX);
        Edge.answers(x, "running()", 63);
        Edge.does(x, "done(0)", "gone(5)");
        Edge.answers(x, "running()", 30);

        Edge.says(14, "NONE: 1 (no STORE).");
        Edge.refuses(new StampedRows(), "running()", 1);
    }

    private static void counts() {
        Edge.says(15, "1 if a STAMP COUNTS for a WRITER, else 0 (of nobody's, too).");
        StampedRows x = Edge.stored("store ring 8 rows 1 start 6 crash 0;begin a;done a;begin b;gone b;begin c;begin d");
        Edge.answers(x, "counts(1, 6)", 1);
        Edge.answers(x, "counts(1, 7)", 0);
        Edge.answers(x, "counts(1, 0)", 0);
        Edge.answers(x, "counts(1, 1)", 1);
        Edge.answers(x, "counts(1, 2)", 0);
        Edge.answers(x, "counts(1, 5)", 0);
        Edge.does(x, "done(0)");
        Edge.answers(x, "counts(1, 0)", 0);

        Edge.says(15, "NONE: 1;");
        Edge.refuses(x, "counts(0, 0)", 1);
        Edge.refuses(x, "counts(-1, 0)", 1);
        Edge.refuses(x, "counts(6, 0)", 1);
        Edge.refuses(x, "counts(MIN, 0)", 1);
        Edge.refuses(x, "counts(MAX, 8)", 1);
        Edge.refuses(new StampedRows(), "counts(0, 0)", 1);

        Edge.says(15, "2 (no STAMP).");
        Edge.refuses(x, "counts(1, -1)", 2);
        Edge.refuses(x, "counts(1, 8)", 2);
        Edge.refuses(x, "counts(1, 64)", 2);
        Edge.refuses(x, "counts(1, MIN)", 2);
        Edge.refuses(x, "counts(1, MAX)", 2);
    }

    private static void holdsBack() {
        Edge.says(16, "Who holds all back: the SLOT of whose STAMP and SNAPSHOT the greatest AGE is greatest, the first such;");
        StampedRows x = Edge.stored("store ring 8 rows 1 start 7 crash 0;begin a;begin b;begin c;done a");
        // b and c both have a's STAMP in their SNAPSHOTS
        Edge.answers(x, "holdsBack()", 1);
        Edge.does(x, "begin()");
        Edge.answers(x, "holdsBack()", 1);
        Edge.does(x, "gone(1)");
        Edge.answers(x, "holdsBack()", 2);
        Edge.does(x, "gone(2)");
        Edge.answers(x, "holdsBack()", 0);
        // his own STAMP, and another's SNAPSHOT that has it: the first SLOT
        Edge.answers(Edge.stored(HEAD + ";begin a;begin b"), "holdsBack()", 0);
        StampedRows y = Edge.stored(HEAD + ";begin a;begin b;begin c;gone a;begin d;gone b");
        Edge.answers(y, "holdsBack()", 2);
        Edge.answers(Edge.stored(SIX + ";gone a;gone b;gone c;gone d;gone e"), "holdsBack()", 5);

        Edge.says(16, "-2 none RUNS.");
        Edge.answers(Edge.stored(HEAD), "holdsBack()", -2);
        Edge.answers(Edge.stored(HEAD + ";begin a;put a 0 1;done a"), "holdsBack()", -2);

        Edge.says(16, "NONE: 1 (no STORE).");
        Edge.refuses(new StampedRows(), "holdsBack()", 1);
    }

    private static void frees() {
        Edge.says(17, "How many VERSIONS more than NOW were DEAD if a WRITER were GONE (the HORIZON, too, being without him).");
        String text = "store ring 32 rows 3 start 30 crash 0;begin a;put a 0 1;put a 1 1;done a;begin g;put g 2 1;gone g;"
            + "begin r;begin b;put b 0 2;done b;begin c;put c 1 3;put c 2 4;drop c 0";
        StampedRows x = Edge.stored(text);
        // r, SLOT 0, holds a's first VERSION back, and so does c's SNAPSHOT; g's is DEAD now
        Edge.answers(x, "dead()", 1);
        Edge.answers(x, "frees(0)", 0);
        Edge.answers(x, "frees(1)", 2);
        Edge.does(x, "gone(1)");
        Edge.answers(x, "dead()", 3);
        Edge.answers(x, "frees(0)", 1);
        Edge.does(x, "gone(0)");
        Edge.answers(x, "dead()", 4);
        StampedRows y = Edge.stored(text);
        Edge.does(y, "done(0)");
        // alone, c holds back by r's STAMP in his SNAPSHOT
        Edge.answers(y, "frees(1)", 3);

        Edge.says(17, "NONE: 1.");
        Edge.refuses(y, "frees(0)", 1);
        Edge.refuses(y, "frees(-1)", 1);
        Edge.refuses(y, "frees(6)", 1);
        Edge.refuses(y, "frees(MIN)", 1);
        Edge.refuses(y, "frees(MAX)", 1);
        Edge.refuses(new StampedRows(), "frees(0)", 1);
    }
}
