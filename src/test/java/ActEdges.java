/** Sentences of promises 49 to 61: acts, and what is told. */
final class ActEdges {
    private static final String HEAD = "store ring 8 rows 3 start 6 crash 0";
    /** SLOTS: b 0, c 1. b 7 put 11 over a's 10, c 0 dropped a's 20. */
    private static final String TWO = HEAD + ";begin a;put a 0 10;put a 1 20;done a;begin b;begin c;put b 0 11;drop c 1";
    private static final String[] NOBODY = {"-1", "2", "5", "6", "MIN", "MAX"};
    private static final String[] NO_ROW = {"-1", "3", "8", "MIN", "MAX"};

    private ActEdges() {
    }

    static void run() {
        begin();
        put();
        putRefused();
        drop();
        done();
        gone();
        clear();
        freeze();
        undo();
        image();
        back();
        led();
        size();
        trouble();
    }

    private static void begin() {
        Edge.says(49, "BEGIN: his SLOT.");
        StampedRows x = Edge.stored("store ring 64 rows 1 start 63 crash 0");
        for (int w = 0; w < 6; w++) {
            Edge.answers(x, "begin()", w);
        }
        Edge.tells(x, "size(7)", 6);
        Edge.does(x, "done(2)");
        Edge.tells(x, "size(4)", 5);
        Edge.answers(x, "begin()", 2);
        // who begins in the SLOT of one who has LOST hasn't
        StampedRows lost = Edge.stored("store ring 8 rows 1 start 0 crash 0;begin a;begin b;put b 0 1;done b");
        Edge.answers(lost, "put(0, 0, 2)", -2);
        Edge.answers(lost, "writer(0, 1)", 1);
        Edge.does(lost, "gone(0)");
        Edge.answers(lost, "begin()", 0);
        Edge.answers(lost, "writer(0, 1)", 0);

        Edge.says(49, "NONE: 1 (no STORE);");
        Edge.refuses(new StampedRows(), "begin()", 1);

        Edge.says(49, "3.");
        Edge.refuses(x, "begin()", 3);
        StampedRows half = Edge.stored(HEAD + ";begin a");
        TermEdges.pass(half, 3);
        Edge.refuses(half, "begin()", 3);
        Edge.does(half, "gone(0)");
        Edge.answers(half, "begin()", 0);
    }

    private static void put() {
        Edge.says(50, "PUT (0 .. 999): the VERSION that has the value;");
        StampedRows x = Edge.stored(TWO);
        Edge.answers(x, "put(0, 2, 0)", 3);
        Edge.answers(x, "read(0, 2)", 0);
        Edge.answers(x, "put(0, 2, 999)", 3);
        Edge.answers(x, "read(0, 2)", 999);
        Edge.answers(x, "put(1, 1, 5)", 4);
        Edge.tells(x, "size(7)", 3);

        Edge.says(50, "-2 he has LOST by it (a number free or not).");
        Edge.does(x, "done(1)");
        Edge.answers(x, "put(0, 1, 5)", -2);
        Edge.answers(x, "writer(0, 1)", 1);
        Edge.tells(x, "size(7)", 5);
        StampedRows full = TermEdges.full();
        Edge.does(full, "begin()", "drop(0, 0)", "done(0)");
        Edge.tells(full, "size(3)", 48);
        Edge.answers(full, "put(1, 0, 5)", -2);
        Edge.tells(full, "size(3)", 48);
    }

    private static void putRefused() {
        Edge.says(50, "NONE: 1;");
        StampedRows x = Edge.stored(TWO);
        for (String w : NOBODY) {
            Edge.refuses(x, "put(" + w + ", 0, 5)", 1);
        }
        for (String row : NO_ROW) {
            Edge.refuses(x, "put(0, " + row + ", 5)", 1);
        }
        Edge.refuses(x, "put(2, 3, 1000)", 1);
        Edge.refuses(new StampedRows(), "put(0, 0, 5)", 1);

        Edge.says(50, "2;");
        for (String value : new String[] {"-1", "-2", "1000", "MIN", "MAX"}) {
            Edge.refuses(x, "put(0, 0, " + value + ")", 2);
        }
        // HELD as well
        Edge.refuses(x, "put(0, 1, 1000)", 2);

        Edge.says(50, "5 (HELD; he has LOST already);");
        Edge.refuses(x, "put(0, 1, 5)", 5);
        Edge.does(x, "done(1)");
        Edge.answers(x, "put(0, 1, 5)", -2);
        for (int row = 0; row < 3; row++) {
            Edge.refuses(x, "put(0, " + row + ", 5)", 5);
        }

        Edge.says(50, "3 (no number is free for one more).");
        StampedRows full = TermEdges.full();
        Edge.refuses(full, "put(0, 0, 5)", 3);
        Edge.answers(full, "version(40, 3)", -2);
        // HELD goes ahead of it, and a VERSION of his own needs no number
        Edge.does(full, "begin()", "drop(1, 0)");
        Edge.refuses(full, "put(0, 0, 5)", 5);
        Edge.refuses(full, "put(1, 0, 5)", 3);
        StampedRows own = Edge.stored("store ring 8 rows 1 start 0 crash 0;begin a");
        for (int i = 0; i < 47; i++) {
            own.put(0, 0, i);
            own.drop(0, 0);
        }
        Edge.answers(own, "put(0, 0, 7)", 47);
        Edge.answers(own, "put(0, 0, 8)", 47);
        Edge.does(own, "drop(0, 0)");
        Edge.refuses(own, "put(0, 0, 9)", 3);
        StampedRows both = Edge.stored("store ring 8 rows 8 start 0 crash 0;begin a;begin b;put a 3 999;put b 5 999");
        for (int i = 0; i < 46; i++) {
            both.put(1, 0, i);
            both.drop(1, 0);
        }
        Edge.answers(both, "put(0, 3, 998)", 0);
        Edge.answers(both, "put(1, 5, 998)", 1);
        Edge.refuses(both, "put(0, 6, 1)", 3);
        Edge.refuses(both, "put(1, 0, 1)", 3);
        Edge.refuses(both, "put(1, 3, 1)", 5);
    }

    private static void drop() {
        Edge.says(51, "DROP: the VERSION;");
        StampedRows x = Edge.stored(TWO);
        Edge.answers(x, "drop(0, 0)", 2);
        Edge.answers(x, "version(2, 3)", 7);
        Edge.tells(x, "size(7)", 1);
        Edge.answers(TermEdges.full(), "drop(0, 7)", 47);

        Edge.says(51, "NONE: 1;");
        for (String w : NOBODY) {
            Edge.refuses(x, "drop(" + w + ", 0)", 1);
        }
        for (String row : NO_ROW) {
            Edge.refuses(x, "drop(0, " + row + ")", 1);
        }
        Edge.refuses(new StampedRows(), "drop(0, 0)", 1);

        Edge.says(51, "6 (he SEES none, and it is neither).");
        Edge.refuses(x, "drop(0, 0)", 6);
        Edge.refuses(x, "drop(0, 2)", 6);
        Edge.refuses(x, "drop(1, 1)", 6);

        Edge.says(51, "5 (HELD; he has LOST already);");
        Edge.does(x, "put(0, 2, 1)");
        Edge.refuses(x, "drop(1, 0)", 5);
        // he SEES none, but is HELD
        Edge.refuses(x, "drop(1, 2)", 5);

        Edge.says(51, "-2 he has LOST by it.");
        Edge.does(x, "done(0)");
        Edge.answers(x, "drop(1, 0)", -2);
        Edge.answers(x, "writer(1, 1)", 1);
        Edge.does(x, "undo()");
        // he SEES none
        Edge.answers(x, "drop(1, 2)", -2);
        Edge.answers(x, "writer(1, 1)", 1);

        Edge.says(51, "5 (HELD; he has LOST already);");
        for (int row = 0; row < 3; row++) {
            Edge.refuses(x, "drop(1, " + row + ")", 5);
        }
    }

    private static void done() {
        Edge.says(52, "DONE: his STAMP.");
        StampedRows x = Edge.stored(TWO);
        Edge.answers(x, "done(0)", 7);
        Edge.answers(x, "fresh(0)", 11);
        Edge.tells(x, "size(7)", 1);

        Edge.says(52, "NONE: 1;");
        Edge.refuses(x, "done(0)", 1);
        for (String w : NOBODY) {
            Edge.refuses(x, "done(" + w + ")", 1);
        }
        Edge.refuses(new StampedRows(), "done(0)", 1);

        Edge.says(52, "5 (he has LOST).");
        Edge.answers(x, "put(1, 0, 1)", -2);
        Edge.refuses(x, "done(1)", 5);
        Edge.does(x, "undo()");
        Edge.answers(x, "done(1)", 0);
    }

    private static void gone() {
        Edge.says(53, "GONE: his STAMP.");
        StampedRows x = Edge.stored(TWO);
        Edge.answers(x, "gone(1)", 0);
        Edge.answers(x, "fresh(1)", 20);
        Edge.tells(x, "size(7)", 1);
        Edge.does(x, "begin()");
        StampedRows lost = Edge.stored(TWO);
        Edge.does(lost, "done(1)");
        Edge.answers(lost, "drop(0, 1)", -2);
        Edge.answers(lost, "gone(0)", 7);

        Edge.says(53, "NONE: 1.");
        for (String w : NOBODY) {
            Edge.refuses(x, "gone(" + w + ")", 1);
        }
        Edge.refuses(lost, "gone(0)", 1);
        Edge.refuses(new StampedRows(), "gone(0)", 1);
    }

    private static void clear() {
        Edge.says(54, "CLEAR: how many VERSIONS.");
        StampedRows x = Edge.stored(TWO);
        Edge.does(x, "gone(0)", "done(1)");
        // b's own, and the one that c dropped
        Edge.answers(x, "clear()", 2);
        Edge.tells(x, "size(3)", 1);
        Edge.tells(x, "size(7)", 3);
        StampedRows full = TermEdges.full();
        Edge.answers(full, "clear()", 40);

        Edge.says(54, "NONE: 1 (no STORE);");
        Edge.refuses(new StampedRows(), "clear()", 1);

        Edge.says(54, "6 (none is DEAD).");
        Edge.refuses(x, "clear()", 6);
        Edge.refuses(Edge.stored(HEAD), "clear()", 6);
        Edge.refuses(Edge.stored(TWO), "clear()", 6);
    }

    private static void freeze() {
        Edge.says(55, "FREEZE: how many VERSIONS it changes.");
        StampedRows x = Edge.stored(TWO);
        Edge.does(x, "gone(1)");
        // a's both, one of which has the TILL of one gone
        Edge.answers(x, "freeze()", 2);
        Edge.tells(x, "size(7)", 2);
        Edge.tells(x, "size(3)", 3);
        Edge.does(x, "gone(0)");
        Edge.answers(x, "freeze()", 1);
        Edge.answers(TermEdges.full(), "freeze()", 48);

        Edge.says(55, "NONE: 1 (no STORE);");
        Edge.refuses(new StampedRows(), "freeze()", 1);

        Edge.says(55, "6 (none).");
        Edge.refuses(x, "freeze()", 6);
        Edge.refuses(Edge.stored(HEAD), "freeze()", 6);
    }

    private static void undo() {
        Edge.says(56, "UNDO: true;");
        StampedRows x = Edge.stored(TWO);
        Edge.does(x, "put(0, 0, 12)", "done(0)");
        Edge.answers(x, "put(1, 0, 5)", -2);
        Edge.does(x, "gone(1)", "freeze()", "clear()", "begin()", "drop(0, 0)");
        Edge.tells(x, "size(7)", 8);
        for (int left = 7; left >= 0; left--) {
            Edge.answers(x, "undo()", 1);
            Edge.tells(x, "size(7)", left);
        }
        Edge.answers(x, "read(0, 0)", 11);

        Edge.says(56, "false: 6.");
        Edge.refuses(x, "undo()", 0, 6);
        Edge.refuses(new StampedRows(), "undo()", 0, 6);
        // refused calls, looks and IMAGES are no ACTS
        Edge.same("put(0, 1, 5)", x.put(0, 1, 5), -1);
        Edge.does(x, "image()", "sum(0)");
        Edge.refuses(x, "undo()", 0, 6);
    }

    private static void image() {
        Edge.says(57, "An IMAGE: its number.");
        StampedRows x = Edge.stored(TWO);
        for (int image = 0; image < 3; image++) {
            Edge.answers(x, "image()", image);
        }

        Edge.says(57, "NONE: 1 (no STORE);");
        Edge.refuses(new StampedRows(), "image()", 1);

        Edge.says(57, "3.");
        Edge.refuses(x, "image()", 3);
        Edge.does(x, "back(0)");
        Edge.refuses(x, "image()", 3);
        // a new STORE has none
        Edge.good(x, HEAD);
        Edge.answers(x, "image()", 0);
    }

    private static void back() {
        Edge.says(58, "All is as by an IMAGE (all IMAGES stay): true;");
        StampedRows x = Edge.stored(TWO);
        Edge.does(x, "image()", "done(0)", "image()", "gone(1)", "clear()", "image()", "begin()", "put(0, 0, 9)");
        Edge.answers(x, "back(0)", 1);
        Edge.answers(x, "running()", 3);
        Edge.answers(x, "next()", 1);
        Edge.answers(x, "read(0, 0)", 11);
        Edge.tells(x, "size(3)", 3);
        Edge.tells(x, "size(8)", 3);
        Edge.tells(x, "size(7)", 0);
        Edge.answers(x, "put(0, 0, 12)", 2);
        Edge.answers(x, "back(2)", 1);
        Edge.answers(x, "running()", 0);
        Edge.tells(x, "size(3)", 2);
        Edge.answers(x, "back(1)", 1);
        Edge.answers(x, "running()", 2);
        // what was done behind an IMAGE hasn't changed it
        Edge.answers(x, "back(0)", 1);
        Edge.answers(x, "read(0, 0)", 11);

        Edge.says(58, "false: 1.");
        StampedRows y = Edge.stored(TWO);
        Edge.does(y, "put(0, 0, 5)", "image()");
        for (String image : new String[] {"-1", "1", "2", "3", "MIN", "MAX"}) {
            Edge.refuses(y, "back(" + image + ")", 0, 1);
        }
        Edge.tells(y, "size(7)", 1);
        Edge.refuses(x, "back(3)", 0, 1);
        Edge.refuses(new StampedRows(), "back(0)", 0, 1);
    }

    private static void led() {
        Edge.says(59, "The i-th ROW, by numbers, in which a FRESH reader would SEE none.");
        StampedRows x = Edge.stored("store ring 8 rows 8 start 0 crash 0;begin a;put a 0 0;put a 3 1;put a 6 1;done a;"
            + "begin b;put b 1 1;drop b 0");
        int[] empty = {1, 2, 4, 5, 7};
        for (int i = 0; i < empty.length; i++) {
            Edge.tells(x, "led(" + i + ")", empty[i]);
        }
        StampedRows dropped = Edge.stored("store ring 8 rows 1 start 0 crash 0;begin a;put a 0 0;drop a 0;done a");
        Edge.tells(dropped, "led(0)", 0);

        Edge.says(59, "NoSuchElementException if there is none such.");
        for (String i : new String[] {"-1", "5", "8", "MIN", "MAX"}) {
            Edge.tellsNone(x, "led(" + i + ")");
        }
        Edge.tellsNone(dropped, "led(1)");
        Edge.tellsNone(Edge.stored("store ring 8 rows 1 start 0 crash 0;begin a;put a 0 0;done a"), "led(0)");
        Edge.tellsNone(new StampedRows(), "led(0)");
    }

    private static void size() {
        Edge.says(60, "0 ring, 1 rows, 2 crash, 3 VERSIONS, 4 WRITERS who RUN, 5 unsure ones, 6 seen, "
            + "7 ACTS that can be undone, 8 IMAGES, 9 bytes of THE TAPE.");
        StampedRows x = Edge.stored("store ring 64 rows 8 start 0 crash 77;begin a;put a 0 1;put a 1 1;done a;begin b;"
            + "begin c;unsure a;seen 0 1;seen 5 none");
        Edge.does(x, "feed(0, 0, 0, 0, 0)", "begin()", "gone(2)", "begin()", "image()", "image()");
        int[] due = {64, 8, 77, 2, 3, 1, 2, 3, 2, 20};
        for (int what = 0; what < due.length; what++) {
            Edge.tells(x, "size(" + what + ")", due[what]);
        }
        StampedRows most = TermEdges.full();
        for (int i = 0; i < 5; i++) {
            Edge.does(most, "begin()");
        }
        for (int i = 0; i < 17; i++) {
            most.drop(0, i % 8);
            most.undo();
            most.gone(5);
            most.begin();
        }
        for (int i = 0; i < 4; i++) {
            most.image();
        }
        for (int i = 0; i < 46; i++) {
            most.feed(0, 0, 0, 0, 0);
        }
        int[] greatest = {64, 8, 0, 48, 6, 0, 0, 16, 3, 900};
        for (int what = 0; what < greatest.length; what++) {
            Edge.tells(most, "size(" + what + ")", greatest[what]);
        }

        Edge.says(60, "NONE for others;");
        for (String what : new String[] {"-1", "10", "MIN", "MAX"}) {
            Edge.tells(x, "size(" + what + ")", -1);
            Edge.tells(new StampedRows(), "size(" + what + ")", -1);
        }

        Edge.says(60, "0 for what there isn't.");
        StampedRows none = new StampedRows();
        StampedRows empty = Edge.stored(HEAD);
        for (int what = 0; what < 10; what++) {
            Edge.tells(none, "size(" + what + ")", 0);
        }
        for (int what = 2; what < 10; what++) {
            Edge.tells(empty, "size(" + what + ")", 0);
        }
    }

    private static void trouble() {
        Edge.says(61, "TROUBLE.");
        StampedRows x = new StampedRows();
        Edge.tells(x, "trouble()", 0);
        Edge.same("next()", x.next(), -1);
        Edge.tells(x, "trouble()", 1);
        Edge.same("store(1)", x.store(1), -1);
        Edge.tells(x, "trouble()", 2);
        Edge.same("store(0)", x.store(0), -1);
        Edge.tells(x, "trouble()", 4);
        Edge.same("undo()", x.undo(), false);
        Edge.tells(x, "trouble()", 6);
        Edge.same("store", Check.store(x, TWO), 3);
        Edge.tells(x, "trouble()", 0);
        Edge.same("put(0, 1, 1)", x.put(0, 1, 1), -1);
        Edge.tells(x, "trouble()", 5);
        Edge.same("four images", Math.min(Math.min(x.image(), x.image()), Math.min(x.image(), x.image())), -1);
        Edge.tells(x, "trouble()", 3);
        Edge.same("back(0)", x.back(0), true);
        Edge.tells(x, "trouble()", 0);
    }
}
