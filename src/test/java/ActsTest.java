/** Promises 49 to 61: acts, and what is told. */
final class ActsTest {
    private static final String HEAD = "store ring 32 rows 3 start 30 crash 0";

    private ActsTest() {
    }

    public static void main(String[] args) {
        noStore();
        begin();
        put();
        noNumberFree();
        drop();
        ends();
        clear();
        freeze();
        undo();
        undoAll();
        images();
        led();
        size();
        trouble();
        Check.end();
    }

    private static void noStore() {
        StampedRows x = new StampedRows();
        Check.refused("no store: begin()", x, x.begin(), -1, 1);
        Check.refused("no store: put(0, 0, -1)", x, x.put(0, 0, -1), -1, 1);
        Check.refused("no store: drop(0, 0)", x, x.drop(0, 0), -1, 1);
        Check.refused("no store: done(0)", x, x.done(0), -1, 1);
        Check.refused("no store: gone(0)", x, x.gone(0), -1, 1);
        Check.refused("no store: clear()", x, x.clear(), -1, 1);
        Check.refused("no store: freeze()", x, x.freeze(), -1, 1);
        Check.refused("no store: undo()", x, x.undo() ? 1 : 0, 0, 6);
        Check.refused("no store: image()", x, x.image(), -1, 1);
        Check.refused("no store: back(0)", x, x.back(0) ? 1 : 0, 0, 1);
        Check.isTrue("no store: led(0) throws", throwsByLed(x, 0));
    }

    private static void begin() {
        StampedRows x = Check.stored(HEAD);
        for (int w = 0; w < 6; w++) {
            Check.refused("begin()", x, x.begin(), w, 0);
        }
        Check.refused("begin(): six run", x, x.begin(), -1, 3);
        Check.same("next() behind six", x.next(), 4);
        Check.same("snapshot of the last", x.writer(5, 2), 5);
        x.gone(3);
        x.done(1);
        Check.same("begin(): the first free slot", x.begin(), 1);
        Check.same("its snapshot", x.writer(1, 2), 4);

        StampedRows y = Check.stored("store ring 8 rows 1 start 5 crash 0");
        y.begin();
        for (int i = 0; i < 3; i++) {
            Check.same("begin()", y.begin(), 1);
            y.gone(1);
        }
        Check.same("oldest()", y.oldest(), 4);
        Check.refused("begin(): half the ring", y, y.begin(), -1, 3);
        y.done(0);
        Check.refused("begin(): nothing in use", y, y.begin(), 0, 0);
    }

    private static void put() {
        StampedRows x = Check.stored(HEAD);
        x.begin();
        Check.refused("put makes one", x, x.put(0, 1, 0), 0, 0);
        Check.same("put changes it", x.put(0, 1, 999), 0);
        Check.same("its value", x.version(0, 1), 999);
        Check.same("its row", x.version(0, 0), 1);
        Check.same("size(3)", x.size(3), 1);
        Check.refused("put: no row", x, x.put(0, 3, 0), -1, 1);
        Check.refused("put: no row", x, x.put(0, -1, 0), -1, 1);
        Check.refused("put: nobody", x, x.put(1, 0, 0), -1, 1);
        Check.refused("put: no value", x, x.put(0, 0, 1000), -1, 2);
        Check.refused("put: no value", x, x.put(0, 0, -1), -1, 2);
        Check.refused("put: nobody, no value", x, x.put(6, 0, -1), -1, 1);
        x.begin();
        Check.refused("put: held", x, x.put(1, 1, 5), -1, 5);
        Check.refused("put: held, no value", x, x.put(1, 1, 1000), -1, 2);
        Check.same("held is no act", x.size(7), 4);
        x.done(0);
        Check.refused("put: lost", x, x.put(1, 1, 5), -2, 0);
        Check.same("lost is an act", x.size(7), 6);
        Check.same("lost", x.writer(1, 1), 1);
        Check.same("nothing is put", x.size(3), 1);
        Check.refused("put: lost already", x, x.put(1, 0, 5), -1, 5);
        x.begin();
        Check.same("put over another's", x.put(0, 1, 7), 1);
        Check.same("its TILL", x.version(0, 3), 0);
        Check.same("the new one's FROM", x.version(1, 2), 0);
        Check.same("the new one's TILL", x.version(1, 3), -2);
    }

    private static void noNumberFree() {
        StampedRows x = Check.stored("store ring 64 rows 8 start 0 crash 0");
        for (int i = 0; i < 6; i++) {
            x.begin();
            for (int row = 0; row < 8; row++) {
                Check.same("put", x.put(0, row, i), 8 * i + row);
            }
            if (i < 5) {
                x.done(0);
            }
        }
        Check.refused("put: his own is changed", x, x.put(0, 7, 9), 47, 0);
        x.begin();
        x.done(0);
        Check.same("size(3)", x.size(3), 48);
        Check.refused("put: lost, no number being free", x, x.put(1, 0, 9), -2, 0);
        x.gone(1);
        x.begin();
        Check.same("may: a number free or not", x.may(0, 0), 0);
        Check.same("open: a number free or not", x.open(0), 255);
        int acts = x.size(7);
        Check.refused("put: no number is free", x, x.put(0, 0, 9), -1, 3);
        Check.same("put without room is no act", x.size(7), acts);
        Check.same("put without room changes nothing", x.version(40, 3), -2);
        Check.refused("drop needs none", x, x.drop(0, 1), 41, 0);
        x.begin();
        Check.refused("put: held, no number being free", x, x.put(1, 1, 9), -1, 5);
        x.gone(1);
        x.clear();
        Check.refused("put: the first free number", x, x.put(0, 0, 9), 0, 0);
    }

    private static void drop() {
        StampedRows x = Check.stored(HEAD + ";begin a;put a 0 5;put a 1 6;done a");
        x.begin();
        x.begin();
        Check.refused("drop", x, x.drop(0, 0), 0, 0);
        Check.same("its TILL", x.version(0, 3), 31);
        Check.refused("drop: none is seen", x, x.drop(0, 0), -1, 6);
        Check.refused("drop: an empty row", x, x.drop(0, 2), -1, 6);
        Check.refused("drop: held", x, x.drop(1, 0), -1, 5);
        Check.refused("drop: no row", x, x.drop(0, 3), -1, 1);
        Check.refused("drop: nobody", x, x.drop(2, 0), -1, 1);
        x.put(0, 2, 1);
        Check.refused("drop: held by a FROM", x, x.drop(1, 2), -1, 5);
        Check.same("drop of one's own", x.drop(0, 2), 2);
        Check.same("it is ended by who made it", x.version(2, 3), 31);
        x.done(0);
        Check.refused("drop: lost", x, x.drop(1, 0), -2, 0);
        Check.refused("drop: lost already", x, x.drop(1, 1), -1, 5);
        Check.refused("drop: lost already, none seen", x, x.drop(1, 2), -1, 5);
        Check.same("undo of having lost", x.undo(), true);
        Check.same("drop behind it", x.drop(1, 1), 1);
    }

    private static void ends() {
        StampedRows x = Check.stored(HEAD + ";begin a;begin b;put a 0 5");
        Check.refused("done(2)", x, x.done(2), -1, 1);
        Check.refused("gone(-1)", x, x.gone(-1), -1, 1);
        Check.refused("done(0)", x, x.done(0), 30, 0);
        Check.refused("done(0) again", x, x.done(0), -1, 1);
        Check.refused("gone(0)", x, x.gone(0), -1, 1);
        x.put(1, 0, 6);
        Check.refused("done: he has lost", x, x.done(1), -1, 5);
        Check.refused("gone: he has lost", x, x.gone(1), 31, 0);
        Check.same("running()", x.running(), 0);
        Check.same("fresh(0)", x.fresh(0), 5);
    }

    private static void clear() {
        StampedRows x = Check.stored(HEAD + ";begin a;put a 0 5;put a 1 6;done a");
        Check.refused("clear() of none", x, x.clear(), -1, 6);
        Check.same("clear() of none is no act", x.size(7), 0);
        x.begin();
        x.drop(0, 0);
        x.put(0, 2, 7);
        x.begin();
        x.put(1, 1, 8);
        x.gone(1);
        Check.refused("clear() of the gone", x, x.clear(), 1, 0);
        Check.same("chain(1)", x.chain(1), 1);
        x.done(0);
        Check.refused("clear() of the dropped", x, x.clear(), 1, 0);
        Check.same("chain(0)", x.chain(0), 0);
        Check.same("size(3)", x.size(3), 2);
        Check.same("undo of clear", x.undo(), true);
        Check.same("chain(0) again", x.chain(0), 1);
    }

    private static void freeze() {
        StampedRows x = Check.stored(HEAD + ";begin a;put a 0 5;done a");
        Check.refused("freeze()", x, x.freeze(), 1, 0);
        Check.refused("freeze() of none", x, x.freeze(), -1, 6);
        Check.same("freeze() of none is no act", x.size(7), 1);
        Check.same("undo of freeze", x.undo(), true);
        Check.same("FROM again", x.version(0, 2), 30);
        x.begin();
        Check.same("freeze() while a younger one runs", x.freeze(), 1);
        x.put(0, 0, 6);
        Check.refused("freeze(): who runs isn't frozen", x, x.freeze(), -1, 6);
    }

    private static void undo() {
        StampedRows x = Check.stored(HEAD);
        Check.refused("undo() of nothing", x, x.undo() ? 1 : 0, 0, 6);
        x.begin();
        for (int i = 0; i < 20; i++) {
            x.put(0, 0, i);
        }
        Check.same("size(7)", x.size(7), 16);
        for (int i = 18; i >= 3; i--) {
            Check.refused("undo()", x, x.undo() ? 1 : 0, 1, 0);
            Check.same("what is undone", x.read(0, 0), i);
        }
        Check.refused("undo() beyond sixteen", x, x.undo() ? 1 : 0, 0, 6);
        Check.same("size(7) at last", x.size(7), 0);
        Check.same("it stays as it was", x.read(0, 0), 3);
        x.put(0, 0, 40);
        x.undo();
        Check.same("undo again", x.read(0, 0), 3);
        x.put(0, 5, 1);
        x.next();
        x.image();
        Check.same("refused calls and looks are no acts", x.size(7), 0);
    }

    /** Every ACT, undone one by one. */
    private static void undoAll() {
        StampedRows x = Check.stored(HEAD + ";begin a;put a 0 5;done a");
        x.begin();
        x.begin();
        x.put(0, 0, 6);
        x.done(0);
        x.put(1, 0, 7);
        x.gone(1);
        x.freeze();
        x.begin();
        x.drop(0, 0);
        Check.same("undo drop", x.undo(), true);
        Check.same("undo drop", x.read(0, 0), 6);
        Check.same("undo begin", x.undo(), true);
        x.clear();
        Check.same("undo clear", x.undo(), true);
        Check.same("undo clear", x.size(3), 2);
        Check.same("undo freeze", x.undo(), true);
        Check.same("undo freeze", x.version(0, 2), 30);
        Check.same("undo gone", x.undo(), true);
        Check.same("undo gone", x.running(), 2);
        Check.same("undo gone", x.writer(1, 1), 1);
        Check.same("undo having lost", x.undo(), true);
        Check.same("undo having lost", x.writer(1, 1), 0);
        Check.same("undo done", x.undo(), true);
        Check.same("undo done", x.may(1, 0), 1);
        Check.same("undo put", x.undo(), true);
        Check.same("undo put", x.may(1, 0), 0);
        Check.same("undo begin", x.undo(), true);
        Check.same("undo begin", x.next(), 0);
        Check.same("undo begin", x.undo(), true);
        Check.same("undo begin", x.next(), 31);
        Check.same("nothing is left", x.undo(), false);
    }

    private static void images() {
        StampedRows x = Check.stored(HEAD);
        Check.refused("image()", x, x.image(), 0, 0);
        x.begin();
        x.put(0, 0, 5);
        Check.same("image()", x.image(), 1);
        x.done(0);
        Check.same("image()", x.image(), 2);
        Check.refused("a fourth image()", x, x.image(), -1, 3);
        Check.same("size(8)", x.size(8), 3);
        Check.refused("back(3)", x, x.back(3) ? 1 : 0, 0, 1);
        Check.refused("back(-1)", x, x.back(-1) ? 1 : 0, 0, 1);
        Check.same("back(3) leaves what can be undone", x.size(7), 3);
        Check.refused("back(1)", x, x.back(1) ? 1 : 0, 1, 0);
        Check.same("running()", x.running(), 1);
        Check.same("read", x.read(0, 0), 5);
        Check.refused("undo() behind back", x, x.undo() ? 1 : 0, 0, 6);
        x.put(0, 0, 6);
        Check.same("size(7)", x.size(7), 1);
        Check.same("back(0)", x.back(0), true);
        Check.same("running()", x.running(), 0);
        Check.same("back(1) again", x.back(1), true);
        Check.same("an image isn't changed by what came behind", x.read(0, 0), 5);
        Check.same("images stay", x.size(8), 3);
        Check.same("back(2)", x.back(2), true);
        Check.same("fresh(0)", x.fresh(0), 5);
    }

    private static boolean throwsByLed(StampedRows x, int i) {
        try {
            x.led(i);
            return false;
        } catch (java.util.NoSuchElementException e) {
            return true;
        }
    }

    private static void led() {
        StampedRows x = Check.stored(HEAD + ";begin a;put a 1 5;done a");
        x.put(0, 0, 0);
        Check.same("led(0)", x.led(0), 0);
        Check.same("led(1)", x.led(1), 2);
        Check.isTrue("led(2) throws", throwsByLed(x, 2));
        Check.isTrue("led(-1) throws", throwsByLed(x, -1));
        Check.same("led leaves trouble()", x.trouble(), 1);
        x.begin();
        x.put(0, 0, 1);
        Check.same("led(0): who runs isn't seen", x.led(0), 0);
        x.put(0, 2, 0);
        x.drop(0, 1);
        x.done(0);
        Check.same("led(0): dropped", x.led(0), 1);
        Check.isTrue("led(1) throws", throwsByLed(x, 1));
    }

    private static void size() {
        StampedRows x = Check.stored("store ring 64 rows 8 start 0 crash 77;begin a;put a 0 1;put a 1 1;done a;begin b;"
            + "begin c;unsure a;seen 0 1;seen 5 none");
        x.feed(0, 0, 0, 0, 0);
        x.begin();
        x.image();
        x.image();
        int[] due = {64, 8, 77, 2, 3, 1, 2, 1, 2, 20};
        for (int what = 0; what < due.length; what++) {
            Check.same("size(" + what + ")", x.size(what), due[what]);
        }
        x.age(-1);
        Check.same("size(10)", x.size(10), -1);
        Check.same("size(-1)", x.size(-1), -1);
        Check.same("size leaves trouble()", x.trouble(), 2);
    }

    private static void trouble() {
        StampedRows x = Check.stored(HEAD);
        Check.same("0 it wasn't", x.trouble(), 0);
        x.writer(0, 0);
        Check.same("1 there is none such", x.trouble(), 1);
        x.age(32);
        Check.same("2 a number", x.trouble(), 2);
        x.feed(0, 0, 0, 0, 0);
        x.fault();
        x.where();
        x.size(99);
        x.trouble();
        Check.same("2 stays", x.trouble(), 2);
        for (int i = 0; i < 7; i++) {
            x.begin();
        }
        Check.same("3 no room", x.trouble(), 3);
        x.store(1);
        Check.same("4 a fault", x.trouble(), 4);
        x.put(0, 0, 1);
        x.put(1, 0, 1);
        Check.same("5 not so", x.trouble(), 5);
        x.clear();
        Check.same("6 there is none", x.trouble(), 6);
        x.sees(0, 1);
        Check.same("0 again, though there is nothing", x.trouble(), 0);
    }
}
