/** Promises 36 to 42: unsure ends. */
final class UnsureTest {
    private static final String HEAD = "store ring 32 rows 4 start 0 crash 0;";

    private UnsureTest() {
    }

    public static void main(String[] args) {
        noStore();
        nothingTold();
        asTold();
        otherwise();
        noFits();
        asking();
        hadSince();
        whatStays();
        Check.end();
    }

    private static void noStore() {
        StampedRows x = new StampedRows();
        Check.refused("no store: fits()", x, x.fits(), -1, 1);
        Check.refused("no store: fitAt(0)", x, x.fitAt(0), -1, 1);
        Check.refused("no store: could()", x, x.could(), -1, 1);
        Check.refused("no store: surely()", x, x.surely(), -1, 1);
        Check.refused("no store: ask()", x, x.ask(), -1, 1);
        Check.refused("no store: askLeaves()", x, x.askLeaves(), -1, 1);
        Check.refused("no store: judge()", x, x.judge(), -1, 1);
    }

    private static void due(StampedRows x, String of, int... sets) {
        Check.refused(of + ": fits()", x, x.fits(), sets.length, 0);
        for (int i = 0; i < sets.length; i++) {
            Check.refused(of + ": fitAt(" + i + ")", x, x.fitAt(i), sets[i], 0);
        }
        Check.refused(of + ": fitAt beyond", x, x.fitAt(sets.length), -1, 1);
        Check.refused(of + ": fitAt(-1)", x, x.fitAt(-1), -1, 1);
    }

    private static void ends(StampedRows x, String of, int could, int surely, int ask, int leaves, int judge) {
        Check.refused(of + ": could()", x, x.could(), could, 0);
        Check.refused(of + ": surely()", x, x.surely(), surely, 0);
        Check.refused(of + ": ask()", x, x.ask(), ask, 0);
        Check.refused(of + ": askLeaves()", x, x.askLeaves(), leaves, 0);
        Check.refused(of + ": judge()", x, x.judge(), judge, 0);
    }

    private static void nothingTold() {
        StampedRows x = Check.stored(HEAD + "begin a;put a 0 1;done a");
        due(x, "nothing told", 0);
        ends(x, "nothing told", 0, 0, -2, -2, -2);
    }

    private static void asTold() {
        StampedRows x = Check.stored(HEAD + "begin a;put a 0 1;done a;begin b;put b 1 2;gone b;unsure b;unsure a;"
            + "seen 2 none;seen 1 none;seen 0 1");
        due(x, "as told", 0);
        ends(x, "as told", 0, 0, 0, 1, -2);
    }

    private static void otherwise() {
        // a is gone and b done, the other way than told: bit 0 is b's, who is told first
        StampedRows x = Check.stored(HEAD + "begin a;put a 0 1;done a;begin b;put b 1 2;gone b;unsure b;unsure a;"
            + "seen 1 2;seen 0 none");
        due(x, "otherwise", 3);
        ends(x, "otherwise", 3, 3, 0, 1, 0);
        StampedRows late = Check.stored(HEAD + "begin a;put a 0 1;put a 3 9;done a;unsure a;seen 2 none;seen 0 1;"
            + "seen 3 none");
        Check.same("judge(): the third as told isn't so", late.judge(), 2);
        StampedRows till = Check.stored(HEAD + "begin a;put a 0 1;done a;begin b;put b 0 2;done b;unsure b;seen 0 1");
        due(till, "b gone, a's is seen", 1);
        StampedRows none = Check.stored(HEAD + "begin a;put a 0 1;done a;begin b;drop b 0;gone b;unsure b;seen 0 none");
        due(none, "b done, dropped", 1);
    }

    private static void noFits() {
        StampedRows x = Check.stored(HEAD + "begin a;put a 0 1;done a;unsure a;seen 0 7");
        due(x, "no fits");
        ends(x, "no fits", 0, 0, -2, -2, 0);
        StampedRows y = Check.stored(HEAD + "begin a;put a 0 1;done a;seen 1 none;seen 0 7");
        due(y, "no fits, nobody unsure");
        ends(y, "no fits, nobody unsure", 0, 0, -2, -2, 1);
    }

    private static void asking() {
        // a: whatever; b, c: both put 5 in row 1, c over b's: 5 is seen unless both are gone
        StampedRows x = Check.stored(HEAD + "begin a;put a 0 1;done a;begin b;put b 1 5;done b;begin c;put c 1 5;done c;"
            + "unsure a;unsure b;unsure c;seen 1 5");
        // c done: 5 by c. c gone, b done: 5 by b. b gone, c done: 5 by c. both gone: none
        due(x, "asking", 0, 1, 2, 3, 4, 5);
        // a: 3 with, 3 without; b: 2 with, 4 without; c the same
        ends(x, "asking", 7, 0, 0, 3, -2);
        StampedRows second = Check.stored(HEAD + "begin a;put a 0 1;done a;begin b;put b 1 2;done b;begin c;put c 2 3;"
            + "done c;unsure a;unsure b;unsure c;seen 0 1;seen 2 none");
        due(second, "the second is unknown", 4, 6);
        ends(second, "the second is unknown", 6, 4, 1, 1, 1);
        StampedRows last = Check.stored(HEAD + "begin a;put a 0 1;done a;begin b;put b 1 2;done b;unsure a;unsure b;"
            + "seen 0 none");
        due(last, "the first is sure", 1, 3);
        ends(last, "the first is sure", 3, 1, 1, 1, 0);
        // the last done in the chain 5, 6, 5, 6 is seen: y gone and x done, or z done
        StampedRows chain = Check.stored(HEAD + "begin s;put s 0 5;done s;begin x;put x 0 6;done x;begin y;put y 0 5;done y;"
            + "begin z;put z 0 6;gone z;unsure x;unsure y;unsure z;seen 0 6");
        due(chain, "in some, but not in all", 2, 4, 5, 6, 7);
        ends(chain, "in some, but not in all", 7, 0, 0, 3, 0);
        StampedRows four = Check.stored(HEAD + "begin a;done a;begin b;done b;begin c;done c;begin d;done d;unsure a;"
            + "unsure b;unsure c;unsure d");
        due(four, "four unsure, nothing seen", 0, 1, 2, 3, 4, 5, 6, 7, 8, 9, 10, 11, 12, 13, 14, 15);
        ends(four, "four unsure, nothing seen", 15, 0, 0, 8, -2);
    }

    private static void hadSince() {
        // b .. i go round the ring once: the ninth has a's STAMP, whose VERSION is FROZEN by then
        String round = "store ring 8 rows 2 start 0 crash 0;begin a;put a 0 1;done a;freeze;begin b;done b;begin c;done c;"
            + "begin d;done d;begin e;done e;begin f;done f;begin g;done g;begin h;done h;begin i;put i 1 3;done i;";
        StampedRows x = Check.stored(round + "unsure a;seen 0 1;seen 1 3");
        Check.same("i has a's stamp", x.version(1, 2), 0);
        due(x, "a's stamp was had since", 0, 1);
        StampedRows y = Check.stored(round + "unsure a;unsure i;seen 0 1;seen 1 none");
        due(y, "a changes nothing, i does", 2, 3);
        ends(y, "a changes nothing, i does", 3, 2, 0, 1, 1);
    }

    private static void whatStays() {
        StampedRows x = Check.stored(HEAD + "begin a;put a 0 1;gone a;unsure a;seen 0 1;begin b");
        due(x, "at first", 1);
        x.put(0, 0, 1);
        x.done(0);
        x.clear();
        due(x, "later acts change nothing", 1);
        ends(x, "later acts change nothing", 1, 1, 0, 1, 0);
        Check.store(x, "store");
        due(x, "a store with a fault changes nothing", 1);
        // told ahead of ACTS that come behind: what counts is how all lay in the end
        StampedRows y = Check.stored(HEAD + "seen 0 4;begin a;put a 0 1;done a;unsure a;begin b;put b 0 4;done b");
        due(y, "behind all lines", 0, 1);
        StampedRows cleared = Check.stored(HEAD + "begin a;put a 0 1;gone a;clear;unsure a;seen 0 1");
        due(cleared, "what is cleared stays so");
        StampedRows frozen = Check.stored(HEAD + "begin a;put a 0 1;done a;freeze;unsure a;seen 0 1");
        due(frozen, "what is frozen stays so", 0, 1);
    }
}
