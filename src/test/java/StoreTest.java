/** Promises 1 to 5: a new object, feed, store, fault, where. */
final class StoreTest {
    private static final String HEAD = "store ring 8 rows 4 start 0 crash 0";

    private StoreTest() {
    }

    public static void main(String[] args) {
        newObject();
        feed();
        store();
        storeAnew();
        tokens();
        form();
        names();
        again();
        bounds();
        many();
        lacks();
        ended();
        refused();
        leftmost();
        faultAndWhere();
        Check.end();
    }

    private static void newObject() {
        StampedRows x = new StampedRows();
        for (int what = 0; what < 10; what++) {
            Check.same("new: size(" + what + ")", x.size(what), 0);
        }
        Check.same("new: trouble()", x.trouble(), 0);
        Check.same("new: fault()", x.fault(), 0);
        Check.same("new: where()", x.where(), -1);
        Check.refused("new: next()", x, x.next(), -1, 1);
    }

    private static void feed() {
        StampedRows x = new StampedRows();
        x.next();
        for (int i = 1; i <= 45; i++) {
            Check.same("feed " + i, x.feed(-1, 0, 1, 2, 3), 20 * i);
        }
        Check.same("feed 46", x.feed(0, 0, 0, 0, 0), -1);
        Check.same("feed 46: size(9)", x.size(9), 900);
        Check.same("feed leaves trouble()", x.trouble(), 1);
        Check.refused("store(901)", x, x.store(901), -1, 2);
        Check.refused("store(900)", x, x.store(900), -1, 4);
        Check.same("store(900): size(9)", x.size(9), 0);
        Check.same("feed: highest byte first", x.feed(('s' << 24) + ('t' << 16) + ('o' << 8) + 'r', 'e' << 24, 0, 0, 0), 20);
        x.store(6);
        Check.same("feed: store, then a byte 0", x.fault(), 1);
        Check.same("feed: store, then a byte 0", x.where(), 5);
    }

    private static void store() {
        StampedRows x = new StampedRows();
        Check.feed(x, HEAD + ";begin a;put a 0 7; put a 3 8 junk");
        int bytes = x.size(9);
        Check.refused("store(-1)", x, x.store(-1), -1, 2);
        Check.refused("store beyond", x, x.store(bytes + 1), -1, 2);
        Check.same("store beyond: the tape stays", x.size(9), bytes);
        int n = (HEAD + ";begin a;put a 0 7; put a 3 8").length();
        Check.refused("store", x, x.store(n), 2, 0);
        Check.same("store: the tape is empty", x.size(9), 0);
        Check.same("store: nothing to undo", x.size(7), 0);
        x.begin();
        x.image();
        Check.store(x, "store");
        Check.same("store with a fault: the STORE stays", x.size(3), 2);
        Check.same("store with a fault: what can be undone stays", x.size(7), 1);
        Check.same("store with a fault: images stay", x.size(8), 1);
        Check.same("store anew", Check.store(x, "store ring 64 rows 8 start 63 crash 100"), 0);
        Check.same("store anew: nothing to undo", x.size(7), 0);
        Check.same("store anew: no images", x.size(8), 0);
        Check.same("store anew: back(0)", x.back(0), false);
        Check.same("store anew: running()", x.running(), 0);
        Check.same("store anew: next()", x.next(), 63);
    }

    /** What was there ahead of a new text must leave nothing behind, neither in the STORE nor in the reading. */
    private static void storeAnew() {
        StampedRows x = Check.stored("store ring 64 rows 8 start 0 crash 9;begin a;put a 7 3;done a;begin b;put b 6 3;"
            + "gone b;begin c;begin d;put d 0 1;unsure a;unsure b;seen 7 1;seen 6 none");
        x.gone(0);
        Check.same("store anew", Check.store(x, HEAD + ";begin a;begin e;seen 3 none"), 0);
        Check.same("store anew: running()", x.running(), 3);
        Check.same("store anew: snapshot", x.writer(1, 2), 1);
        Check.same("store anew: nobody's stamp", x.counts(0, 7), 0);
        Check.same("store anew: horizon()", x.horizon(), 0);
        Check.same("store anew: size(2)", x.size(2), 0);
        Check.same("store anew: size(3)", x.size(3), 0);
        Check.same("store anew: size(5)", x.size(5), 0);
        Check.same("store anew: size(6)", x.size(6), 1);
        Check.same("store anew: fits()", x.fits(), 1);
        Check.same("store anew: fitAt(0)", x.fitAt(0), 0);
        Check.same("store anew: judge()", x.judge(), -2);
        Check.same("store anew: a name of the former text", Check.store(x, HEAD + ";done d"), -1);
        Check.same("store anew: a name of the former text", x.fault(), 2);
        Check.same("store anew: no store ahead", Check.store(x, "clear"), -1);
        Check.same("store anew: no store ahead", x.fault(), 6);
        Check.same("store: all that a tape holds", Check.store(x, full()), 1);
    }

    /** A text of all 900 bytes. */
    private static String full() {
        StringBuilder text = new StringBuilder(HEAD + ";begin a");
        while (text.length() < 885) {
            text.append(";put a 0 12");
        }
        while (text.length() < 900) {
            text.append(' ');
        }
        return text.toString();
    }

    /** A FAULT's number and place; 0 for none. */
    private static void due(String text, int fault, int place) {
        StampedRows x = new StampedRows();
        int answer = Check.store(x, text);
        Check.same("fault of " + text, x.fault(), fault);
        Check.same("place in " + text, x.where(), fault == 0 ? -1 : place);
        Check.same("trouble of " + text, x.trouble(), fault == 0 ? 0 : 4);
        Check.isTrue("store answers NONE just with a fault: " + text, answer == -1 == (fault != 0));
    }

    private static void behindHead(String lines, int fault, int place) {
        due(HEAD + ";" + lines, fault, HEAD.length() + 1 + place);
    }

    private static void tokens() {
        due("store ring 8 rows 4 start 0 crash 0", 0, 0);
        due("   store   ring 08 rows 4 start 000 crash 100   ", 0, 0);
        due("storering8rows4start0crash0", 1, 0);
        due("store ring8rows4start0crash0;begin a;put a0 1;done a", 0, 0);
        behindHead("begin abcdefgh", 0, 0);
        behindHead("begin abcdefghi", 1, 6);
        behindHead("begin A", 1, 6);
        behindHead("begin {", 1, 6);
        behindHead("begin `", 1, 6);
        behindHead("begin a;put a /", 1, 14);
        behindHead("begin a;put a :", 1, 14);
        behindHead("begin a;put a 0 1{", 1, 17);
        behindHead("begin a\n", 1, 7);
        behindHead("begin a\u00e9", 1, 7);
        behindHead("begin a;put a 0 1000", 1, 16);
        behindHead("begin a;put a 0 -1", 1, 16);
        behindHead("begin a;put a 0000 1", 1, 14);
        behindHead("begin a,done a", 1, 7);
    }

    private static void form() {
        due("", 1, 0);
        due("    ", 1, 4);
        due(";", 1, 0);
        due("hello", 1, 0);
        due("12", 1, 0);
        due("none", 1, 0);
        due("ring", 1, 0);
        due("store", 1, 5);
        due("store rows 4", 1, 6);
        due("store ring", 1, 10);
        due("store ring x", 1, 11);
        due("store ring 8 ring 4", 1, 13);
        due("store ring 8 rows 4 crash 0", 1, 20);
        due("store ring 8 rows 4 start 0", 1, 27);
        due("store ring 8 rows 4 start 0 crash  ", 1, 35);
        due(HEAD + " 5", 1, 36);
        due(HEAD + ";", 1, 36);
        due(HEAD + ";  ", 1, 38);
        due(HEAD + ";;clear", 1, 36);
        behindHead("begin", 1, 5);
        behindHead("begin 1", 1, 6);
        behindHead("begin store", 1, 6);
        behindHead("begin none", 1, 6);
        behindHead("begin seen", 1, 6);
        behindHead("begin a b", 1, 8);
        behindHead("begin a;put", 1, 11);
        behindHead("begin a;put 0 1", 1, 12);
        behindHead("begin a;put done 1", 1, 12);
        behindHead("begin a;put a b", 1, 14);
        behindHead("begin a;put a 0", 1, 15);
        behindHead("begin a;put a 0 none", 1, 16);
        behindHead("begin a;put a 0 1 2", 1, 18);
        behindHead("begin a;drop a 0 0", 1, 17);
        behindHead("begin a;done", 1, 12);
        behindHead("begin a;done a a", 1, 15);
        behindHead("begin a;gone a 1", 1, 15);
        behindHead("clear a", 1, 6);
        behindHead("freeze 0", 1, 7);
        behindHead("unsure 0", 1, 7);
        behindHead("unsure", 1, 6);
        behindHead("seen", 1, 4);
        behindHead("seen a", 1, 5);
        behindHead("seen 0", 1, 6);
        behindHead("seen 0 nona", 1, 7);
        behindHead("seen 0 none 1", 1, 12);
        behindHead("seen 0;", 1, 6);
    }

    private static void names() {
        behindHead("begin ring;put ring 0 1;done ring;begin rows;begin start;begin crash", 0, 0);
        behindHead("begin az;begin za;begin a;begin z;put za 0 1;done az", 0, 0);
        behindHead("begin az;done za", 2, 14);
        behindHead("begin a;done aa", 2, 13);
        behindHead("begin aa;done a", 2, 14);
        behindHead("put a 0 1", 2, 4);
        behindHead("begin a;drop b 0", 2, 13);
        behindHead("gone a;begin a", 2, 5);
        behindHead("unsure a", 2, 7);
    }

    private static void again() {
        behindHead("begin a;begin b;begin a", 3, 22);
        behindHead("begin a;done a;begin a", 3, 21);
        behindHead("begin a;done a;unsure a;unsure a", 3, 31);
        behindHead("begin a;gone a;begin b;done b;unsure a;unsure b", 0, 0);
        behindHead("seen 0 none;seen 1 none;seen 0 none", 3, 29);
        behindHead("seen 3 5;seen 3 none", 3, 14);
        behindHead("store ring 8 rows 4 start 0 crash 0", 3, 0);
        behindHead("clear;store", 8, 5);
    }

    private static void bounds() {
        due("store ring 6", 4, 11);
        due("store ring 7", 4, 11);
        due("store ring 9", 4, 11);
        due("store ring 63", 4, 11);
        due("store ring 65", 4, 11);
        due("store ring 66", 4, 11);
        due("store ring 64 rows 0", 4, 19);
        due("store ring 64 rows 9", 4, 19);
        due("store ring 64 rows 8 start 64", 4, 27);
        due("store ring 64 rows 1 start 63 crash 101", 4, 36);
        due("store ring 64 rows 1 start 63 crash 100", 0, 0);
        due("store ring 8 rows 1 start 7 crash 0", 0, 0);
        behindHead("begin a;put a 4 1", 4, 14);
        behindHead("begin a;put a 3 999", 0, 0);
        behindHead("begin a;drop a 4", 4, 15);
        behindHead("seen 4 none", 4, 5);
        behindHead("seen 3 none", 0, 0);
        behindHead("seen 999", 4, 5);
    }

    private static void many() {
        StringBuilder twelve = new StringBuilder("store ring 64 rows 1 start 0 crash 0");
        for (char c = 'a'; c <= 'l'; c++) {
            twelve.append(";begin ").append(c).append(";done ").append(c);
        }
        due(twelve.toString(), 0, 0);
        due(twelve + ";begin m", 5, twelve.length() + 1);
        due(twelve + ";begin", 5, twelve.length() + 1);
        String four = twelve + ";unsure d;unsure c;unsure b;unsure a";
        due(four, 0, 0);
        due(four + ";unsure e", 5, four.length() + 1);
        due(four + ";unsure a", 5, four.length() + 1);
    }

    private static void lacks() {
        due("begin a", 6, 0);
        due("  begin 5", 6, 2);
        due("seen 0 1;" + HEAD, 6, 0);
        due("put", 6, 0);
        due("clear", 6, 0);
        due("freeze;", 6, 0);
        due("unsure a", 6, 0);
        due("done", 6, 0);
    }

    private static void ended() {
        behindHead("begin a;done a;put a 0 1", 7, 19);
        behindHead("begin a;gone a;drop a 0", 7, 20);
        behindHead("begin a;gone a;gone a", 7, 20);
        behindHead("begin a;done a;done a", 7, 20);
        behindHead("begin a;unsure a", 7, 15);
        behindHead("begin a;gone a;unsure a", 0, 0);
    }

    private static void refused() {
        behindHead("clear", 8, 5);
        behindHead("freeze", 8, 6);
        behindHead("clear  ;begin a", 8, 7);
        behindHead("clear  ", 8, 7);
        behindHead("begin a;put a 0 1;gone a;clear", 0, 0);
        behindHead("begin a;put a 0 1;gone a;clear;clear", 8, 36);
        behindHead("begin a;put a 0 1;done a;freeze", 0, 0);
        behindHead("begin a;put a 0 1;done a;freeze;freeze", 8, 38);
        behindHead("begin a;drop a 0", 8, 16);
        // the stamp 0 of a's version has an age of 4, half the ring, when f would begin
        String five = "begin a;put a 0 1;done a;begin b;done b;begin c;done c;begin d;done d";
        behindHead(five, 0, 0);
        behindHead(five + ";begin f", 8, five.length() + 8);
        String six = "store ring 16 rows 1 start 0 crash 0;begin a;begin b;begin c;begin d;begin e;begin f";
        due(six, 0, 0);
        due(six + ";begin g", 8, six.length() + 8);
        // held: b's first; lost: b was first and is done
        String held = "begin a;begin b;put b 0 1;";
        behindHead(held + "put a 0 2", 8, held.length() + 9);
        behindHead(held + "drop a 0", 8, held.length() + 8);
        behindHead(held + "done b;put a 0 2", 8, held.length() + 16);
        behindHead(held + "done b;drop a 0;done a", 8, held.length() + 15);
        behindHead(held + "gone b;put a 0 2", 0, 0);
        noNumberFree();
    }

    private static void noNumberFree() {
        StringBuilder text = new StringBuilder("store ring 64 rows 8 start 0 crash 0");
        for (char c = 'a'; c <= 'f'; c++) {
            text.append(";begin ").append(c);
            for (int row = 0; row < 8; row++) {
                text.append(";put ").append(c).append(row).append(" 1");
            }
            text.append(";done ").append(c);
        }
        text.append(";begin g");
        due(text.toString(), 0, 0);
        due(text + ";put g 0 1", 8, text.length() + 10);
        due(text + ";drop g 0", 0, 0);
    }

    private static void leftmost() {
        due("store ring 9 rows 99 $", 4, 11);
        due("begin $", 6, 0);
        behindHead("put b 9 1000", 2, 4);
        behindHead("begin a;drop a 0 $", 1, 17);
        behindHead("begin a;drop a 0;$", 8, 16);
        behindHead("begin a;unsure a;unsure a", 7, 15);
    }

    private static void faultAndWhere() {
        StampedRows x = new StampedRows();
        Check.store(x, HEAD + ";clear");
        Check.same("fault()", x.fault(), 8);
        Check.same("where()", x.where(), 41);
        x.feed(0, 0, 0, 0, 0);
        x.size(0);
        Check.same("where() behind feed and size", x.where(), 41);
        x.store(21);
        Check.same("fault() behind a store refused by 2", x.fault(), 8);
        Check.same("where() behind a store refused by 2", x.where(), -1);
        x.store(20);
        Check.same("fault() of zeros", x.fault(), 1);
        Check.same("where() of zeros", x.where(), 0);
        Check.store(x, HEAD);
        Check.same("fault() of a good store", x.fault(), 0);
        Check.same("where() of a good store", x.where(), -1);
        Check.store(x, "");
        x.next();
        Check.same("fault() stays", x.fault(), 1);
        Check.same("where() behind next()", x.where(), -1);
    }
}
