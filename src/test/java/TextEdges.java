/** Sentences of Terms I, and of promises 1 to 5. */
final class TextEdges {
    private static final String HEAD = "store ring 8 rows 4 start 0 crash 0";
    private static final String WIDE = "store ring 64 rows 8 start 0 crash 0";
    private static final String[] RESERVED = {"store", "begin", "put", "drop", "done", "gone", "clear", "freeze", "unsure",
        "seen", "none"};

    private TextEdges() {
    }

    static void run() {
        tape();
        blanks();
        words();
        wholes();
        lines();
        storeLine();
        actLines();
        evidenceLines();
        names();
        firstFault();
        faultOfForm();
        faultsOfNames();
        faultsOfNumbers();
        faultOfLacks();
        faultOfEnded();
        faultOfRefused();
        newObject();
        feed();
        store();
        storeRefused();
        faultAndWhere();
    }

    private static void behind(int number, String marked) {
        Edge.fault(number, HEAD + ";" + marked);
    }

    private static void goodBehind(String lines) {
        Edge.good(HEAD + ";" + lines);
    }

    private static String padded(String text, int length) {
        return text + " ".repeat(length - text.length());
    }

    // Terms I

    private static void tape() {
        Edge.says("I", "THE TEXT of a STORE (THE TAPE has 900 bytes");
        StampedRows x = new StampedRows();
        Edge.good(x, padded(HEAD + ";begin a", 893) + ";done a");
        Edge.answers(x, "running()", 0);
        Edge.fault(1, padded(HEAD, 899) + "^$");
        Edge.fault(1, padded(HEAD + ";", 900) + "^");
    }

    private static void blanks() {
        Edge.says("I", "blanks, 32, part TOKENS and mean nothing else");
        Edge.good("   store  ring   8 rows 4 start 0 crash 0  ;  begin  a  ;put  a  0  1   ");
        Edge.good("store ring8rows4start0crash0;begin a;put a0 1;drop a0;seen 0none;begin b;gone a");
        behind(1, "^be gin a");
        behind(1, "begin a ^b");
        behind(1, "begin a;put a 0 9 ^9");
        Edge.fault(4, "store ring ^6 4 rows 4 start 0 crash 0");
        for (char sign = 0; sign < 256; sign++) {
            boolean begins = sign == ' ' || sign == ';' || sign >= '0' && sign <= '9' || sign >= 'a' && sign <= 'z';
            if (!begins && sign != '^') {
                behind(1, "begin a^" + sign + ";done a");
                behind(1, "begin ^" + sign + "a");
            }
        }
    }

    private static void words() {
        Edge.says("I", "TOKENS: WORDS of 1 to 8 small letters that stand together");
        goodBehind("begin a;done a;begin z;done z;begin abcdefgh;done abcdefgh");
        behind(1, "begin ^abcdefghi");
        behind(1, "begin abcdefgh;done ^abcdefghi");
        behind(1, "begin ^abcdefghijklmnopqrstuvwxyz");
        behind(1, "^beginabc a");
        behind(1, "^begina");
        behind(1, "^begi a");
        behind(1, "begin ^A");
        behind(1, "begin ^Z");
        behind(1, "begin ^`");
        behind(1, "begin ^{");
        // NAMES of other lengths are others
        goodBehind("begin a;done a;begin aa;done aa;begin b;done b;begin bb;done bb;begin bbb;done bbb;begin ab;begin ba");
        // of eight letters all mean something
        goodBehind("begin abcdefgh;begin abcdefgz;begin zbcdefgh;begin abcdefg;done abcdefg;done abcdefgz");
        behind(2, "begin abcdefgh;done ^abcdefgi");
        behind(2, "begin abcdefgh;done ^bbcdefgh");
        behind(2, "begin abcdefgh;done ^bcdefgh");
    }

    private static void wholes() {
        Edge.says("I", "WHOLES of 1 to 3 digits that do");
        Edge.good("store ring 008 rows 04 start 000 crash 100;begin a;put a 000 999;put a 3 0;put a 03 00");
        Edge.fault(1, "store ring ^0008 rows 4 start 0 crash 0");
        behind(1, "begin a;put a ^0000 1");
        behind(1, "begin a;put a 0 ^1000");
        behind(1, "seen 0 ^0001");
        // 2 to the 32nd and 8, 2 to the 64th and 8
        Edge.fault(1, "store ring ^4294967304 rows 4 start 0 crash 0");
        Edge.fault(1, "store ring ^18446744073709551624 rows 4 start 0 crash 0");
        behind(1, "begin a;put a ^/");
        behind(1, "begin a;put a ^:");
        behind(1, "begin a;put a ^-1 1");
        StampedRows x = Edge.stored(HEAD + ";begin a;put a 0 099;put a 1 90;put a 2 009;done a");
        Edge.answers(x, "fresh(0)", 99);
        Edge.answers(x, "fresh(1)", 90);
        Edge.answers(x, "fresh(2)", 9);
    }

    private static void lines() {
        Edge.says("I", "single ones of ;): LINE {; LINE}. LINE, one of:");
        Edge.good(HEAD);
        Edge.fault(1, "^");
        Edge.fault(1, " ^");
        Edge.fault(1, " ".repeat(899) + "^");
        Edge.fault(1, "^;" + HEAD);
        Edge.fault(1, HEAD + ";^");
        Edge.fault(1, HEAD + ";  ^");
        behind(1, "^;begin a");
        behind(1, " ^;begin a");
        behind(1, "begin a ^begin b");
    }

    private static void storeLine() {
        Edge.says("I", "store ring WHOLE rows WHOLE start WHOLE crash WHOLE");
        Edge.fault(1, "store^");
        Edge.fault(1, "store ^8 rows 4 start 0 crash 0");
        Edge.fault(1, "store ring ^rows 4 start 0 crash 0");
        Edge.fault(1, "store ring 8 ^4 start 0 crash 0");
        Edge.fault(1, "store ring 8 rows 4 ^crash 0 start 0");
        Edge.fault(1, "store ring 8 rows 4 start 0 crash^");
        Edge.fault(1, HEAD + " ^0");

        Edge.says("I", "(8 .. 64, even;");
        for (int ring = 0; ring < 1000; ring++) {
            String rest = ring + " rows 4 start 0 crash 0";
            if (ring >= 8 && ring <= 64 && ring % 2 == 0) {
                Edge.tells(Edge.stored("store ring " + rest), "size(0)", ring);
            } else {
                Edge.fault(4, "store ring ^" + rest);
            }
        }

        Edge.says("I", "1 .. 8;");
        Edge.tells(Edge.stored("store ring 8 rows 1 start 0 crash 0"), "size(1)", 1);
        Edge.tells(Edge.stored("store ring 8 rows 8 start 0 crash 0"), "size(1)", 8);
        Edge.fault(4, "store ring 8 rows ^0 start 0 crash 0");
        Edge.fault(4, "store ring 8 rows ^9 start 0 crash 0");
        Edge.fault(4, "store ring 8 rows ^999 start 0 crash 0");

        Edge.says("I", "0 .. ring less 1;");
        Edge.answers(Edge.stored("store ring 8 rows 8 start 0 crash 0"), "next()", 0);
        Edge.answers(Edge.stored("store ring 8 rows 8 start 7 crash 0"), "next()", 7);
        Edge.answers(Edge.stored("store ring 64 rows 8 start 63 crash 0"), "next()", 63);
        Edge.fault(4, "store ring 8 rows 8 start ^8 crash 0");
        Edge.fault(4, "store ring 62 rows 8 start ^62 crash 0");
        Edge.fault(4, "store ring 64 rows 8 start ^64 crash 0");
        Edge.fault(4, "store ring 64 rows 8 start ^999 crash 0");

        Edge.says("I", "0 .. 100 in a hundred)");
        String writer = ";begin a;put a 0 1";
        StampedRows never = Edge.stored(HEAD + writer);
        Edge.answers(never, "odds(0, 1, false)", 1);
        Edge.answers(never, "odds(0, 1, true)", 1);
        StampedRows always = Edge.stored("store ring 8 rows 1 start 0 crash 100" + writer);
        Edge.answers(always, "odds(0, 1, false)", 0);
        StampedRows seldom = Edge.stored("store ring 8 rows 1 start 0 crash 1" + writer);
        Edge.answers(seldom, "odds(0, 1, false)", 99);
        Edge.answers(seldom, "odds(0, 1, true)", 100);
        Edge.fault(4, "store ring 8 rows 8 start 0 crash ^101");
        Edge.fault(4, "store ring 8 rows 8 start 0 crash ^999");

        Edge.says("I", "ahead of all others");
        Edge.fault(6, "^seen 0 none;" + HEAD);
        Edge.fault(6, "^begin a;" + HEAD);
        behind(3, "seen 0 none;^" + HEAD);
    }

    private static void actLines() {
        Edge.says("I", "begin NAME, put WRITER ROW WHOLE, drop WRITER ROW, done WRITER, gone WRITER, clear, or freeze:");
        goodBehind("begin a;put a 0 1;drop a 0;done a;begin b;put b 1 1;gone b;clear;begin c;put c 2 2;done c;freeze");
        behind(1, "begin^");
        behind(1, "begin ^0");
        behind(1, "begin a ^a");
        behind(1, "begin a;put^");
        behind(1, "begin a;put ^0 0 1");
        behind(1, "begin a;put a^");
        behind(1, "begin a;put a ^a 1");
        behind(1, "begin a;put a 0^");
        behind(1, "begin a;put a 0 ^none");
        behind(1, "begin a;put a 0 1 ^1");
        behind(1, "begin a;drop^");
        behind(1, "begin a;drop ^0 0");
        behind(1, "begin a;drop a^");
        behind(1, "begin a;put a 0 1;drop a 0 ^1");
        behind(1, "begin a;done^");
        behind(1, "begin a;done ^0");
        behind(1, "begin a;done a ^0");
        behind(1, "begin a;gone^");
        behind(1, "begin a;gone ^0");
        behind(1, "begin a;gone a ^a");
        behind(1, "clear ^0");
        behind(1, "freeze ^a");

        Edge.says("I", "the ACTS of III, done in that order");
        StampedRows x = Edge.stored(HEAD + ";begin a;put a 0 1;put a 0 2;begin b;done a;begin c");
        Edge.answers(x, "read(1, 0)", -2);
        Edge.answers(x, "read(0, 0)", 2);
        Edge.answers(x, "next()", 3);

        Edge.says("I", "(ROW: a WHOLE, 0 .. rows less 1;");
        String one = "store ring 8 rows 1 start 0 crash 0;begin a;";
        Edge.good(one + "put a 0 1;drop a 0;seen 0 none");
        Edge.fault(4, one + "put a ^1 1");
        Edge.fault(4, one + "drop a ^1");
        Edge.fault(4, one + "seen ^1 none");
        String eight = "store ring 8 rows 8 start 0 crash 0;begin a;";
        Edge.good(eight + "put a 7 1;drop a 7;seen 7 none");
        Edge.fault(4, eight + "put a ^8 1");
        Edge.fault(4, eight + "drop a ^8");
        Edge.fault(4, eight + "seen ^8 none");
        Edge.fault(4, eight + "put a ^999 1");

        Edge.says("I", "0 .. 999;");
        StampedRows values = Edge.stored(HEAD + ";begin a;put a 0 0;put a 1 999;done a;seen 0 0;seen 1 999");
        Edge.answers(values, "fresh(0)", 0);
        Edge.answers(values, "fresh(1)", 999);
        Edge.answers(values, "judge()", -2);
        behind(1, "begin a;put a 0 ^1000");

        Edge.says("I", "up to 12 begun;");
        Edge.answers(Edge.stored(twelve()), "next()", 12);
        Edge.fault(5, twelve() + ";^begin m");

        Edge.says("I", "a WRITER runs)");
        behind(7, "begin a;done a;put ^a 0 1");
        behind(7, "begin a;gone a;drop ^a 0");
        behind(7, "begin a;done a;gone ^a");
        behind(7, "begin a;gone a;done ^a");
    }

    /** Twelve who begin and are done at once, a to l. */
    private static String twelve() {
        StringBuilder text = new StringBuilder(WIDE);
        for (char name = 'a'; name <= 'l'; name++) {
            text.append(";begin ").append(name).append(";done ").append(name);
        }
        return text.toString();
    }

    private static void evidenceLines() {
        Edge.says("I", "unsure WRITER (one who is done or gone;");
        Edge.tells(Edge.stored(HEAD + ";begin a;done a;begin b;gone b;unsure a;unsure b"), "size(5)", 2);
        behind(7, "begin a;unsure ^a");
        behind(7, "begin a;unsure ^a;done a");

        Edge.says("I", "each once;");
        behind(3, "begin a;done a;unsure a;unsure ^a");
        behind(3, "begin a;gone a;begin b;gone b;unsure a;unsure b;unsure ^a");

        Edge.says("I", "up to 4), or");
        String four = twelve() + ";unsure a;unsure l;unsure b;unsure c";
        Edge.tells(Edge.stored(four), "size(5)", 4);
        Edge.tells(Edge.stored(twelve() + ";seen 0 none;seen 1 none;seen 2 none;seen 3 none;unsure a;unsure l;unsure b;"
            + "unsure c"), "size(5)", 4);
        Edge.fault(5, four + ";^unsure d");

        Edge.says("I", "seen ROW WHOLE, seen ROW none");
        StampedRows x = Edge.stored(HEAD + ";begin a;put a 0 0;done a;seen 1 none;seen 0 0");
        Edge.answers(x, "judge()", -2);
        Edge.tells(x, "size(6)", 2);
        behind(1, "seen^");
        behind(1, "seen ^none");
        behind(1, "seen 0^");
        behind(1, "seen 0 ^seen");
        behind(1, "seen 0 ^nones");
        behind(1, "seen 0 none ^none");
        behind(1, "seen 0 1 ^1");

        Edge.says("I", "(what a reader saw who began behind all LINES;");
        StampedRows late = Edge.stored(HEAD + ";seen 0 5;begin a;put a 0 5;done a");
        Edge.answers(late, "judge()", -2);
        Edge.answers(late, "fits()", 1);

        Edge.says("I", "each ROW once)");
        StampedRows all = Edge.stored("store ring 8 rows 8 start 0 crash 0;seen 7 none;seen 6 none;seen 5 none;seen 4 none;"
            + "seen 3 none;seen 2 none;seen 1 none;seen 0 none");
        Edge.tells(all, "size(6)", 8);
        behind(3, "seen 0 none;seen ^0 none");
        behind(3, "seen 3 none;seen 1 0;seen ^3 0");
    }

    private static void names() {
        Edge.says("I", "NAMES are WORDS but store, begin, put, drop, done, gone, clear, freeze, unsure, seen, none;");
        for (String word : RESERVED) {
            behind(1, "begin ^" + word);
            behind(1, "begin a;put ^" + word + " 0 1");
            behind(1, "begin a;drop ^" + word + " 0");
            behind(1, "begin a;done ^" + word);
            behind(1, "begin a;gone ^" + word);
            behind(1, "unsure ^" + word);
            // a letter more or less makes a NAME of it
            goodBehind("begin " + word + "s;done " + word + "s");
            goodBehind("begin " + word.substring(1) + ";done " + word.substring(1));
            goodBehind("begin " + word.substring(0, word.length() - 1));
        }
        goodBehind("begin ring;put ring 0 1;done ring;begin rows;done rows;begin start;gone start;begin crash");

        Edge.says("I", "each told once, ahead of its use.");
        behind(3, "begin a;begin ^a");
        behind(3, "begin a;gone a;begin ^a");
        behind(2, "done ^a;begin a");
        behind(2, "unsure ^a;begin a;done a");
    }

    private static void firstFault() {
        Edge.says("I", "FAULTS, the first that is met from the left,");
        Edge.fault(4, "store ring ^9 rows 99 $");
        Edge.fault(6, "^begin $");
        behind(2, "put ^b 9 1000");
        behind(4, "begin a;put a ^4 1000");
        behind(7, "begin a;unsure ^a;unsure a");
        behind(8, "begin a;drop a 0^;$");
        behind(8, "begin a;clear^;begin a");
        behind(3, "begin a;begin ^a;clear");
        Edge.fault(5, twelve() + ";^begin");
        Edge.fault(5, twelve() + ";^begin a");
        Edge.fault(5, twelve() + ";^begin $");

        Edge.says("I", "of one place the least number:");
        // the end of an empty text is FORM and LACKS, the TOKEN behind a refused ACT FORM and REFUSED
        Edge.fault(1, "^");
        behind(1, "clear ^clear");
        behind(1, "begin a;drop a 0 ^$");
        behind(1, "begin a;drop a 0 ^9");
    }

    private static void faultOfForm() {
        Edge.says("I", "1 FORM: the first byte that begins no TOKEN,");
        Edge.fault(1, "^$");
        Edge.fault(1, "   ^\u00ff");
        Edge.fault(1, "store^.");
        behind(1, "begin a;done a ^\t");
        behind(1, "begin ^$$");
        behind(1, "begin ^ninelette");
        for (char sign : "$/:`{".toCharArray()) {
            noTokenAnywhere(sign);
        }

        Edge.says("I", "or TOKEN with which no STORE goes on");
        Edge.fault(1, "^5");
        Edge.fault(1, "^none");
        Edge.fault(1, "^ring 8");
        Edge.fault(1, "store ^;");
        behind(1, "^none");
        behind(1, "^a");
        behind(1, "^1");
        behind(1, "begin a;put a ^;");

        Edge.says("I", "(the end: its place).");
        Edge.fault(1, "store ring^");
        Edge.fault(1, "store ring   ^");
        behind(1, "begin a;put a 0   ^");
        behind(1, "seen 0^");
        behind(1, "^");
        // the bytes behind the text are not part of it
        StampedRows x = new StampedRows();
        Check.feed(x, HEAD + ";begin abc");
        Edge.same("store(41)", x.store(41), -1);
        Edge.same("where()", x.where(), 41);
    }

    /** Whatever TOKEN is due, a sign that begins none is no FAULT but FORM. */
    private static void noTokenAnywhere(char sign) {
        String text = HEAD + " ; begin a ; put a 0 1 ; drop a 0 ; done a ; begin b ; gone b ; clear ; begin c ; put c 1 2 ; "
            + "done c ; freeze ; unsure a ; seen 0 none ; seen 1 2";
        Edge.good(text);
        for (int place = 0; place < text.length(); place++) {
            boolean isFirst = text.charAt(place) != ' ' && (place == 0 || text.charAt(place - 1) == ' ');
            if (isFirst) {
                Edge.fault(1, text.substring(0, place) + "^" + sign + text.substring(place));
            }
        }
    }

    private static void faultsOfNames() {
        Edge.says("I", "2 a NAME that isn't told; at it.");
        behind(2, "put ^a 0 1");
        behind(2, "drop ^a 0");
        behind(2, "done ^a");
        behind(2, "gone ^a");
        behind(2, "unsure ^a");
        behind(2, "begin a;done ^aa");
        behind(2, "begin aa;done   ^a");

        Edge.says("I", "3 a NAME told again; at it;");
        behind(3, "begin abc;begin a;begin ^abc");
        Edge.fault(3, twelve().replace(";begin l;done l", "") + ";begin ^k");

        Edge.says("I", "a WRITER unsure already; at it;");
        behind(3, "begin a;done a;unsure a;begin b;gone b;unsure ^a;unsure b");

        Edge.says("I", "a ROW seen already; at it;");
        behind(3, "seen 2 none;seen ^2");
        behind(3, "seen 2 none;seen ^002 none");

        Edge.says("I", "a second store: at that WORD.");
        Edge.fault(3, HEAD + ";^store");
        Edge.fault(3, HEAD + ";begin a; ^store ring 9");
        Edge.fault(1, HEAD + ";^stor");
    }

    private static void faultsOfNumbers() {
        Edge.says("I", "4 a WHOLE out of bounds, an odd ring; at it.");
        Edge.fault(4, "store ring ^7");
        Edge.fault(4, "store ring ^9");
        Edge.fault(4, "store ring ^66");
        Edge.fault(4, "store ring 8 rows   ^0");
        Edge.fault(4, "store ring 8 rows 8 start ^8");
        Edge.fault(4, "store ring 8 rows 8 start 7 crash ^101");
        behind(4, "begin a;put a ^4");
        behind(4, "begin a;drop a ^4");
        behind(4, "seen ^4");

        Edge.says("I", "5 MANY: a thirteenth begin, a fifth unsure; at its first WORD.");
        Edge.fault(5, twelve() + "; ^begin thirteen");
        // the other ends aren't counted, but those told
        String four = twelve() + ";unsure a;unsure b;unsure c;unsure d";
        Edge.good(four);
        Edge.fault(5, four + ";^unsure e");
        Edge.fault(5, four + ";^unsure a");
        Edge.fault(5, four + ";^unsure");
    }

    private static void faultOfLacks() {
        Edge.says("I", "6 LACKS: any LINE ahead of the store; at its WORD;");
        for (int i = 1; i < RESERVED.length - 1; i++) {
            Edge.fault(6, "^" + RESERVED[i]);
            Edge.fault(6, "  ^" + RESERVED[i] + " a 0;" + HEAD);
        }

        Edge.says("I", "at the end: no store.");
        // only an empty text comes to its end without one, and FORM is the lesser number at that place
        Edge.fault(1, "^");
        Edge.fault(1, "   ^");
        // a STORE that was there before isn't the text's
        StampedRows x = Edge.stored(HEAD);
        Edge.same("store(0)", x.store(0), -1);
        Edge.same("store(0): fault()", x.fault(), 1);
        Edge.same("store of begin a", Check.store(x, "begin a"), -1);
        Edge.same("store of begin a: fault()", x.fault(), 6);
    }

    private static void faultOfEnded() {
        Edge.says("I", "7 ENDED: a WRITER who doesn't run, an unsure one who does; at it.");
        behind(7, "begin a;done a;put ^a");
        behind(7, "begin a;gone a;put  ^a 9 1000");
        behind(7, "begin a;done a;drop ^a");
        behind(7, "begin a;done a;done ^a");
        behind(7, "begin a;gone a;gone ^a");
        behind(7, "begin a;begin b;done a;begin c;done ^a");
        behind(7, "begin a;unsure ^a");
        behind(7, "begin a;done a;begin b;unsure ^b");
    }

    private static void faultOfRefused() {
        Edge.says("I", "8 REFUSED: an ACT that is refused");
        String six = "begin a;begin b;begin c;begin d;begin e;begin f";
        Edge.good(WIDE + ";" + six);
        Edge.fault(8, WIDE + ";" + six + ";begin g^");
        // the STAMP of a's VERSION is of half the ring's AGE when e would begin
        String half = "begin a;put a 0 1;done a;begin b;done b;begin c;done c;begin d;done d";
        goodBehind(half);
        behind(8, half + ";begin e^;done e");
        String held = "begin a;begin b;put b 0 1;";
        goodBehind(held + "gone b;put a 0 2");
        behind(8, held + "put a 0 2^");
        behind(8, held + "drop a 0^");
        behind(8, "begin a;drop a 0^;done a");
        Edge.good(full());
        Edge.fault(8, full() + ";put g 0 1^");

        Edge.says("I", "(CLEAR, FREEZE of none, too),");
        behind(8, "clear^");
        behind(8, "freeze^");
        behind(8, "begin a;put a 0 1;gone a;clear;clear^");
        behind(8, "begin a;put a 0 1;done a;freeze;freeze^");
        goodBehind("begin a;put a 0 1;gone a;clear;begin b;put b 0 1;done b;freeze");

        Edge.says("I", "or by which its WRITER has LOST;");
        behind(8, held + "done b;put a 0 2^");
        behind(8, held + "done b;drop a 0^;gone a");
        goodBehind(held + "done b;put a 1 2");

        Edge.says("I", "at the TOKEN behind its LINE (; or the end; any other one is FAULT 1).");
        behind(8, "clear  ^;begin a");
        behind(8, "clear  ^");
        behind(1, "clear  ^begin");
        behind(1, "begin a;drop a 0 ^1");
        behind(1, "begin a;drop a 0 ^$");
    }

    /** All 48 numbers are taken, and one more has begun. */
    private static String full() {
        StringBuilder text = new StringBuilder(WIDE);
        for (char name = 'a'; name <= 'f'; name++) {
            text.append(";begin ").append(name);
            for (int row = 0; row < 8; row++) {
                text.append(";put ").append(name).append(row).append(" 1");
            }
            text.append(";done ").append(name);
        }
        return text.append(";begin g").toString();
    }

    // promises 1 to 5

    private static void newObject() {
        Edge.says(1, "No STORE.");
        StampedRows x = new StampedRows();
        Edge.tells(x, "trouble()", 0);
        Edge.tells(x, "fault()", 0);
        Edge.tells(x, "where()", -1);
        for (int what = 0; what < 10; what++) {
            Edge.tells(x, "size(" + what + ")", 0);
        }
        Edge.same("next()", x.next(), -1);
        Edge.same("trouble()", x.trouble(), 1);
        Edge.tellsNone(x, "led(0)");
    }

    private static void feed() {
        Edge.says(2, "Twenty bytes come behind THE TAPE, of each number the highest first:");
        StampedRows x = new StampedRows();
        // the text "store ring 8 rows 4 start 0 crash 0;clear", and blanks
        Edge.does(x, "feed(1937010546, 1696625257, 1852252216, 544370551, 1931490336)",
            "feed(1937006962, 1948266528, 1668440435, 1746939963, 1668048225)",
            "feed(1914708000, 538976288, 538976288, 538976288, 538976288)");
        Edge.same("store(41)", x.store(41), -1);
        Edge.same("fault()", x.fault(), 8);
        Edge.same("where()", x.where(), 41);
        StampedRows minus = new StampedRows();
        Edge.does(minus, "feed(538976511, 0, 0, 0, 0)");
        Edge.same("store(4)", minus.store(4), -1);
        Edge.same("a byte 255", minus.where(), 3);

        Edge.says(2, "how many it has;");
        StampedRows y = new StampedRows();
        for (int n = 20; n <= 900; n += 20) {
            Edge.tells(y, "feed(MIN, MAX, -1, 0, 538976288)", n);
        }

        Edge.says(2, "NONE, and none comes, if there would be more than 900.");
        Edge.tells(y, "feed(0, 0, 0, 0, 0)", -1);
        Edge.tells(y, "feed(MIN, MAX, -1, 0, 538976288)", -1);
        Edge.tells(y, "size(9)", 900);
        StampedRows whole = new StampedRows();
        Check.feed(whole, padded(HEAD + ";begin a", 892) + ";done  a");
        Edge.tells(whole, "feed(0, 0, 0, 0, 0)", -1);
        Edge.answers(whole, "store(900)", 0);
        Edge.tells(whole, "feed(0, 0, 0, 0, 0)", 20);
    }

    private static void store() {
        Edge.says(3, "The first n bytes of THE TAPE");
        StampedRows x = new StampedRows();
        Check.feed(x, HEAD + ";begin a;put a 0 12;done a; junk");
        Edge.answers(x, "store(53)", 1);
        Edge.answers(x, "read(0, 0)", 1);
        Check.feed(x, HEAD + ";begin a");
        Edge.answers(x, "store(60)", 0);

        Edge.says(3, "(it is empty then)");
        Edge.tells(x, "size(9)", 0);
        Check.feed(x, "store ring 8");
        Edge.same("store(5)", x.store(5), -1);
        Edge.tells(x, "size(9)", 0);
        Edge.refuses(x, "store(1)", 2);
        Edge.good(x, HEAD);

        Edge.says(3, "are the STORE from now on, all its ACTS done");
        StampedRows y = Edge.stored(HEAD + ";begin a;put a 0 1;done a;begin b;unsure a;seen 0 1;seen 1 4");
        Edge.good(y, "store ring 64 rows 8 start 62 crash 5;begin b;begin c;put c 7 9;gone b;begin d");
        int[] sizes = {64, 8, 5, 1, 2, 0, 0, 0, 0, 0};
        for (int what = 0; what < sizes.length; what++) {
            Edge.tells(y, "size(" + what + ")", sizes[what]);
        }
        Edge.answers(y, "next()", 1);
        Edge.answers(y, "running()", 3);
        Edge.answers(y, "writer(0, 0)", 0);
        Edge.answers(y, "writer(0, 2)", 1);
        Edge.answers(y, "read(1, 7)", 9);
        Edge.answers(y, "freshSum()", 0);
        Edge.answers(y, "fits()", 1);
        Edge.answers(y, "judge()", -2);
        // nobody who was DONE in the STORE before COUNTS, and none of its FITS is left
        StampedRows z = Edge.stored(HEAD + ";begin a;done a;begin b;gone b;unsure a;unsure b");
        Edge.good(z, "store ring 8 rows 1 start 2 crash 0;begin c");
        Edge.answers(z, "counts(0, 0)", 0);
        Edge.answers(z, "counts(0, 1)", 0);
        Edge.answers(z, "fits()", 1);
        Edge.answers(z, "could()", 0);

        Edge.says(3, "(nothing to undo, no IMAGES):");
        Edge.does(y, "begin()", "image()", "gone(0)", "image()");
        Edge.good(y, HEAD + ";begin a;put a 0 1;done a");
        Edge.tells(y, "size(7)", 0);
        Edge.tells(y, "size(8)", 0);
        Edge.same("undo()", y.undo(), false);
        Edge.same("back(0)", y.back(0), false);

        Edge.says(3, "how many VERSIONS.");
        Edge.same("store of none", Check.store(y, HEAD + ";begin a"), 0);
        Edge.same("store of what is cleared", Check.store(y, HEAD + ";begin a;put a 0 1;put a 1 1;gone a;clear"), 0);
        Edge.same("store of 48", Check.store(y, full()), 48);
    }

    private static void storeRefused() {
        Edge.says(3, "NONE: 2 (THE TAPE stays);");
        StampedRows x = new StampedRows();
        Edge.refuses(x, "store(1)", 2);
        Check.feed(x, HEAD + ";begin a");
        Edge.refuses(x, "store(-1)", 2);
        Edge.refuses(x, "store(MIN)", 2);
        Edge.refuses(x, "store(61)", 2);
        Edge.refuses(x, "store(901)", 2);
        Edge.refuses(x, "store(MAX)", 2);
        Edge.tells(x, "size(9)", 60);
        Edge.answers(x, "store(60)", 0);

        Edge.says(3, "4 (the STORE stays).");
        StampedRows y = Edge.stored(HEAD + ";begin a;put a 0 7;done a;begin b;unsure a;seen 0 7;seen 1 3");
        Edge.does(y, "put(0, 1, 5)", "image()");
        Check.feed(y, "store ring 64 rows 8 start 9 crash 9;begin x;put x 0 8;done x;clear");
        Edge.refuses(y, "store(67)", 4);
        Edge.refuses(y, "store(0)", 4);
        Edge.tells(y, "size(0)", 8);
        Edge.tells(y, "size(2)", 0);
        Edge.tells(y, "size(5)", 1);
        Edge.tells(y, "size(6)", 2);
        Edge.answers(y, "read(0, 1)", 5);
        Edge.answers(y, "fresh(0)", 7);
        Edge.answers(y, "judge()", 1);
        Edge.answers(y, "undo()", 1);
        Edge.answers(y, "back(0)", 1);
        Edge.answers(y, "read(0, 1)", 5);
        StampedRows none = new StampedRows();
        Check.feed(none, HEAD + ";clear");
        Edge.refuses(none, "store(41)", 4);
        Edge.refuses(none, "store(1)", 2);
        Edge.tells(none, "size(0)", 0);
    }

    private static void faultAndWhere() {
        Edge.says(4, "The FAULT of the latest store() not refused by 2;");
        StampedRows x = new StampedRows();
        Check.store(x, HEAD + ";clear");
        Edge.tells(x, "fault()", 8);
        x.store(-1);
        x.next();
        Edge.tells(x, "fault()", 8);
        Check.store(x, "begin a");
        Edge.tells(x, "fault()", 6);

        Edge.says(4, "0 without one.");
        Edge.tells(new StampedRows(), "fault()", 0);
        Edge.good(x, HEAD);
        x.store(-1);
        Edge.tells(x, "fault()", 0);

        Edge.says(5, "Its place, if the latest call that may be refused was by 4;");
        StampedRows y = new StampedRows();
        Check.store(y, "  begin a");
        Edge.tells(y, "where()", 2);
        Edge.does(y, "feed(0, 0, 0, 0, 0)", "size(3)", "trouble()", "fault()", "where()");
        Edge.tellsNone(y, "led(0)");
        Edge.tells(y, "where()", 2);
        Check.store(y, "");
        Edge.tells(y, "where()", 0);

        Edge.says(5, "NONE else.");
        Edge.tells(new StampedRows(), "where()", -1);
        y.next();
        Edge.tells(y, "where()", -1);
        Check.store(y, "clear");
        Edge.tells(y, "where()", 0);
        y.store(-1);
        Edge.tells(y, "where()", -1);
        Check.store(y, "clear");
        y.undo();
        Edge.tells(y, "where()", -1);
        Edge.good(y, HEAD);
        Edge.tells(y, "where()", -1);
        Check.store(y, "clear");
        y.next();
        Edge.tells(y, "where()", -1);
        Check.store(y, "clear");
        y.waits(0, true, true, true);
        Edge.tells(y, "where()", -1);
    }
}
