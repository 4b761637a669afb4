/** Promises 18 to 35: versions, what is seen, who may put. */
final class VersionsTest {
    private VersionsTest() {
    }

    public static void main(String[] args) {
        noStore();
        versions();
        chains();
        deadOnes();
        freezing();
        seen();
        fresh();
        asOf();
        mayFirst();
        mayByTill();
        mayByFrom();
        Check.end();
    }

    private static void noStore() {
        StampedRows x = new StampedRows();
        Check.refused("no store: version(0, 0)", x, x.version(0, 0), -1, 1);
        Check.refused("no store: chain(0)", x, x.chain(0), -1, 1);
        Check.refused("no store: chainAt(0, 0)", x, x.chainAt(0, 0), -1, 1);
        Check.refused("no store: seenBy(0)", x, x.seenBy(0), -1, 1);
        Check.refused("no store: dead()", x, x.dead(), -1, 1);
        Check.refused("no store: freezes()", x, x.freezes(), -1, 1);
        Check.refused("no store: sees(0, 0)", x, x.sees(0, 0), -1, 1);
        Check.refused("no store: read(0, 0)", x, x.read(0, 0), -1, 1);
        Check.refused("no store: sum(0)", x, x.sum(0), -1, 1);
        Check.refused("no store: differ(0, 0)", x, x.differ(0, 0), -1, 1);
        Check.refused("no store: fresh(0)", x, x.fresh(0), -1, 1);
        Check.refused("no store: freshSum()", x, x.freshSum(), -1, 1);
        Check.refused("no store: asOf(-1, 0)", x, x.asOf(-1, 0), -1, 1);
        Check.refused("no store: changed(-1, 0)", x, x.changed(-1, 0), -1, 1);
        Check.refused("no store: may(0, 0)", x, x.may(0, 0), -1, 1);
        Check.refused("no store: waitsFor(0, 0)", x, x.waitsFor(0, 0), -1, 1);
        Check.refused("no store: open(0)", x, x.open(0), -1, 1);
        Check.refused("no store: loses(0)", x, x.loses(0), -1, 1);
    }

    private static void versions() {
        StampedRows x = Check.stored("store ring 8 rows 2 start 3 crash 0;begin a;put a 1 999;done a;begin b;put b 1 0");
        Check.refused("version(0, 0)", x, x.version(0, 0), 1, 0);
        Check.same("version(0, 1)", x.version(0, 1), 999);
        Check.same("version(0, 2)", x.version(0, 2), 3);
        Check.same("version(0, 3)", x.version(0, 3), 4);
        Check.same("version(0, 4)", x.version(0, 4), 0);
        Check.same("version(0, 5)", x.version(0, 5), 1);
        Check.same("version(1, 1)", x.version(1, 1), 0);
        Check.same("version(1, 2)", x.version(1, 2), 4);
        Check.refused("version(1, 3)", x, x.version(1, 3), -2, 0);
        Check.same("version(1, 5)", x.version(1, 5), 0);
        Check.refused("version(1, 6)", x, x.version(1, 6), -1, 1);
        Check.refused("version(1, -1)", x, x.version(1, -1), -1, 1);
        Check.refused("version(2, 0)", x, x.version(2, 0), -1, 1);
        Check.refused("version(-1, 0)", x, x.version(-1, 0), -1, 1);
        Check.refused("version(48, 0)", x, x.version(48, 0), -1, 1);
        x.done(0);
        Check.same("version(0, 4) dead", x.version(0, 4), 1);
        Check.same("version(0, 5) dead, but would freeze", x.version(0, 5), 1);
        x.freeze();
        Check.same("version(0, 2) frozen", x.version(0, 2), -2);
        Check.same("version(0, 5) frozen", x.version(0, 5), 0);
        Check.same("version(0, 4) frozen and dead", x.version(0, 4), 1);
    }

    private static void chains() {
        StampedRows x = Check.stored("store ring 32 rows 2 start 0 crash 0;begin a;put a 0 1;put a 1 2;done a;begin b;"
            + "put b 0 3;done b");
        Check.refused("chain(0)", x, x.chain(0), 2, 0);
        Check.same("clear()", x.clear(), 1);
        Check.same("chain(0) cleared", x.chain(0), 1);
        x.begin();
        // the first free number is 0 again, but it was made last
        Check.same("put takes the first free number", x.put(0, 0, 4), 0);
        Check.same("chainAt(0, 0)", x.chainAt(0, 0), 2);
        Check.same("chainAt(0, 1)", x.chainAt(0, 1), 0);
        Check.refused("chainAt(0, 2)", x, x.chainAt(0, 2), -1, 1);
        Check.refused("chainAt(0, -1)", x, x.chainAt(0, -1), -1, 1);
        Check.refused("chainAt(2, 0)", x, x.chainAt(2, 0), -1, 1);
        Check.refused("chain(2)", x, x.chain(2), -1, 1);
        Check.refused("chain(-1)", x, x.chain(-1), -1, 1);
        Check.same("sees the last of the chain", x.sees(0, 0), 0);
        x.done(0);
        Check.same("fresh by the order in which they were made", x.fresh(0), 4);
    }

    private static void deadOnes() {
        StampedRows x = Check.stored("store ring 32 rows 1 start 30 crash 0;begin a;put a 0 1;done a;begin b;begin r;"
            + "put b 0 2;done b");
        // r has b in its SNAPSHOT, so the HORIZON is b's STAMP
        Check.refused("dead() held back", x, x.dead(), 0, 0);
        Check.same("frees(1)", x.frees(1), 1);
        x.begin();
        x.done(1);
        // SLOT 0 began behind b: r's STAMP was in its SNAPSHOT, but b's wasn't
        Check.same("horizon()", x.horizon(), 0);
        Check.same("dead() by a TILL done", x.dead(), 1);
        x.put(0, 0, 3);
        Check.same("dead(): one who runs ends nothing", x.dead(), 1);
        x.gone(0);
        Check.same("dead() by a FROM gone", x.dead(), 2);
    }

    private static void freezing() {
        StampedRows x = Check.stored("store ring 32 rows 3 start 0 crash 0;begin a;put a 0 1;put a 1 2;done a;begin b;"
            + "drop b 0;put b 1 3;gone b;begin c;put c 2 4;begin d;done c");
        // the HORIZON is c's STAMP, in d's SNAPSHOT: c's VERSION can't be FROZEN yet
        Check.refused("freezes()", x, x.freezes(), 2, 0);
        Check.same("freeze()", x.freeze(), 2);
        Check.same("version(0, 2)", x.version(0, 2), -2);
        Check.same("version(0, 3): b is gone", x.version(0, 3), -2);
        Check.same("version(1, 3): b is gone", x.version(1, 3), -2);
        Check.same("version(2, 2) isn't frozen: b is gone", x.version(2, 2), 1);
        Check.same("version(3, 2) isn't frozen: c is the horizon", x.version(3, 2), 2);
        Check.same("freezes() then", x.freezes(), 0);
        x.begin();
        Check.same("drop of a frozen one", x.drop(0, 0), 0);
        x.gone(0);
        Check.same("freezes() takes a TILL alone", x.freezes(), 1);
        Check.same("version(0, 5) is frozen already", x.version(0, 5), 0);
        Check.same("freeze()", x.freeze(), 1);
        Check.refused("freeze() of none", x, x.freeze(), -1, 6);
    }

    private static void seen() {
        StampedRows x = Check.stored("store ring 16 rows 3 start 14 crash 0;begin a;put a 0 10;put a 1 20;done a;begin b;"
            + "begin c;put b 0 11;put c 1 21;put c 2 22;done c;begin d");
        // SLOTS: b 0, d 1
        Check.refused("sees: what he made", x, x.sees(0, 0), 2, 0);
        Check.same("sees: not who began behind him", x.sees(0, 1), 1);
        Check.refused("sees: none", x, x.sees(0, 2), -2, 0);
        Check.same("sees: not who runs", x.sees(1, 0), 0);
        Check.same("sees: who is done", x.sees(1, 1), 3);
        Check.refused("sees: no row", x, x.sees(0, 3), -1, 1);
        Check.refused("sees: no row", x, x.sees(0, -1), -1, 1);
        Check.refused("sees: nobody", x, x.sees(2, 0), -1, 1);
        Check.refused("read", x, x.read(0, 0), 11, 0);
        Check.refused("read: none", x, x.read(0, 2), -2, 0);
        Check.refused("read: no row", x, x.read(0, 3), -1, 1);
        Check.refused("read: nobody", x, x.read(2, 0), -1, 1);
        Check.refused("sum(0)", x, x.sum(0), 31, 0);
        Check.same("sum(1)", x.sum(1), 53);
        Check.refused("sum: nobody", x, x.sum(2), -1, 1);
        Check.refused("differ(0, 1)", x, x.differ(0, 1), 7, 0);
        Check.same("differ(0, 0)", x.differ(0, 0), 0);
        Check.refused("differ(0, 2)", x, x.differ(0, 2), -1, 1);
        Check.refused("differ(2, 0)", x, x.differ(2, 0), -1, 1);
        Check.refused("seenBy(0)", x, x.seenBy(0), 2, 0);
        Check.same("seenBy(1)", x.seenBy(1), 1);
        Check.same("seenBy(2)", x.seenBy(2), 1);
        Check.same("seenBy(3)", x.seenBy(3), 2);
        Check.refused("seenBy(5)", x, x.seenBy(5), -1, 1);
        Check.refused("seenBy(-1)", x, x.seenBy(-1), -1, 1);
        x.drop(1, 1);
        Check.same("read: what he dropped", x.read(1, 1), -2);
        Check.same("differ: the same value isn't the same version", x.differ(0, 1), 7);
        x.gone(1);
        x.begin();
        Check.same("read: who dropped it is gone", x.read(1, 1), 21);
    }

    private static void fresh() {
        StampedRows x = Check.stored("store ring 16 rows 3 start 0 crash 0;begin a;put a 0 10;put a 1 20;done a;begin b;"
            + "put b 0 11;drop b 1;begin c;put c 2 9;gone c");
        Check.refused("fresh(0)", x, x.fresh(0), 10, 0);
        Check.same("fresh(1)", x.fresh(1), 20);
        Check.refused("fresh(2): gone", x, x.fresh(2), -2, 0);
        Check.refused("freshSum()", x, x.freshSum(), 30, 0);
        x.done(0);
        Check.same("fresh(0) then", x.fresh(0), 11);
        Check.same("fresh(1) then", x.fresh(1), -2);
        Check.same("freshSum() then", x.freshSum(), 11);
        Check.refused("fresh(3)", x, x.fresh(3), -1, 1);
        Check.refused("fresh(-1)", x, x.fresh(-1), -1, 1);
    }

    private static void asOf() {
        StampedRows x = Check.stored("store ring 8 rows 2 start 6 crash 0;begin a;put a 0 10;done a;begin b;put b 0 11;"
            + "put b 1 5;done b;begin c;put c 0 12;done c;begin d;put d 0 13");
        // STAMPS: a 6, b 7, c 0, d 1
        Check.refused("asOf(6, 0)", x, x.asOf(6, 0), -2, 0);
        Check.same("asOf(7, 0)", x.asOf(7, 0), 10);
        Check.same("asOf(0, 0)", x.asOf(0, 0), 11);
        Check.same("asOf(1, 0)", x.asOf(1, 0), 12);
        Check.same("asOf(2, 0): d runs", x.asOf(2, 0), 12);
        // from 6 on to 3 it is more than half the ring: a's is not there; b's and c's are
        Check.same("asOf(3, 0)", x.asOf(3, 0), 12);
        Check.same("asOf(4, 0): b isn't older, c is", x.asOf(4, 0), 12);
        Check.same("asOf(5, 0): nobody is older", x.asOf(5, 0), -2);
        Check.refused("asOf(8, 0)", x, x.asOf(8, 0), -1, 2);
        Check.refused("asOf(-1, 0)", x, x.asOf(-1, 0), -1, 2);
        Check.refused("asOf(0, 2)", x, x.asOf(0, 2), -1, 1);
        Check.refused("asOf(8, 2): the row first", x, x.asOf(8, 2), -1, 1);
        Check.refused("changed(7, 0)", x, x.changed(7, 0), 3, 0);
        Check.same("changed(0, 1)", x.changed(0, 1), 1);
        Check.same("changed(0, 0)", x.changed(0, 0), 0);
        Check.refused("changed(8, 0)", x, x.changed(8, 0), -1, 2);
        Check.refused("changed(0, 8)", x, x.changed(0, 8), -1, 2);
        x.gone(0);
        x.freeze();
        Check.same("asOf(6, 0): FROZEN is there for all, the last such", x.asOf(6, 0), 12);
        Check.same("asOf(5, 1): FROZEN is there for all", x.asOf(5, 1), 5);

        StampedRows same = Check.stored("store ring 8 rows 1 start 0 crash 0;begin a;put a 0 5;done a;begin b;put b 0 5;"
            + "done b");
        Check.same("changed: another version of the same value", same.changed(1, 2), 0);
        Check.same("changed: none at first", same.changed(0, 2), 1);
    }

    private static void mayFirst() {
        StampedRows x = Check.stored("store ring 32 rows 3 start 0 crash 0;begin a;put a 0 1;done a;begin b;begin c;"
            + "put b 0 2;put b 1 3");
        // SLOTS: b 0, c 1
        Check.refused("may: one's own", x, x.may(0, 0), 0, 0);
        Check.same("may: held by a TILL", x.may(1, 0), 1);
        Check.same("may: held by a FROM", x.may(1, 1), 1);
        Check.same("may: an empty row", x.may(1, 2), 0);
        Check.refused("waitsFor: a TILL", x, x.waitsFor(1, 0), 0, 0);
        Check.same("waitsFor: a FROM", x.waitsFor(1, 1), 0);
        Check.refused("waitsFor: nobody", x, x.waitsFor(1, 2), -2, 0);
        Check.refused("open(1)", x, x.open(1), 4, 0);
        Check.refused("loses(1)", x, x.loses(1), 0, 0);
        Check.same("open(0)", x.open(0), 7);
        x.done(0);
        Check.same("may: lost by a TILL", x.may(1, 0), 2);
        Check.same("may: lost by a FROM", x.may(1, 1), 2);
        Check.refused("waitsFor: lost", x, x.waitsFor(1, 0), -2, 0);
        Check.same("loses(1)", x.loses(1), 3);
        Check.same("open(1)", x.open(1), 4);
        Check.refused("put: lost", x, x.put(1, 1, 9), -2, 0);
        Check.same("may: lost already", x.may(1, 2), 3);
        Check.same("open: lost already", x.open(1), 0);
        Check.same("loses: lost already", x.loses(1), 0);
        x.begin();
        x.put(0, 2, 8);
        Check.same("waitsFor: lost already", x.waitsFor(1, 2), -2);
        Check.refused("may: nobody", x, x.may(2, 0), -1, 1);
        Check.refused("may: no row", x, x.may(0, 3), -1, 1);
        Check.refused("waitsFor: nobody", x, x.waitsFor(2, 0), -1, 1);
        Check.refused("waitsFor: no row", x, x.waitsFor(0, 3), -1, 1);
        Check.refused("open: nobody", x, x.open(2), -1, 1);
        Check.refused("loses: nobody", x, x.loses(-1), -1, 1);
    }

    private static void mayByTill() {
        StampedRows x = Check.stored("store ring 32 rows 1 start 0 crash 0;begin a;put a 0 1;done a;begin b;begin c;"
            + "drop b 0;gone b");
        Check.same("may: who ended it is gone", x.may(1, 0), 0);
        Check.same("put over it", x.put(1, 0, 5), 1);
        Check.same("its TILL is the new one's", x.version(0, 3), 2);

        StampedRows d = Check.stored("store ring 32 rows 1 start 0 crash 0;begin a;put a 0 1;done a;begin b;begin c;"
            + "drop b 0;done b;begin e");
        Check.same("may: dropped by one done whom he doesn't see", d.may(1, 0), 2);
        Check.same("may: dropped by one done whom he sees", d.may(0, 0), 0);
        Check.same("put behind the drop", d.put(0, 0, 6), 1);
        Check.same("the dropped one keeps its TILL", d.version(0, 3), 1);
    }

    private static void mayByFrom() {
        StampedRows x = Check.stored("store ring 32 rows 1 start 0 crash 0;begin a;begin b;begin c;put b 0 1;gone b;"
            + "put c 0 2;gone c");
        Check.same("may: all who made some are gone", x.may(0, 0), 0);
        x.begin();
        x.put(1, 0, 3);
        x.begin();
        Check.same("may: the last one not gone runs", x.may(0, 0), 1);
        Check.same("waitsFor", x.waitsFor(0, 0), 1);
        x.done(1);
        Check.same("may: the last one not gone is done, and doesn't count", x.may(0, 0), 2);

        StampedRows f = Check.stored("store ring 32 rows 1 start 0 crash 0;begin a;put a 0 1;drop a 0;put a 0 2;drop a 0");
        Check.same("may: he dropped his own", f.may(0, 0), 0);
        Check.same("put once more makes one more", f.put(0, 0, 3), 2);
        Check.same("chain", f.chain(0), 3);
        f.drop(0, 0);
        f.done(0);
        f.freeze();
        f.begin();
        Check.same("may: the last one is frozen and dropped", f.may(0, 0), 0);
    }
}
