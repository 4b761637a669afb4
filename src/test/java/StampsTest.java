/** Promises 6 to 17: stamps and writers. */
final class StampsTest {
    private StampsTest() {
    }

    public static void main(String[] args) {
        noStore();
        stamps();
        rooms();
        horizons();
        writers();
        counts();
        frees();
        Check.end();
    }

    private static void noStore() {
        StampedRows x = new StampedRows();
        Check.refused("no store: next()", x, x.next(), -1, 1);
        Check.refused("no store: age(99)", x, x.age(99), -1, 1);
        Check.refused("no store: older(-1, 99)", x, x.older(-1, 99), -1, 1);
        Check.refused("no store: oldest()", x, x.oldest(), -1, 1);
        Check.refused("no store: room()", x, x.room(), -1, 1);
        Check.refused("no store: roomFrozen()", x, x.roomFrozen(), -1, 1);
        Check.refused("no store: horizon()", x, x.horizon(), -1, 1);
        Check.refused("no store: writer(0, 0)", x, x.writer(0, 0), -1, 1);
        Check.refused("no store: running()", x, x.running(), -1, 1);
        Check.refused("no store: counts(0, -1)", x, x.counts(0, -1), -1, 1);
        Check.refused("no store: holdsBack()", x, x.holdsBack(), -1, 1);
        Check.refused("no store: frees(0)", x, x.frees(0), -1, 1);
    }

    private static void stamps() {
        StampedRows x = Check.stored("store ring 10 rows 1 start 9 crash 0");
        Check.refused("next()", x, x.next(), 9, 0);
        Check.refused("age(9)", x, x.age(9), 0, 0);
        Check.same("age(0)", x.age(0), 9);
        Check.same("age(8)", x.age(8), 1);
        x.begin();
        Check.same("next() goes round", x.next(), 0);
        Check.same("age(9) behind begin", x.age(9), 1);
        Check.refused("age(10)", x, x.age(10), -1, 2);
        Check.refused("age(-1)", x, x.age(-1), -1, 2);
        Check.refused("older(0, 1)", x, x.older(0, 1), 1, 0);
        Check.same("older(1, 0)", x.older(1, 0), 0);
        Check.same("older(0, 0)", x.older(0, 0), 0);
        Check.same("older(0, 5)", x.older(0, 5), 1);
        Check.same("older(5, 0)", x.older(5, 0), 1);
        Check.same("older(0, 6)", x.older(0, 6), 0);
        Check.same("older(6, 0)", x.older(6, 0), 1);
        Check.refused("older(10, 0)", x, x.older(10, 0), -1, 2);
        Check.refused("older(0, 10)", x, x.older(0, 10), -1, 2);
        Check.refused("older(0, MIN)", x, x.older(0, Integer.MIN_VALUE), -1, 2);
    }

    private static void rooms() {
        StampedRows x = Check.stored("store ring 8 rows 2 start 6 crash 0");
        Check.refused("oldest() of none", x, x.oldest(), -2, 0);
        Check.refused("room() of none", x, x.room(), -2, 0);
        Check.refused("roomFrozen() of none", x, x.roomFrozen(), -2, 0);
        x.begin();
        Check.same("oldest() of one who runs", x.oldest(), 1);
        Check.same("room() of one who runs", x.room(), 3);
        x.put(0, 0, 5);
        x.done(0);
        Check.same("oldest() of a FROM", x.oldest(), 1);
        Check.same("roomFrozen() of what can be frozen", x.roomFrozen(), -2);
        x.begin();
        x.begin();
        Check.same("done(0)", x.done(0), 7);
        // a SNAPSHOT keeps 7, though its WRITER has ended
        Check.same("oldest() by a snapshot", x.oldest(), 3);
        Check.same("room()", x.room(), 1);
        Check.same("roomFrozen() keeps what a snapshot has", x.roomFrozen(), 2);
        Check.same("freeze()", x.freeze(), 1);
        Check.same("oldest() behind freeze", x.oldest(), 2);
        x.drop(1, 0);
        x.gone(1);
        Check.same("oldest() by the TILL of one gone", x.oldest(), 1);
        Check.same("roomFrozen() without it", x.roomFrozen(), -2);
        x.begin();
        x.put(0, 1, 6);
        x.gone(0);
        Check.same("oldest() by both", x.oldest(), 2);
        Check.same("roomFrozen(): cleared, too", x.roomFrozen(), -2);

        StampedRows full = Check.stored("store ring 8 rows 1 start 0 crash 0;begin a;begin b;done b;begin c;done c;begin d");
        Check.same("oldest() of half the ring", full.oldest(), 4);
        Check.same("room() of half the ring", full.room(), 0);
        Check.same("roomFrozen() of half the ring", full.roomFrozen(), 0);
        Check.refused("begin() of half the ring", full, full.begin(), -1, 3);
        StampedRows six = Check.stored("store ring 64 rows 1 start 0 crash 0");
        for (int i = 0; i < 5; i++) {
            six.begin();
        }
        Check.same("room() of five", six.room(), 27);
        six.begin();
        Check.same("room() of six", six.room(), 0);
        Check.same("roomFrozen() of six", six.roomFrozen(), 0);
    }

    private static void horizons() {
        StampedRows x = Check.stored("store ring 8 rows 2 start 6 crash 0");
        Check.refused("horizon() of none", x, x.horizon(), 6, 0);
        Check.refused("holdsBack() of none", x, x.holdsBack(), -2, 0);
        x.begin();
        x.begin();
        Check.same("horizon()", x.horizon(), 6);
        // both hold 6 back: 0 by its own STAMP, 1 by its SNAPSHOT
        Check.same("holdsBack(), the first such", x.holdsBack(), 0);
        x.done(0);
        Check.same("horizon() by a snapshot", x.horizon(), 6);
        Check.same("holdsBack() by a snapshot", x.holdsBack(), 1);
        x.begin();
        Check.same("holdsBack() beside a younger one", x.holdsBack(), 1);
        x.gone(1);
        Check.same("horizon() moves on", x.horizon(), 7);
        Check.same("holdsBack() moves on", x.holdsBack(), 0);
    }

    private static void writers() {
        StampedRows x = Check.stored("store ring 16 rows 3 start 14 crash 0;begin a;put a 0 1;put a 1 1;put a 2 1;done a;"
            + "begin b;begin c;put b 0 2;put b 1 2;drop b 1;drop b 2;begin d");
        Check.refused("running()", x, x.running(), 7, 0);
        Check.refused("writer(0, 0)", x, x.writer(0, 0), 15, 0);
        Check.same("writer(0, 1)", x.writer(0, 1), 0);
        Check.same("writer(0, 2)", x.writer(0, 2), 0);
        Check.same("writer(0, 3)", x.writer(0, 3), 2);
        Check.same("writer(0, 4)", x.writer(0, 4), 4);
        Check.same("writer(2, 0)", x.writer(2, 0), 1);
        Check.same("writer(2, 2)", x.writer(2, 2), 2);
        x.done(0);
        Check.same("running() without 0", x.running(), 6);
        Check.same("writer(2, 2) stays", x.writer(2, 2), 2);
        Check.refused("writer(0, 0) ended", x, x.writer(0, 0), -1, 1);
        x.put(1, 0, 5);
        Check.refused("writer(1, 1) lost", x, x.writer(1, 1), 1, 0);
        Check.refused("writer(1, -1)", x, x.writer(1, -1), -1, 1);
        Check.refused("writer(1, 5)", x, x.writer(1, 5), -1, 1);
        Check.refused("writer(6, 0)", x, x.writer(6, 0), -1, 1);
        Check.refused("writer(-1, 0)", x, x.writer(-1, 0), -1, 1);
        Check.same("begin() takes the first free slot", x.begin(), 0);
        Check.same("running() all", x.running(), 7);
        x.gone(1);
        Check.same("begin() in a slot of one who had lost", x.begin(), 1);
        Check.same("writer(1, 1) anew", x.writer(1, 1), 0);
    }

    private static void counts() {
        StampedRows x = Check.stored("store ring 8 rows 1 start 6 crash 0;begin a;done a;begin b;gone b;begin c;begin d;"
            + "begin e;done e;done c");
        // d, SLOT 1, has 1; c had 0 and is in his SNAPSHOT; e had 2
        Check.refused("counts: his own", x, x.counts(1, 1), 1, 0);
        Check.same("counts: done and older", x.counts(1, 6), 1);
        Check.same("counts: gone", x.counts(1, 7), 0);
        Check.same("counts: in his snapshot", x.counts(1, 0), 0);
        Check.same("counts: not older", x.counts(1, 2), 0);
        Check.same("counts: nobody's", x.counts(1, 5), 0);
        Check.refused("counts: no stamp", x, x.counts(1, 8), -1, 2);
        Check.refused("counts: no stamp", x, x.counts(1, -1), -1, 2);
        Check.refused("counts: nobody runs", x, x.counts(0, 8), -1, 1);
        Check.refused("counts: no slot", x, x.counts(6, 0), -1, 1);
        x.gone(1);
        x.begin();
        x.begin();
        Check.same("counts: one who runs", x.counts(1, x.writer(0, 0)), 0);
    }

    private static void frees() {
        StampedRows x = Check.stored("store ring 32 rows 2 start 0 crash 0;begin a;put a 0 1;put a 1 1;done a;begin r;"
            + "begin b;put b 0 2;done b;begin s;begin c;put c 0 3;drop c 1");
        // SLOTS: r 0, s 1, c 2; r holds back a's first VERSION, which b ended; s and c have r in their SNAPSHOTS
        Check.same("dead() now", x.dead(), 0);
        Check.refused("frees(r): others still look back as far", x, x.frees(0), 0, 0);
        Check.same("frees(c): the one he made", x.frees(2), 1);
        x.gone(1);
        Check.same("frees(c): alone but for r", x.frees(2), 1);
        x.gone(0);
        Check.same("frees(c): his snapshot held it back, too", x.frees(2), 2);
        Check.refused("frees: nobody runs", x, x.frees(0), -1, 1);
        Check.refused("frees: no slot", x, x.frees(-1), -1, 1);
        x.gone(2);
        Check.same("dead() then", x.dead(), 2);
    }
}
