/** Promises 43 to 48: wait or yield, crashes. */
final class ChanceTest {
    private ChanceTest() {
    }

    public static void main(String[] args) {
        noStore();
        game();
        odds();
        sixRun();
        lost();
        drawn();
        Check.end();
    }

    private static void noStore() {
        StampedRows x = new StampedRows();
        Check.refused("no store: waits(-1, ..)", x, x.waits(-1, true, true, true), -100, 1);
        Check.refused("no store: rests(10)", x, x.rests(10), -1, 1);
        Check.refused("no store: rest(10)", x, x.rest(10), -1, 1);
        Check.refused("no store: odds(0, -1)", x, x.odds(0, -1, true), -1, 1);
        Check.refused("no store: mean", x, x.mean(false), -1, 1);
        Check.refused("no store: drawn(-1)", x, x.drawn(-1), -1, 1);
    }

    private static void game() {
        StampedRows x = Check.stored("store ring 8 rows 1 start 0 crash 0");
        for (int cost = 0; cost < 10; cost++) {
            Check.refused("both wait, cost " + cost, x, x.waits(cost, true, true, false), -cost, 0);
            Check.same("both wait, of the other, cost " + cost, x.waits(cost, true, true, true), -cost);
            Check.same("the one waits", x.waits(cost, true, false, false), 4);
            Check.same("the one waits, of the other", x.waits(cost, true, false, true), 1);
            Check.same("the other waits", x.waits(cost, false, true, false), 1);
            Check.same("the other waits, of the other", x.waits(cost, false, true, true), 4);
            Check.same("both yield", x.waits(cost, false, false, false), 2);
            Check.same("both yield, of the other", x.waits(cost, false, false, true), 2);
            Check.refused("rests(" + cost + ")", x, x.rests(cost), 2, 0);
            Check.refused("rest(" + cost + ")", x, x.rest(cost), 1, 0);
        }
        for (int cost : new int[] {-1, 10, Integer.MIN_VALUE, Integer.MAX_VALUE}) {
            Check.refused("waits(" + cost + ")", x, x.waits(cost, true, false, true), -100, 2);
            Check.refused("rests(" + cost + ")", x, x.rests(cost), -1, 2);
            Check.refused("rest(" + cost + ")", x, x.rest(cost), -1, 2);
        }
    }

    private static void dueOdds(StampedRows x, int row, int value, long upper, long lower) {
        Check.same("odds(" + row + ", " + value + ") upper", x.odds(row, value, false), upper);
        Check.refused("odds(" + row + ", " + value + ") lower", x, x.odds(row, value, true), lower, 0);
    }

    private static void dueMean(StampedRows x, long upper, long lower) {
        Check.same("mean upper", x.mean(false), upper);
        Check.refused("mean lower", x, x.mean(true), lower, 0);
    }

    private static void odds() {
        StampedRows x = Check.stored("store ring 32 rows 3 start 0 crash 30;begin a;put a 0 10;done a;begin b;put b 0 20;"
            + "begin c;put c 1 8");
        x.age(-1);
        Check.refused("odds behind a refused call", x, x.odds(0, 10, false), 3, 0);
        x.age(-1);
        Check.refused("mean behind a refused call", x, x.mean(true), 5, 0);
        dueOdds(x, 0, 10, 3, 10);
        dueOdds(x, 0, 20, 7, 10);
        dueOdds(x, 0, 11, 0, 1);
        dueOdds(x, 1, 8, 7, 10);
        dueOdds(x, 2, 0, 0, 1);
        // 10 * 0.3 + 20 * 0.7 + 8 * 0.7 = 22.6
        dueMean(x, 113, 5);
        Check.refused("odds(3, 0)", x, x.odds(3, 0, true), -1, 1);
        Check.refused("odds(-1, 0)", x, x.odds(-1, 0, true), -1, 1);
        Check.refused("odds(0, -1)", x, x.odds(0, -1, true), -1, 2);
        Check.refused("odds(0, 1000)", x, x.odds(0, 1000, true), -1, 2);
        Check.refused("odds(3, 1000): the row first", x, x.odds(3, 1000, true), -1, 1);
        Check.same("crashes change nothing", x.running(), 3);
        x.done(0);
        x.done(1);
        dueOdds(x, 0, 20, 1, 1);
        dueOdds(x, 0, 10, 0, 1);
        dueMean(x, 28, 1);
        StampedRows none = Check.stored("store ring 8 rows 1 start 0 crash 50");
        dueMean(none, 0, 1);
        StampedRows sure = Check.stored("store ring 8 rows 1 start 0 crash 100;begin a;put a 0 7");
        dueOdds(sure, 0, 7, 0, 1);
        dueMean(sure, 0, 1);
    }

    private static void sixRun() {
        StampedRows x = Check.stored("store ring 64 rows 8 start 0 crash 1;begin a;begin b;begin c;begin d;begin e;begin f;"
            + "put a 0 999;put b 1 999;put c 2 999;put d 3 999;put e 4 999;put f 5 999;put f 6 999;put f 7 999");
        dueOdds(x, 0, 999, 99, 100);
        // 8 * 999 * 0.99
        dueMean(x, 197802, 25);
        StampedRows sum = Check.stored("store ring 64 rows 2 start 0 crash 37;begin a;begin b;begin c;put a 0 1;put b 1 1");
        // 2 * 0.63
        dueMean(sum, 63, 50);
    }

    private static void lost() {
        StampedRows x = Check.stored("store ring 32 rows 2 start 0 crash 0;begin a;begin b;put b 0 5;put a 1 6;done b");
        dueOdds(x, 1, 6, 1, 1);
        Check.same("put: a has lost", x.put(0, 0, 9), -2);
        dueOdds(x, 1, 6, 0, 1);
        dueMean(x, 5, 1);
        Check.same("drawn: who has lost is gone", x.drawn(0), 5);
    }

    private static void drawn() {
        StampedRows x = Check.stored("store ring 32 rows 3 start 0 crash 50;begin a;begin b;begin c;put a 0 1;put b 1 10;"
            + "put c 2 100");
        // 0: 74, 5624, 28652 (mod 65,537), so 74, 24, 52: a and c are done
        Check.refused("drawn(0)", x, x.drawn(0), 101, 0);
        // 65,536 is one less than 0: 75 * 65,536 + 74 = 65,536 (mod 65,537): 36, and so on: all gone
        Check.same("drawn(65536)", x.drawn(65536), 0);
        Check.refused("drawn(-1)", x, x.drawn(-1), -1, 2);
        StampedRows even = Check.stored("store ring 32 rows 1 start 0 crash 74;begin a;put a 0 1");
        Check.same("a draw of crash isn't below it", even.drawn(0), 1);
        StampedRows below = Check.stored("store ring 32 rows 1 start 0 crash 75;begin a;put a 0 1");
        Check.same("a draw below crash", below.drawn(0), 0);
        Check.refused("drawn(65537)", x, x.drawn(65537), -1, 2);
        x.gone(0);
        // now b draws 74 and c 24
        Check.same("drawn(0) slot by slot", x.drawn(0), 10);
        Check.same("drawn changes nothing", x.running(), 6);

        StampedRows l = Check.stored("store ring 32 rows 3 start 0 crash 50;begin a;begin b;begin c;put b 0 5;done b;"
            + "put c 1 7");
        Check.same("drawn(0) ahead", l.drawn(0), 5);
        Check.same("put: a has lost", l.put(0, 0, 1), -2);
        // a, having lost, draws 74 all the same, so c draws 24
        Check.same("drawn(0): who has lost draws, too", l.drawn(0), 5);
        // 75 + 74 = 149: 49; then 75 * 149 + 74 = 11,249: 49
        Check.same("drawn(1)", l.drawn(1), 5);
        // 75 * 5 + 74 = 449: 49; 75 * 449 + 74 = 33,749: 49
        Check.same("drawn(5)", l.drawn(5), 5);
        // 75 * 3 + 74 = 299: 99; 75 * 299 + 74 = 22,499: 99
        Check.same("drawn(3)", l.drawn(3), 12);
    }
}
