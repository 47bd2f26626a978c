/**
 * "BAD: a number is none that is told (LEVELS, TOWNS: such as there are; places 0 to 23). [..] Of several the first
 * in this order; nothing changes then.": each number of each call, on both sides of what is taken, on three objects.
 */
public final class RefusedTest {

    private static final int BAD = HungInStorm.BAD, NO = HungInStorm.NO, FULL = HungInStorm.FULL, NONE = HungInStorm.NONE;

    private static final int[] WHAT_OF_TWO = {0, 1}, WHAT_OF_THREE = {0, 2}, PLACE = {0, 23};
    private static final int[] DAY_BEHIND = {0, 60}, DAY = {1, 60}, SEEN_DAYS = {1, 99};

    /** A call on numbers alone. */
    private interface Numbers {
        long of(HungInStorm x, int[] a);
    }

    public static void main(String[] args) {
        NoTrace.Start[] starts = {HungInStorm::new, RefusedTest::least, RefusedTest::inUse, RefusedTest::full};
        for (NoTrace.Start start : starts) {
            int[] level = {0, start.make().count(0) - 1};
            int[] town = {0, start.make().count(1) - 1};
            onStorms(start, level, town);
            onMarkets(start, town);
            onThings(start, level);
            onChanges(start, town);
        }
        onFullText();
        onFullErrands();
        onFullShelf();
        onNothingToUndo();
        onNothingKept();
        badBeforeNone();
        badWithFullErrands();
        badWithFullText();
        noWithFault();
        Check.end();
    }

    private static HungInStorm least() {
        return Check.laid("v0,0;t0,0,1,1,0;");
    }

    private static HungInStorm inUse() {
        HungInStorm x = Check.laid("v3,0;v0,1;v7,0;t0,4,30,2,0;t2,23,9,3,3;t1,0,0,1,2;m0,2,1;z1,1;");
        x.errand(1, 1, false);
        x.keep();
        x.fill(2, 17);
        x.errand(0, 60, true);
        x.undo();
        x.errand(2, 3, true);
        x.wipe();
        Check.write(x, "v1,0;v2,1;t1,5,6,7,0;");
        return x;
    }

    /** As much of all as there can be. */
    private static HungInStorm full() {
        HungInStorm x = Check.laid("v1,1;v2,0;v3,1;v4,0;v5,1;v6,0;" + "t0,0,50,1,0;t5,6,40,2,2;".repeat(3)
            + "z0,1;z1,1;z2,2;z3,3;z4,60;");
        for (int k = 0; k < 8; k++) {
            x.errand(k % 6, 1 + k % 3, k % 2 == 0);
        }
        x.keep();
        for (int k = 0; k < 8; k++) {
            x.fill(k % 6, 7 * k);
        }
        x.keep();
        x.wipe();
        Check.write(x, "v9,1;t0,1,2,3,0;".repeat(18) + "v9,1;t0,1,2,");
        return x;
    }

    private static void onStorms(NoTrace.Start start, int[] level, int[] town) {
        Check.sentence("Promise 2: The lowest n bytes (1 to 8) of v; BAD");
        outside(start, "write", (x, a) -> x.write(a[0], 0x763930302c303bL), new int[][] {{1, 8}});
        Check.sentence("Promise 6: PACE (what = 0), 1 if it is wet (1); BAD");
        bounds(start, "level", (x, a) -> x.level(a[0], a[1]), level, WHAT_OF_TWO);
        Check.sentence("Promise 7: behind day t (0 to 60): LEVEL (what = 0), place (1), GAS (2); BAD");
        bounds(start, "town", (x, a) -> x.town(a[0], a[1], a[2]), town, DAY_BEHIND, WHAT_OF_THREE);
        Check.sentence("Promise 8: The day on which a TOWN is LOST; BAD");
        bounds(start, "lost", (x, a) -> x.lost(a[0]), town);
    }

    private static void onMarkets(NoTrace.Start start, int[] town) {
        Check.sentence("Promise 9: two TOWNS; BAD");
        boundsOfTwo(start, "meet", (x, a) -> x.meet(a[0], a[1]), town, town);
        alike(start, "meet", (x, a) -> x.meet(a[0], a[0]), town);
        Check.sentence("Promise 10: MARKETS to day n (1 to 60); BAD");
        bounds(start, "markets", (x, a) -> x.markets(a[0]), DAY);
        Check.sentence("Promise 11: the first day (what = 0), how many days again and again (1); BAD");
        boundsOfTwo(start, "stay", (x, a) -> x.stay(a[0], a[1], a[2]), town, town, WHAT_OF_TWO);
        alike(start, "stay", (x, a) -> x.stay(a[0], a[0], 1), town);
        Check.sentence("Promise 12: the day (what = 0), the GAS (1); BAD");
        boundsOfTwo(start, "catches", (x, a) -> x.catches(a[0], a[1], a[2]), town, town, WHAT_OF_TWO);
        alike(start, "catches", (x, a) -> x.catches(a[0], a[0], 0), town);
        Check.sentence("Promise 13: behind n days (0 to 60): the LEVEL (what = 0), how much (1); BAD");
        bounds(start, "keeps", (x, a) -> x.keeps(a[0], a[1], a[2]), town, DAY_BEHIND, WHAT_OF_TWO);
        Check.sentence("Promise 14: the LEVEL (what = 0), how many (1); BAD (n 1 to 60)");
        bounds(start, "trades", (x, a) -> x.trades(a[0], a[1], a[2]), town, DAY, WHAT_OF_TWO);
    }

    private static void onThings(NoTrace.Start start, int[] level) {
        Check.sentence("Promise 15: behind n days (0 to 60): LEVEL (what = 0), place (1); BAD");
        bounds(start, "dropped", (x, a) -> x.dropped(a[0], a[1], a[2], a[3]), level, PLACE, DAY_BEHIND, WHAT_OF_TWO);
        Check.sentence("Promise 16: n days (1 to 99); BAD");
        bounds(start, "seen", (x, a) -> x.seen(a[0], a[1], a[2]), PLACE, PLACE, SEEN_DAYS);
        Check.sentence("Promise 17: from x, n days later at y; n2 days behind that at y2; BAD");
        bounds(start, "seenTwice", (x, a) -> x.seenTwice(a[0], a[1], a[2], a[3], a[4]),
            PLACE, PLACE, SEEN_DAYS, PLACE, SEEN_DAYS);
        Check.sentence("Promise 18: x (0 to 10) of ten, n days (0 to 9): above (part = 0), below (1); BAD");
        bounds(start, "gusts", (x, a) -> x.gusts(a[0], a[1], a[2], a[3], a[4]),
            level, level, new int[] {0, 10}, new int[] {0, 9}, WHAT_OF_TWO);
    }

    private static void onChanges(NoTrace.Start start, int[] town) {
        Check.sentence("Promise 19: on day D (1 to 60); BAD");
        bounds(start, "errand up", (x, a) -> x.errand(a[0], a[1], true), town, DAY);
        bounds(start, "errand down", (x, a) -> x.errand(a[0], a[1], false), town, DAY);
        Check.sentence("Promise 20: A TOWN has GAS g (0 to 60) at first; BAD");
        bounds(start, "fill", (x, a) -> x.fill(a[0], a[1]), town, new int[] {0, 60});
        Check.sentence("Promise 22: z (0 to 9999); MARKETS (what = 0), LOST (1); BAD");
        bounds(start, "year", (x, a) -> x.year(a[0], a[1]), new int[] {0, 9999}, WHAT_OF_TWO);
        Check.sentence("Promise 25: 0 LEVELS .. 6 bytes of THE TEXT; BAD");
        bounds(start, "count", (x, a) -> x.count(a[0]), new int[] {0, 6});
    }

    private static void alike(NoTrace.Start start, String name, Numbers call, int[] town) {
        for (int i = town[0]; i <= town[1]; i++) {
            int[] a = {i};
            NoTrace.due(name + " of a town and itself, " + i, start, x -> call.of(x, a), BAD);
        }
    }

    /** The least and the most of each number are taken, all together; each number just and far outside is not. */
    private static void bounds(NoTrace.Start start, String name, Numbers call, int[]... of) {
        inside(start, name, call, false, of);
        outside(start, name, call, of);
    }

    private static void boundsOfTwo(NoTrace.Start start, String name, Numbers call, int[]... of) {
        inside(start, name, call, true, of);
        outside(start, name, call, of);
    }

    private static void inside(NoTrace.Start start, String name, Numbers call, boolean firstUnlike, int[][] of) {
        for (int k = 0; k < 1 << of.length; k++) {
            int[] a = new int[of.length];
            for (int p = 0; p < a.length; p++) {
                a[p] = of[p][k >> p & 1];
            }
            if (!firstUnlike || a[0] != a[1]) {
                Check.dueThat(told(name, a) + " is not BAD", call.of(start.make(), a) != BAD);
            }
        }
    }

    private static void outside(NoTrace.Start start, String name, Numbers call, int[][] of) {
        for (int p = 0; p < of.length; p++) {
            int[] wrong = {of[p][0] - 1, of[p][1] + 1, Integer.MIN_VALUE, Integer.MAX_VALUE, of[p][0] - 256, of[p][1] + 256};
            for (int w : wrong) {
                for (int side = 0; side <= 1; side++) {
                    int[] a = new int[of.length];
                    for (int q = 0; q < a.length; q++) {
                        // Of two towns the others are unlike, where there are two.
                        a[q] = of[q][q % 2 == 0 ? side : 1 - side];
                    }
                    a[p] = w;
                    NoTrace.due(told(name, a), start, x -> call.of(x, a), BAD);
                }
            }
        }
    }

    private static String told(String name, int[] a) {
        String numbers = java.util.Arrays.toString(a);
        return name + "(" + numbers.substring(1, numbers.length() - 1) + ")";
    }

    private static void onFullText() {
        Check.sentence("Promise 2: how long it is. BAD; FULL");
        for (int n = 1; n <= 8; n++) {
            int bytes = n;
            NoTrace.due("write(" + n + ", ..) at 300", RefusedTest::full, x -> x.write(bytes, -1L), FULL);
        }
    }

    private static void onFullErrands() {
        Check.sentence("Promise 19: An ERRAND more: how many. BAD; FULL");
        NoTrace.due("errand(0, 1, up), the ninth", RefusedTest::full, x -> x.errand(0, 1, true), FULL);
        NoTrace.due("errand(5, 60, down), the ninth", RefusedTest::full, x -> x.errand(5, 60, false), FULL);
    }

    private static void onFullShelf() {
        Check.sentence("Promise 23: KEPT: how many. FULL");
        NoTrace.due("keep(), the third", RefusedTest::full, HungInStorm::keep, FULL);
    }

    private static void onNothingToUndo() {
        Check.sentence("Promise 21: UNDONE: how many more can be. NO");
        NoTrace.due("undo() of a new one", HungInStorm::new, HungInStorm::undo, NO);
        NoTrace.Start undone = () -> {
            HungInStorm x = full();
            for (int k = 0; k < 8; k++) {
                x.undo();
            }
            return x;
        };
        NoTrace.due("undo(), the ninth", undone, HungInStorm::undo, NO);
    }

    private static void onNothingKept() {
        Check.sentence("Promise 24: how many are left; NO");
        NoTrace.due("back() of a new one", HungInStorm::new, HungInStorm::back, NO);
        NoTrace.Start changed = () -> {
            HungInStorm x = inUse();
            x.back();
            x.fill(0, 3);
            x.errand(1, 2, true);
            return x;
        };
        NoTrace.due("back() once more", changed, HungInStorm::back, NO);
    }

    /** Of several the first in this order: BAD, NO, NONE, FULL. */
    private static void badBeforeNone() {
        Check.sentence("Of several the first in this order; nothing changes then");
        HungInStorm x = Check.laid("v3,1;t0,0,0,1,0;t0,5,9,1,2;");
        Check.due("town(0, 1, 1)", x.town(0, 1, 1), NONE);
        Check.due("town(0, 61, 1)", x.town(0, 61, 1), BAD);
        Check.due("town(0, -1, 1)", x.town(0, -1, 1), BAD);
        Check.due("lost(1)", x.lost(1), NONE);
        Check.due("lost(2)", x.lost(2), BAD);
        Check.due("meet(0, 1)", x.meet(0, 1), NONE);
        Check.due("meet(0, 2)", x.meet(0, 2), BAD);
        Check.due("stay(0, 1, 0)", x.stay(0, 1, 0), NONE);
        Check.due("stay(0, 1, 2)", x.stay(0, 1, 2), BAD);
        Check.due("catches(0, 1, 0)", x.catches(0, 1, 0), NONE);
        Check.due("catches(0, 1, 2)", x.catches(0, 1, 2), BAD);
    }

    private static void badWithFullErrands() {
        Check.sentence("Of several the first in this order: BAD ahead of FULL, errand");
        NoTrace.due("errand(6, 1, up)", RefusedTest::full, x -> x.errand(6, 1, true), BAD);
        NoTrace.due("errand(-1, 1, up)", RefusedTest::full, x -> x.errand(-1, 1, true), BAD);
        NoTrace.due("errand(0, 0, up)", RefusedTest::full, x -> x.errand(0, 0, true), BAD);
        NoTrace.due("errand(0, 61, up)", RefusedTest::full, x -> x.errand(0, 61, true), BAD);
    }

    private static void badWithFullText() {
        Check.sentence("Of several the first in this order: BAD ahead of FULL, write");
        NoTrace.due("write(0, ..)", RefusedTest::full, x -> x.write(0, 1), BAD);
        NoTrace.due("write(9, ..)", RefusedTest::full, x -> x.write(9, 1), BAD);
    }

    private static void noWithFault() {
        Check.sentence("Promise 5: LAID: how many TOWNS; NO");
        NoTrace.due("lay() of a cut text", RefusedTest::full, HungInStorm::lay, NO);
        NoTrace.due("lay() of no text", HungInStorm::new, HungInStorm::lay, NO);
    }
}
