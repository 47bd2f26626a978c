/** Promises 19 to 25: errands told, gas filled, undone, years by draws, storms kept, counts. */
public final class ChangesTest {

    private static final int BAD = HungInStorm.BAD, NO = HungInStorm.NO, FULL = HungInStorm.FULL, NONE = HungInStorm.NONE;

    public static void main(String[] args) {
        errand();
        errandFull();
        fill();
        undo();
        undoOnlyEight();
        undoWhatChangesNothing();
        year();
        yearWrong();
        keepAndBack();
        keepIsACopy();
        backForgetsUndo();
        count();
        Check.end();
    }

    private static void errand() {
        HungInStorm x = Check.laid("v1,1;v2,1;t0,0,20,3,2;t1,0,20,3,2;m0,2,1;");
        Check.due("errand(0, 60, up)", x.errand(0, 60, true), 2);
        Check.due("errand(1, 1, down)", x.errand(1, 1, false), 3);
        Check.dueTown(x, 0, 2, 1, 3, 17);
        Check.dueTown(x, 1, 1, 0, 1, 20);
        // Those of a day come as told: down on day 2 behind the one of the text.
        Check.due("errand(0, 2, down)", x.errand(0, 2, false), 4);
        Check.dueTown(x, 0, 2, 0, 2, 17);
        Check.dueTown(x, 0, 60, 1, 13, 14);
        Check.due("errand(2, 1, up)", x.errand(2, 1, true), BAD);
        Check.due("errand(-1, 1, up)", x.errand(-1, 1, true), BAD);
        Check.due("errand(0, 0, up)", x.errand(0, 0, true), BAD);
        Check.due("errand(0, 61, up)", x.errand(0, 61, true), BAD);
        Check.due("count(2)", x.count(2), 4);
        Check.due("count(4)", x.count(4), 3);
    }

    private static void errandFull() {
        HungInStorm x = new HungInStorm();
        for (int k = 1; k <= 8; k++) {
            Check.due("errand, " + k, x.errand(0, k, false), k);
        }
        Check.due("errand, 9", x.errand(0, 1, true), FULL);
        Check.due("errand, 9, wrong too", x.errand(2, 1, true), BAD);
        Check.due("errand, 9, wrong too", x.errand(0, 0, true), BAD);
        Check.due("count(2)", x.count(2), 8);
        Check.due("count(4)", x.count(4), 8);
        Check.dueTown(x, 0, 1, 0, 2, 19);
        Check.due("undo()", x.undo(), 7);
        Check.due("errand, 8 again", x.errand(0, 1, true), 8);
        Check.dueTown(x, 0, 1, 1, 5, 17);
        HungInStorm y = Check.laid("v1,1;t0,0,20,3,2;" + "m0,1,1;".repeat(8));
        Check.due("errand, 8 of the text", y.errand(0, 1, true), FULL);
        Check.due("undo()", y.undo(), NO);
    }

    private static void fill() {
        HungInStorm x = new HungInStorm();
        Check.dueTown(x, 0, 0, 0, 0, 20);
        Check.due("fill(0, 60)", x.fill(0, 60), 20);
        Check.dueTown(x, 0, 0, 0, 0, 60);
        Check.due("fill(0, 0)", x.fill(0, 0), 60);
        Check.due("fill(1, 7)", x.fill(1, 7), 20);
        Check.dueTown(x, 0, 0, 0, 0, 0);
        Check.due("lost(0)", x.lost(0), 1);
        Check.dueTown(x, 1, 0, 1, 6, 7);
        Check.due("lost(1)", x.lost(1), 9);
        Check.due("fill(2, 0)", x.fill(2, 0), BAD);
        Check.due("fill(-1, 0)", x.fill(-1, 0), BAD);
        Check.due("fill(0, 61)", x.fill(0, 61), BAD);
        Check.due("fill(0, -1)", x.fill(0, -1), BAD);
        Check.due("count(4)", x.count(4), 3);
        Check.due("fill(1, 7) is what it had", x.fill(1, 7), 7);
        x.town(1, 60, 2);
        Check.due("the gas at first, not of some day", x.fill(1, 9), 7);
    }

    private static void undo() {
        HungInStorm x = new HungInStorm();
        Check.due("undo() of none", x.undo(), NO);
        x.fill(0, 30);
        x.errand(0, 1, true);
        x.fill(1, 31);
        x.fill(0, 32);
        Check.dueTown(x, 0, 1, 1, 5, 29);
        Check.due("undo()", x.undo(), 3);
        Check.dueTown(x, 0, 1, 1, 5, 27);
        Check.due("undo()", x.undo(), 2);
        Check.due("town(1, 0, 2)", x.town(1, 0, 2), 20);
        Check.due("count(2)", x.count(2), 1);
        Check.due("undo()", x.undo(), 1);
        Check.due("count(2)", x.count(2), 0);
        Check.dueTown(x, 0, 1, 0, 2, 29);
        Check.due("undo()", x.undo(), 0);
        Check.dueTown(x, 0, 1, 0, 2, 19);
        Check.due("undo()", x.undo(), NO);
        // What was refused is nothing that could be undone.
        x.fill(0, 61);
        x.errand(0, 61, true);
        Check.due("undo()", x.undo(), NO);
    }

    private static void undoOnlyEight() {
        HungInStorm x = new HungInStorm();
        for (int k = 1; k <= 10; k++) {
            x.fill(0, k);
            Check.due("count(4)", x.count(4), Math.min(k, 8));
        }
        for (int k = 7; k >= 0; k--) {
            Check.due("undo()", x.undo(), k);
            Check.due("town(0, 0, 2)", x.town(0, 0, 2), k + 2);
        }
        Check.due("undo()", x.undo(), NO);
        Check.due("town(0, 0, 2)", x.town(0, 0, 2), 2);
        // The oldest one falls out of different kinds too.
        HungInStorm y = new HungInStorm();
        y.errand(1, 2, false);
        for (int k = 1; k <= 7; k++) {
            y.fill(k % 2, k);
        }
        y.errand(0, 1, true);
        for (int k = 7; k >= 0; k--) {
            Check.due("undo()", y.undo(), k);
        }
        Check.due("undo()", y.undo(), NO);
        Check.due("count(2)", y.count(2), 1);
        Check.dueTown(y, 0, 0, 0, 0, 20);
        Check.dueTown(y, 1, 2, 0, 13, 18);
    }

    private static void undoWhatChangesNothing() {
        HungInStorm x = new HungInStorm();
        x.fill(0, 30);
        Check.due("fill(0, 30)", x.fill(0, 30), 30);
        Check.due("count(4)", x.count(4), 2);
        Check.due("undo()", x.undo(), 1);
        Check.due("town(0, 0, 2)", x.town(0, 0, 2), 30);
        Check.due("undo()", x.undo(), 0);
        Check.due("town(0, 0, 2)", x.town(0, 0, 2), 20);
        // A town that had no gas has none again.
        HungInStorm y = Check.laid("v0,0;t0,0,0,1,0;m0,1,1;");
        y.fill(0, 9);
        Check.due("undo()", y.undo(), 0);
        Check.due("town(0, 0, 2)", y.town(0, 0, 2), 0);
        Check.due("count(2)", y.count(2), 1);
    }

    private static void year() {
        // Six at one level that is of pace 0: their places are those that are drawn, for all 60 days.
        HungInStorm x = Check.laid("v0,1;" + "t0,0,9,1,2;".repeat(6));
        int[] years = {0, 1, 2, 77, 1234, 8273, 8274, 9998, 9999};
        for (int z : years) {
            int pairs = 0;
            for (int i = 0; i < 6; i++) {
                for (int j = i + 1; j < 6; j++) {
                    pairs += drawn(z, i) == drawn(z, j) ? 1 : 0;
                }
            }
            Check.due("year(" + z + ", 0)", x.year(z, 0), 60 * pairs);
            Check.due("year(" + z + ", 1)", x.year(z, 1), 0);
        }
        Check.due("nothing changes by it", x.markets(60), 15 * 60);
        Check.dueTown(x, 5, 0, 0, 0, 9);
        HungInStorm y = Check.laid("v0,1;t0,0,9,1,2;t0,0,59,1,0;t0,0,60,1,0;t0,0,0,1,0;");
        Check.due("lost by day 60", y.year(3, 1), 2);
        y.fill(2, 1);
        Check.due("lost by day 60", y.year(3, 1), 3);
    }

    /** By big numbers, so that no number of the program's can be too small unseen. */
    private static int drawn(int z, int i) {
        java.math.BigInteger q = java.math.BigInteger.valueOf(7919).multiply(java.math.BigInteger.valueOf(z))
            .add(java.math.BigInteger.valueOf(6151L * i + 1));
        return q.multiply(q).mod(java.math.BigInteger.valueOf(65521)).mod(java.math.BigInteger.valueOf(24)).intValue();
    }

    private static void yearWrong() {
        HungInStorm x = new HungInStorm();
        Check.due("year(0, 0)", x.year(0, 0), 0);
        Check.due("year(0, 1)", x.year(0, 1), 2);
        Check.due("year(-1, 0)", x.year(-1, 0), BAD);
        Check.due("year(10000, 0)", x.year(10000, 0), BAD);
        Check.due("year(0, 2)", x.year(0, 2), BAD);
        Check.due("year(0, -1)", x.year(0, -1), BAD);
        Check.due("count(4)", x.count(4), 0);
    }

    private static void keepAndBack() {
        HungInStorm x = new HungInStorm();
        Check.due("back() of none", x.back(), NO);
        Check.due("keep()", x.keep(), 1);
        x.fill(0, 33);
        x.errand(1, 4, false);
        Check.due("keep()", x.keep(), 2);
        x.fill(0, 44);
        x.errand(1, 5, true);
        Check.due("keep(), 3", x.keep(), FULL);
        Check.due("count(5)", x.count(5), 2);
        Check.due("count(2)", x.count(2), 2);
        Check.due("back()", x.back(), 1);
        Check.due("count(2)", x.count(2), 1);
        Check.dueTown(x, 0, 0, 0, 0, 33);
        Check.dueTown(x, 1, 5, 0, 6 + 5 * 3 + 2 * 2 - 24, 15);
        Check.due("back()", x.back(), 0);
        Check.due("count(2)", x.count(2), 0);
        Check.dueTown(x, 0, 0, 0, 0, 20);
        Check.due("back()", x.back(), NO);
        Check.due("keep() anew", x.keep(), 1);
        Check.due("count(5)", x.count(5), 1);
    }

    private static void keepIsACopy() {
        HungInStorm x = new HungInStorm();
        x.errand(0, 1, true);
        x.errand(0, 1, false);
        x.fill(0, 40);
        x.keep();
        x.undo();
        x.undo();
        x.errand(0, 1, true);
        x.fill(0, 50);
        x.errand(1, 9, true);
        x.keep();
        x.undo();
        x.fill(0, 1);
        x.back();
        Check.due("count(2)", x.count(2), 3);
        Check.dueTown(x, 0, 0, 0, 0, 50);
        Check.dueTown(x, 0, 1, 1, 5, 47);
        x.back();
        Check.due("count(2)", x.count(2), 2);
        Check.dueTown(x, 0, 1, 0, 2, 37);
        // Another town's errand, on another day, the other way, comes where a kept one was.
        HungInStorm y = new HungInStorm();
        y.errand(0, 2, true);
        y.keep();
        y.undo();
        y.errand(1, 3, false);
        Check.dueTown(y, 0, 2, 0, 4, 18);
        Check.dueTown(y, 1, 3, 0, 6 + 5 + 5 + 2, 17);
        y.back();
        Check.dueTown(y, 0, 1, 0, 2, 19);
        Check.dueTown(y, 0, 2, 1, 7, 16);
        Check.dueTown(y, 1, 3, 1, 21, 17);
    }

    private static void backForgetsUndo() {
        HungInStorm x = new HungInStorm();
        x.fill(0, 33);
        x.keep();
        Check.due("count(4) behind keep()", x.count(4), 1);
        x.fill(0, 34);
        Check.due("back()", x.back(), 0);
        Check.due("count(4)", x.count(4), 0);
        Check.due("undo()", x.undo(), NO);
        Check.due("town(0, 0, 2)", x.town(0, 0, 2), 33);
        x.fill(0, 35);
        Check.due("back() of none", x.back(), NO);
        Check.due("count(4) behind a back that was none", x.count(4), 1);
        Check.due("undo()", x.undo(), 0);
        Check.due("lost(0)", x.lost(0), 34);
        Check.due("town(0, 60, 1)", x.town(0, 60, 1), NONE);
    }

    private static void count() {
        HungInStorm x = Check.laid("v0,0;v0,0;v0,0;t0,0,9,1,0;t0,0,9,1,0;m0,1,1;m0,1,1;m0,1,1;m0,1,1;z0,1;z0,1;z0,1;z0,1;z0,1;");
        x.errand(0, 1, true);
        x.fill(0, 1);
        x.keep();
        int[] counts = {3, 2, 5, 5, 2, 1, 90};
        for (int what = 0; what < counts.length; what++) {
            Check.due("count(" + what + ")", x.count(what), counts[what]);
        }
        Check.due("count(7)", x.count(7), BAD);
        Check.due("count(-1)", x.count(-1), BAD);
        Check.due("count(most)", x.count(Integer.MAX_VALUE), BAD);
        Check.due("count(least)", x.count(Integer.MIN_VALUE), BAD);
    }
}
