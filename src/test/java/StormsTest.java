/** Promises 1 to 8: a new object, texts and faults, storms laid, levels, towns, lost towns. */
public final class StormsTest {

    private static final int BAD = HungInStorm.BAD, NO = HungInStorm.NO, FULL = HungInStorm.FULL, NONE = HungInStorm.NONE;

    public static void main(String[] args) {
        newObject();
        write();
        writeToTheEnd();
        wipe();
        faultOfForm();
        faultOfNumbers();
        faultOfHowMany();
        lay();
        layRefuses();
        layForgets();
        level();
        townWrong();
        townDrifts();
        townKinds();
        townLightning();
        townErrands();
        townSinks();
        lost();
        Check.end();
    }

    private static void newObject() {
        HungInStorm x = new HungInStorm();
        int[] counts = {2, 2, 0, 0, 0, 0, 0};
        for (int what = 0; what < counts.length; what++) {
            Check.due("count(" + what + ")", x.count(what), counts[what]);
        }
        Check.due("level(0, 0)", x.level(0, 0), 2);
        Check.due("level(1, 0)", x.level(1, 0), 5);
        Check.due("level(0, 1)", x.level(0, 1), 0);
        Check.due("level(1, 1)", x.level(1, 1), 1);
        Check.dueTown(x, 0, 0, 0, 0, 20);
        Check.dueTown(x, 1, 0, 1, 6, 20);
        Check.dueTown(x, 0, 1, 0, 2, 19);
        Check.dueTown(x, 1, 1, 1, 11, 19);
        Check.due("fault()", x.fault(), NONE);
        Check.due("wipe()", x.wipe(), 0);
        Check.due("undo()", x.undo(), NO);
        Check.due("back()", x.back(), NO);
        Check.due("errand(0, 1, up)", x.errand(0, 1, true), 1);
        Check.due("errand(1, 1, down)", x.errand(1, 1, false), 2);
        Check.due("errand(1, 1, up)", x.errand(1, 1, true), 3);
        Check.dueTown(x, 0, 1, 1, 5, 17);
        Check.dueTown(x, 1, 1, 1, 11, 16);
    }

    private static void write() {
        HungInStorm x = new HungInStorm();
        Check.due("write(0, ..)", x.write(0, 1), BAD);
        Check.due("write(-1, ..)", x.write(-1, 1), BAD);
        Check.due("write(9, ..)", x.write(9, 1), BAD);
        Check.due("write(least)", x.write(Integer.MIN_VALUE, 1), BAD);
        Check.due("write(most)", x.write(Integer.MAX_VALUE, 1), BAD);
        Check.due("count(6)", x.count(6), 0);
        Check.due("write(5, ..)", x.write(5, Check.packed("v2,0;")), 5);
        Check.due("write with more above", x.write(3, Check.packed("zzzzzv7,")), 8);
        Check.due("write with all above", x.write(2, -1L << 16 | Check.packed("1;")), 10);
        Check.due("fault()", x.fault(), NONE);
        Check.due("write(8, -1)", x.write(8, -1L), 18);
        Check.due("fault()", x.fault(), 10);
        Check.due("wipe()", x.wipe(), 18);
        Check.write(x, "v2,0;v7,1;t1,23,60,9,3;");
        Check.due("lay()", x.lay(), 1);
        Check.due("level(1, 0)", x.level(1, 0), 7);
        Check.dueTown(x, 0, 0, 1, 23, 60);
    }

    private static void writeToTheEnd() {
        HungInStorm x = new HungInStorm();
        for (int k = 1; k <= 37; k++) {
            Check.due("write(8, ..)", x.write(8, 0), 8 * k);
        }
        Check.due("write(5, ..) at 296", x.write(5, 0), FULL);
        Check.due("write(8, ..) at 296", x.write(8, 0), FULL);
        Check.due("count(6)", x.count(6), 296);
        Check.due("write(4, ..) at 296", x.write(4, 0), 300);
        Check.due("write(1, ..) at 300", x.write(1, 0), FULL);
        Check.due("write(0, ..) at 300", x.write(0, 0), BAD);
        Check.due("write(9, ..) at 300", x.write(9, 0), BAD);
        Check.due("count(6)", x.count(6), 300);
        Check.due("fault()", x.fault(), 0);
        Check.due("wipe()", x.wipe(), 300);
        Check.due("write(1, ..)", x.write(1, 0), 1);
    }

    private static void wipe() {
        HungInStorm x = Check.laid("v3,1;t0,1,2,3,0;");
        Check.due("wipe()", x.wipe(), 16);
        Check.due("wipe()", x.wipe(), 0);
        Check.due("count(6)", x.count(6), 0);
        Check.due("level(0, 0)", x.level(0, 0), 3);
        Check.due("lay()", x.lay(), NO);
        Check.write(x, "v4,0;");
        Check.due("fault()", x.fault(), NONE);
    }

    private static void dueFault(String text, int want) {
        HungInStorm x = new HungInStorm();
        Check.write(x, text);
        Check.due("fault() of " + text, x.fault(), want);
        if (want != NONE) {
            Check.due("lay() of " + text, x.lay(), NO);
        }
    }

    private static void faultOfForm() {
        dueFault("", NONE);
        dueFault("v", 0);
        dueFault(";", 0);
        dueFault(",", 0);
        dueFault("v;", 0);
        dueFault("v2,0", 0);
        dueFault("v2,", 0);
        dueFault("v2,;", 0);
        dueFault("v2,0,", 0);
        dueFault("v2,0,;", 0);
        dueFault("v2,0,x", 0);
        dueFault("v2,0x", 0);
        dueFault("v,0;", 0);
        dueFault("v2;", 0);
        dueFault("v2,0,0;", 0);
        dueFault("v2 ,0;", 0);
        dueFault("V2,0;", 0);
        dueFault("x2,0;", 0);
        dueFault("v2.0;", 0);
        dueFault("v-2,0;", 0);
        dueFault("v02,00;", NONE);
        dueFault("v002,0;", 0);
        dueFault("v2,000;", 0);
        dueFault("v2,0;;", 5);
        dueFault("v2,0;v", 5);
        dueFault("v2,0; v2,0;", 5);
        dueFault("v2,0;v2,0;v2,0", 10);
        dueFault("v2,0;t0,0,20,2;", 5);
        dueFault("v2,0;t0,0,20,2,0,0;", 5);
        dueFault("v2,0;t0,0,20,2,0,", 5);
        dueFault("t00,00,00,01,00;m00,01,01;z00,01;", NONE);
        dueFault("t0,0,0,1,0;m0,1;", 11);
        dueFault("t0,0,0,1,0;m0,1,1,1;", 11);
        dueFault("z0;", 0);
        dueFault("z0,1,1;", 0);
        dueFault("v2,0;v2/0;", 5);
        dueFault("v2,0;v:,0;", 5);
        dueFault("v2,0;v2,0\u00bb", 5);
    }

    private static void faultOfNumbers() {
        dueFault("v0,0;v23,1;", NONE);
        dueFault("v24,0;", 0);
        dueFault("v99,0;", 0);
        dueFault("v2,2;", 0);
        dueFault("v2,0;t5,23,60,9,3;t0,0,0,1,0;", NONE);
        dueFault("t6,0,0,1,0;", 0);
        dueFault("t0,24,0,1,0;", 0);
        dueFault("t0,0,61,1,0;", 0);
        dueFault("t0,0,0,0,0;", 0);
        dueFault("t0,0,0,10,0;", 0);
        dueFault("t0,0,0,1,4;", 0);
        dueFault("t0,0,0,1,0;m0,1,0;m0,60,1;", NONE);
        dueFault("t0,0,0,1,0;m1,1,0;", 11);
        dueFault("m0,1,0;t0,0,0,1,0;", 0);
        dueFault("t0,0,0,1,0;m1,1,0;t0,0,0,1,0;", 11);
        dueFault("t0,0,0,1,0;m0,0,0;", 11);
        dueFault("t0,0,0,1,0;m0,61,0;", 11);
        dueFault("t0,0,0,1,0;m0,1,2;", 11);
        dueFault("z0,1;z5,60;", NONE);
        dueFault("z6,1;", 0);
        dueFault("z0,0;", 0);
        dueFault("z0,61;", 0);
        dueFault("v2,0;v24,0;v2,0;v25,0;", 5);
    }

    private static void faultOfHowMany() {
        dueFault("v1,0;".repeat(6), NONE);
        dueFault("v1,0;".repeat(7), 30);
        dueFault("t5,0,0,1,0;".repeat(6), NONE);
        dueFault("t5,0,0,1,0;".repeat(7), 66);
        dueFault("t5,0,0,1,0;" + "m0,1,0;".repeat(8), NONE);
        dueFault("t5,0,0,1,0;" + "m0,1,0;".repeat(9), 67);
        dueFault("z5,1;".repeat(5), NONE);
        dueFault("z5,1;".repeat(6), 25);
        // As many of all as there can be.
        dueFault("v23,1;".repeat(6) + "t5,23,60,9,3;".repeat(6) + "m5,60,1;".repeat(8) + "z5,60;".repeat(5), NONE);
    }

    private static void lay() {
        HungInStorm x = new HungInStorm();
        Check.write(x, "t1,5,9,2,1;z1,3;z1,3;m0,2,0;v3,0;t0,7,8,1,2;v4,1;m1,1,1;m0,2,1;");
        Check.due("lay()", x.lay(), 2);
        int[] counts = {2, 2, 3, 2, 0, 0, 63};
        for (int what = 0; what < counts.length; what++) {
            Check.due("count(" + what + ")", x.count(what), counts[what]);
        }
        Check.dueTown(x, 0, 0, 1, 5, 9);
        Check.dueTown(x, 1, 0, 0, 7, 8);
        Check.due("lay() once more", x.lay(), 2);
        Check.dueTown(x, 0, 2, 1, 13, 3);
        Check.due("count(6)", x.count(6), 63);
        x.wipe();
        Check.write(x, "t0,0,0,1,0;t0,0,0,1,0;t0,0,0,1,0;t0,0,0,1,0;t0,0,0,1,0;t0,0,0,1,0;v0,0;");
        Check.due("lay() of six", x.lay(), 6);
        Check.due("count(0)", x.count(0), 1);
        Check.due("count(2)", x.count(2), 0);
        Check.due("count(3)", x.count(3), 0);
        // What was answered of one storm is not told of the next one, and a text that is only read lays nothing.
        Check.dueTown(x, 0, 0, 0, 0, 0);
        x.wipe();
        Check.write(x, "v5,0;v5,0;t1,9,33,1,3;");
        x.fault();
        Check.due("count(1)", x.count(1), 6);
        Check.dueTown(x, 0, 0, 0, 0, 0);
        Check.due("lay() of another", x.lay(), 1);
        Check.dueTown(x, 0, 0, 1, 9, 33);
        x.wipe();
        Check.write(x, "v8,1;v8,1;v8,1;t0,0,0,1,0;t1,1,1,1,1;x");
        Check.due("fault()", x.fault(), 37);
        Check.due("count(0)", x.count(0), 2);
        Check.due("count(1)", x.count(1), 1);
        Check.due("level(0, 0)", x.level(0, 0), 5);
        Check.dueTown(x, 0, 1, 1, 14, 33);
    }

    private static void dueNoStorm(String text) {
        HungInStorm x = new HungInStorm();
        Check.write(x, text);
        x.fill(0, 11);
        x.keep();
        Check.due("lay() of " + text, x.lay(), NO);
        Check.due("count(0)", x.count(0), 2);
        Check.due("count(1)", x.count(1), 2);
        Check.due("count(4)", x.count(4), 1);
        Check.due("count(5)", x.count(5), 1);
        Check.due("count(6)", x.count(6), text.length());
        Check.dueTown(x, 0, 0, 0, 0, 11);
        Check.dueTown(x, 1, 0, 1, 6, 20);
        Check.due("undo()", x.undo(), 0);
        Check.dueTown(x, 0, 0, 0, 0, 20);
    }

    private static void layRefuses() {
        dueNoStorm("");
        dueNoStorm("v1,0;");
        dueNoStorm("t0,0,0,1,0;");
        dueNoStorm("v1,0;t1,0,0,1,0;");
        dueNoStorm("v1,0;t0,0,0,1,0;t5,0,0,1,0;");
        dueNoStorm("v1,0;t0,0,0,1,0;z1,1;");
        dueNoStorm("v1,0;v1,0;t0,0,0,1,0;z1,1;z2,1;");
        dueNoStorm("v1,0;t0,0,0,1,0;t0,1,1,1,1;x");
        dueNoStorm("v9,1;t0,3,3,3,3;z0,1;m1,1,1;");
    }

    private static void layForgets() {
        HungInStorm x = new HungInStorm();
        x.fill(0, 3);
        x.errand(0, 1, true);
        x.keep();
        x.keep();
        Check.write(x, "v1,0;t0,0,9,1,0;");
        Check.due("lay()", x.lay(), 1);
        Check.due("count(4)", x.count(4), 0);
        Check.due("count(5)", x.count(5), 0);
        Check.due("count(2)", x.count(2), 0);
        Check.due("undo()", x.undo(), NO);
        Check.due("back()", x.back(), NO);
        Check.due("town(0, 0, 2)", x.town(0, 0, 2), 9);
        x.fill(0, 5);
        Check.due("lay() of the same", x.lay(), 1);
        Check.due("town(0, 0, 2)", x.town(0, 0, 2), 9);
    }

    private static void level() {
        HungInStorm x = Check.laid("v0,1;v23,0;v11,1;t0,0,0,1,0;");
        int[] paces = {0, 23, 11};
        int[] wets = {1, 0, 1};
        for (int l = 0; l < 3; l++) {
            Check.due("level(" + l + ", 0)", x.level(l, 0), paces[l]);
            Check.due("level(" + l + ", 1)", x.level(l, 1), wets[l]);
        }
        Check.due("level(3, 0)", x.level(3, 0), BAD);
        Check.due("level(-1, 0)", x.level(-1, 0), BAD);
        Check.due("level(0, 2)", x.level(0, 2), BAD);
        Check.due("level(0, -1)", x.level(0, -1), BAD);
        Check.due("level(most, 0)", x.level(Integer.MAX_VALUE, 0), BAD);
        Check.due("level(least, 0)", x.level(Integer.MIN_VALUE, 0), BAD);
    }

    private static void townWrong() {
        HungInStorm x = new HungInStorm();
        Check.due("town(2, 0, 0)", x.town(2, 0, 0), BAD);
        Check.due("town(-1, 0, 0)", x.town(-1, 0, 0), BAD);
        Check.due("town(0, -1, 0)", x.town(0, -1, 0), BAD);
        Check.due("town(0, 61, 0)", x.town(0, 61, 0), BAD);
        Check.due("town(0, 61, 1)", x.town(0, 61, 1), BAD);
        Check.due("town(0, 0, 3)", x.town(0, 0, 3), BAD);
        Check.due("town(0, 0, -1)", x.town(0, 0, -1), BAD);
        Check.due("town(0, most, 0)", x.town(0, Integer.MAX_VALUE, 0), BAD);
        Check.due("town(0, 60, 0)", x.town(0, 60, 0), 9);
        Check.due("town(2, 60, 1) of a lost one", x.town(2, 60, 1), BAD);
    }

    private static void townDrifts() {
        String storm = "v23,0;v0,0;v7,0;t0,0,60,1,3;t1,13,60,1,3;t2,23,60,1,3;";
        HungInStorm x = null;
        for (int t = 0; t <= 60; t++) {
            if (t % 30 == 0) {
                // One object is good for 512 calls.
                x = Check.laid(storm);
            }
            Check.dueTown(x, 0, t, 0, 23 * t % 24, 60 - t / 2);
            Check.dueTown(x, 1, t, 1, 13, 60 - t / 2);
            Check.dueTown(x, 2, t, 2, (23 + 7 * t) % 24, 60 - t / 2);
        }
    }

    private static void townKinds() {
        HungInStorm x = Check.laid("v0,0;v0,1;"
            + "t0,0,9,1,0;t0,0,9,1,1;t0,0,9,1,2;t0,0,9,1,3;t1,0,9,1,1;t1,0,9,1,2;");
        int[][] gas = {
            {9, 8, 7, 6, 5, 4, 3, 2, 1, 0, 0},
            {9, 7, 5, 3, 1, 0, 0, 0, 0, 0, 0},
            {9, 8, 7, 6, 5, 4, 3, 2, 1, 0, 0},
            {9, 9, 8, 8, 7, 7, 6, 6, 5, 5, 4},
            {9, 7, 5, 3, 1, 0, 0, 0, 0, 0, 0},
            {9, 9, 9, 9, 9, 9, 9, 9, 9, 9, 9},
        };
        for (int i = 0; i < gas.length; i++) {
            for (int t = 0; t < gas[i].length; t++) {
                Check.due("town(" + i + ", " + t + ", 2)", x.town(i, t, 2), gas[i][t]);
            }
        }
        HungInStorm y = Check.laid("v0,0;v0,1;t1,0,9,1,0;t1,0,9,1,3;");
        Check.due("plain and wet", y.town(0, 4, 2), 5);
        Check.due("light and wet", y.town(1, 4, 2), 7);
    }

    private static void townLightning() {
        HungInStorm x = Check.laid("v0,0;v0,1;t0,0,21,1,0;t1,0,9,1,2;t1,0,8,1,1;z1,1;z1,1;z0,2;z1,60;");
        Check.due("not struck", x.town(0, 1, 2), 20);
        Check.due("struck, then plain", x.town(0, 2, 2), 9);
        Check.due("struck once of two, 9", x.town(1, 1, 2), 4);
        Check.due("struck once of two, 8, then torn", x.town(2, 1, 2), 2);
        Check.due("not struck", x.town(1, 2, 2), 4);
        Check.due("not struck", x.town(1, 59, 2), 4);
        Check.due("struck on the last day", x.town(1, 60, 2), 2);
        HungInStorm five = Check.laid("v0,1;t0,0,60,1,2;z0,2;z0,4;z0,6;z0,8;z0,60;");
        Check.due("struck twice", five.town(0, 5, 2), 15);
        Check.due("struck on each of five days", five.town(0, 60, 2), 1);
        HungInStorm y = Check.laid("v0,0;v0,1;t1,0,1,1,2;t0,0,20,2,0;z1,1;m1,1,1;");
        Check.dueTown(y, 0, 1, 1, 0, 0);
        Check.dueTown(y, 0, 2, 0, 0, 0);
        // It goes up into the lightning: 20 less 2, less 9, less 1.
        Check.dueTown(y, 1, 1, 1, 0, 8);
    }

    private static void townErrands() {
        HungInStorm x = Check.laid("v1,0;v2,0;v3,0;t1,0,9,3,0;t2,0,9,3,0;t0,0,5,3,0;"
            + "m0,1,1;m0,1,1;m0,2,0;m1,1,0;m1,1,0;m1,1,0;m2,2,0;m2,3,1;");
        // Up costs 3; above the highest level there is none, and nothing is paid.
        Check.dueTown(x, 0, 1, 2, 3, 5);
        Check.dueTown(x, 0, 2, 1, 5, 4);
        // Down is free, and below the lowest level there is none.
        Check.dueTown(x, 1, 1, 0, 1, 8);
        // With 3 it can still go up on day 3, is then without gas and sinks at once.
        Check.dueTown(x, 2, 2, 0, 2, 3);
        Check.dueTown(x, 2, 3, 0, 3, 0);
        Check.due("lost(2)", x.lost(2), 4);
        HungInStorm y = Check.laid("v1,0;v2,0;t0,0,2,3,0;t0,0,3,3,0;t0,0,4,3,0;m0,1,1;m1,1,1;m2,1,1;");
        Check.dueTown(y, 0, 1, 0, 1, 1);
        Check.dueTown(y, 1, 1, 0, 1, 0);
        Check.dueTown(y, 2, 1, 1, 2, 0);
        // As told: down and up is another thing than up and down.
        HungInStorm z = Check.laid("v1,0;v2,0;t0,0,9,3,0;t0,0,9,3,0;m0,1,0;m0,1,1;m1,1,1;m1,1,0;");
        Check.dueTown(z, 0, 1, 1, 2, 5);
        Check.dueTown(z, 1, 1, 0, 1, 5);
        HungInStorm last = Check.laid("v1,0;v2,0;t0,0,60,1,2;m0,60,1;");
        Check.dueTown(last, 0, 59, 0, 11, 1);
        Check.dueTown(last, 0, 60, 0, 12, 0);
    }

    private static void townSinks() {
        HungInStorm x = Check.laid("v1,0;v2,0;v3,0;t2,0,1,1,0;m0,2,0;m0,3,1;m0,4,1;");
        Check.dueTown(x, 0, 1, 2, 3, 0);
        // Down by its errand, then down for want of gas.
        Check.dueTown(x, 0, 2, 0, 4, 0);
        Check.dueTown(x, 0, 3, 9, NONE, 0);
        Check.dueTown(x, 0, 4, 9, NONE, 0);
        Check.dueTown(x, 0, 60, 9, NONE, 0);
    }

    private static void lost() {
        HungInStorm x = Check.laid("v1,0;v2,1;v3,0;t0,0,0,1,0;t2,0,0,1,0;t1,0,5,1,2;t0,0,59,1,0;t0,0,60,1,0;t2,0,57,1,0;");
        Check.due("lost(0)", x.lost(0), 1);
        Check.due("lost(1)", x.lost(1), 3);
        Check.due("lost(2)", x.lost(2), NONE);
        Check.due("lost(3)", x.lost(3), 60);
        Check.due("lost(4)", x.lost(4), NONE);
        Check.due("lost(5)", x.lost(5), 60);
        Check.due("lost(6)", x.lost(6), BAD);
        Check.due("lost(-1)", x.lost(-1), BAD);
        Check.due("lost(least)", x.lost(Integer.MIN_VALUE), BAD);
        Check.due("new: lost(2)", new HungInStorm().lost(2), BAD);
    }
}
