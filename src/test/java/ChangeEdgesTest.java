/** Errands, gas, UNDONE, YEARS, KEPT and counts (promises 19 to 25): each sentence that names a boundary, there. */
public final class ChangeEdgesTest {

    private static final int NO = HungInStorm.NO, FULL = HungInStorm.FULL, NONE = HungInStorm.NONE;

    public static void main(String[] args) {
        errandsInAll();
        errandsToldAgain();
        errandDays();
        errandWhenLost();
        fillAll();
        fillLost();
        undoneHowMany();
        undoneTheLatest();
        undoneErrandsOfTheText();
        undoneWhatChangesNothing();
        undoneNotWhatIsRefused();
        undoneBehindTheOldest();
        undoneOfEachTown();
        answersAreNew();
        yearsAll();
        yearPlaceOfEach();
        yearToDaySixty();
        yearLostByThen();
        yearAsThingsStand();
        yearChangesNothing();
        keptTwo();
        keptLast();
        keptErrandsAndGas();
        keptOnce();
        keptIsNoChange();
        backIsNotUndone();
        onlyAsked();
        countOfNone();
        countOfAll();
        Check.end();
    }

    private static void errandsInAll() {
        Check.sentence("An ERRAND can be told (8 in all at most)");
        for (int ofText = 0; ofText <= 8; ofText++) {
            HungInStorm x = Check.laid("v0,1;v0,1;t0,0,60,1,2;" + "m0,9,0;".repeat(ofText));
            for (int k = ofText + 1; k <= 8; k++) {
                Check.due("errand " + k, x.errand(0, k, true), k);
            }
            Check.due("errand 9", x.errand(0, 1, true), FULL);
            Check.due("errand 9, once more", x.errand(0, 1, false), FULL);
            Check.due("count(2)", x.count(2), 8);
            Check.due("count(4)", x.count(4), 8 - ofText);
        }
    }

    private static void errandsToldAgain() {
        Check.sentence("An ERRAND more: how many. BAD; FULL");
        HungInStorm x = new HungInStorm();
        for (int k = 1; k <= 8; k++) {
            Check.due("errand " + k, x.errand(1, 60, false), k);
        }
        Check.due("errand 9", x.errand(0, 1, true), FULL);
        Check.due("undo()", x.undo(), 7);
        Check.due("errand 8", x.errand(0, 1, true), 8);
        Check.dueTown(x, 0, 1, 1, 5, 17);
        Check.due("errand 9", x.errand(0, 1, true), FULL);
    }

    private static void errandDays() {
        Check.sentence("an ERRAND of TOWN T on day D (1 to 60)");
        for (int day = 1; day <= 60; day++) {
            HungInStorm x = Check.laid("v0,1;v0,1;t0,0,60,1,2;t1,0,60,1,2;");
            x.errand(0, day, true);
            x.errand(1, day, false);
            Check.dueTown(x, 0, day - 1, 0, 0, 60);
            Check.dueTown(x, 1, day - 1, 1, 0, 60);
            Check.dueTown(x, 0, day, 1, 0, 59);
            Check.dueTown(x, 1, day, 0, 0, 60);
            Check.dueTown(x, 0, 60, 1, 0, 59);
        }
    }

    private static void errandWhenLost() {
        Check.sentence("the TOWN (if it is not LOST)");
        HungInStorm x = Check.laid("v0,1;v0,1;t0,0,0,1,2;");
        Check.due("lost(0)", x.lost(0), 1);
        Check.due("errand(0, 2, up)", x.errand(0, 2, true), 1);
        Check.due("lost(0)", x.lost(0), 1);
        Check.due("fill(0, 9)", x.fill(0, 9), 0);
        Check.due("lost(0)", x.lost(0), NONE);
        Check.dueTown(x, 0, 2, 1, 0, 8);
    }

    private static void fillAll() {
        Check.sentence("A TOWN has GAS g (0 to 60) at first: what it had");
        HungInStorm x = Check.laid("v0,1;t0,0,33,1,2;t0,0,44,1,2;");
        int had = 33;
        for (int g = 0; g <= 60; g++) {
            Check.due("fill(0, " + g + ")", x.fill(0, g), had);
            Check.due("town(0, 0, 2)", x.town(0, 0, 2), g);
            Check.due("town(1, 0, 2)", x.town(1, 0, 2), 44);
            had = g;
        }
        Check.due("fill(1, 60)", x.fill(1, 60), 44);
        Check.due("fill(1, 0)", x.fill(1, 0), 60);
        Check.due("fill(1, 0) once more", x.fill(1, 0), 0);
    }

    private static void fillLost() {
        Check.sentence("GAS filled (it is G then)");
        HungInStorm x = new HungInStorm();
        Check.due("lost(0)", x.lost(0), 21);
        Check.due("fill(0, 0)", x.fill(0, 0), 20);
        Check.due("lost(0)", x.lost(0), 1);
        Check.due("fill(0, 60)", x.fill(0, 60), 0);
        Check.due("lost(0)", x.lost(0), NONE);
        Check.due("fill(0, 59)", x.fill(0, 59), 60);
        Check.due("lost(0)", x.lost(0), 60);
    }

    private static void undoneHowMany() {
        Check.sentence("UNDONE is the latest of these (the last 8 can be)");
        for (int changes = 0; changes <= 12; changes++) {
            HungInStorm x = new HungInStorm();
            for (int k = 1; k <= changes; k++) {
                x.fill(0, 20 + k);
                Check.due("count(4)", x.count(4), Math.min(k, 8));
            }
            int can = Math.min(changes, 8);
            for (int k = 1; k <= can; k++) {
                Check.due("undo(), " + k + " of " + changes, x.undo(), can - k);
                Check.due("town(0, 0, 2)", x.town(0, 0, 2), 20 + changes - k);
            }
            Check.due("undo(), one more", x.undo(), NO);
            Check.due("town(0, 0, 2)", x.town(0, 0, 2), 20 + changes - can);
        }
    }

    private static void undoneTheLatest() {
        Check.sentence("UNDONE is the latest of these (all of one call at once)");
        HungInStorm x = new HungInStorm();
        x.errand(0, 1, true);
        x.fill(0, 9);
        x.errand(1, 1, false);
        x.fill(1, 8);
        Check.due("undo() of a filling", x.undo(), 3);
        Check.dueTown(x, 1, 1, 0, 8, 19);
        Check.due("undo() of an errand", x.undo(), 2);
        Check.dueTown(x, 1, 1, 1, 11, 19);
        Check.dueTown(x, 0, 1, 1, 5, 6);
        Check.due("undo() of a filling", x.undo(), 1);
        Check.dueTown(x, 0, 1, 1, 5, 17);
        Check.due("fill(1, 5) in between", x.fill(1, 5), 20);
        Check.due("undo() of it", x.undo(), 1);
        Check.due("undo() of an errand", x.undo(), 0);
        Check.dueTown(x, 0, 1, 0, 2, 19);
        Check.due("undo() of none", x.undo(), NO);
    }

    private static void undoneErrandsOfTheText() {
        Check.sentence("UNDONE is the latest of these");
        // The errands of the text are told by no call.
        HungInStorm x = Check.laid("v0,1;v0,1;t0,0,9,1,2;m0,1,1;");
        Check.due("undo()", x.undo(), NO);
        x.errand(0, 2, false);
        Check.due("undo()", x.undo(), 0);
        Check.due("count(2)", x.count(2), 1);
        Check.due("undo()", x.undo(), NO);
        Check.dueTown(x, 0, 2, 1, 0, 8);
    }

    private static void undoneWhatChangesNothing() {
        Check.sentence("such by which nothing becomes another, too");
        HungInStorm x = new HungInStorm();
        Check.due("fill(0, 20)", x.fill(0, 20), 20);
        Check.due("fill(1, 20)", x.fill(1, 20), 20);
        Check.due("errand(0, 60, down), at the lowest", x.errand(0, 60, false), 1);
        Check.due("count(4)", x.count(4), 3);
        Check.due("undo()", x.undo(), 2);
        Check.due("undo()", x.undo(), 1);
        Check.due("undo()", x.undo(), 0);
        Check.due("undo()", x.undo(), NO);
        // Eight of them leave nothing else that can be undone.
        x.fill(0, 7);
        for (int k = 0; k < 8; k++) {
            x.fill(0, 7);
        }
        for (int k = 7; k >= 0; k--) {
            Check.due("undo()", x.undo(), k);
        }
        Check.due("undo()", x.undo(), NO);
        Check.due("town(0, 0, 2)", x.town(0, 0, 2), 7);
    }

    private static void undoneNotWhatIsRefused() {
        Check.sentence("nothing changes then");
        HungInStorm x = new HungInStorm();
        x.fill(0, 5);
        x.fill(0, 61);
        x.fill(2, 1);
        x.errand(0, 0, true);
        for (int k = 1; k <= 7; k++) {
            x.errand(0, k, false);
        }
        x.errand(1, 1, false);
        x.errand(1, 2, false);
        Check.due("count(2)", x.count(2), 8);
        Check.due("count(4)", x.count(4), 8);
        // Of nine, the filling fell out; the ninth errand was full, and is none of them.
        Check.due("undo()", x.undo(), 7);
        Check.dueTown(x, 1, 1, 1, 11, 19);
        Check.due("count(2)", x.count(2), 7);
        Check.due("town(0, 0, 2)", x.town(0, 0, 2), 5);
    }

    private static void undoneBehindTheOldest() {
        Check.sentence("the last 8 can be");
        // An errand, told as the oldest of nine, stays; so does what is filled ahead of eight errands.
        HungInStorm x = new HungInStorm();
        x.errand(0, 1, true);
        for (int k = 1; k <= 8; k++) {
            x.fill(k % 2, 30 + k);
        }
        for (int k = 7; k >= 0; k--) {
            Check.due("undo()", x.undo(), k);
        }
        Check.due("undo()", x.undo(), NO);
        Check.due("count(2)", x.count(2), 1);
        Check.dueTown(x, 0, 1, 1, 5, 17);
        HungInStorm y = new HungInStorm();
        y.fill(1, 3);
        for (int k = 1; k <= 8; k++) {
            y.errand(0, k, k % 2 == 1);
        }
        for (int k = 7; k >= 0; k--) {
            Check.due("undo()", y.undo(), k);
            Check.due("count(2)", y.count(2), k);
        }
        Check.due("undo()", y.undo(), NO);
        Check.due("town(1, 0, 2)", y.town(1, 0, 2), 3);
    }

    private static void undoneOfEachTown() {
        Check.sentence("the last 8 can be");
        // Twelve fillings of six towns: eight of them are undone one by one, each of its own town.
        HungInStorm x = Check.laid("v0,1;t0,0,1,1,2;t0,0,2,1,2;t0,0,3,1,2;t0,0,4,1,2;t0,0,5,1,2;t0,0,6,1,2;");
        for (int k = 0; k < 12; k++) {
            x.fill(k % 6, 20 + k);
        }
        for (int k = 11; k >= 4; k--) {
            Check.due("undo()", x.undo(), k - 4);
            for (int i = 0; i < 6; i++) {
                int last = (k - 1 - i) / 6 * 6 + i;
                int want = k - 1 - i < 0 ? i + 1 : 20 + last;
                Check.due("town(" + i + ", 0, 2) behind " + k, x.town(i, 0, 2), want);
            }
        }
        Check.due("undo()", x.undo(), NO);
    }

    /** What has been answered ahead of a change is not answered behind it. */
    private static void answersAreNew() {
        Check.sentence("An ERRAND can be told, GAS filled (it is G then). UNDONE is the latest of these. As KEPT last");
        HungInStorm x = Check.laid("v0,1;v0,1;t0,0,9,1,2;t1,0,9,1,2;t0,0,9,1,2;");
        Check.due("meet(0, 1)", x.meet(0, 1), NONE);
        x.keep();
        x.errand(1, 5, false);
        Check.due("meet(0, 1) behind errand()", x.meet(0, 1), 5);
        x.undo();
        Check.due("meet(0, 1) behind undo()", x.meet(0, 1), NONE);
        x.fill(1, 0);
        Check.due("meet(0, 1) behind fill()", x.meet(0, 1), 1);
        x.undo();
        Check.due("meet(0, 1) behind undo()", x.meet(0, 1), NONE);
        x.fill(0, 0);
        Check.due("lost(0) behind fill()", x.lost(0), 1);
        Check.due("markets(60) behind fill()", x.markets(60), 0);
        x.back();
        Check.due("lost(0) behind back()", x.lost(0), NONE);
        Check.due("markets(60) behind back()", x.markets(60), 60);
        x.wipe();
        Check.write(x, "v0,1;v0,1;t0,0,9,1,2;t1,0,9,1,2;m1,7,0;");
        Check.due("markets(60) behind write()", x.markets(60), 60);
        x.lay();
        Check.due("markets(60) behind lay()", x.markets(60), 54);
        Check.due("catches(0, 1, 1) behind lay()", x.catches(0, 1, 1), 8);
        x.errand(1, 1, false);
        Check.due("catches(0, 1, 1) behind errand()", x.catches(0, 1, 1), 9);
        Check.due("trades(0, 60, 1) behind errand()", x.trades(0, 60, 1), 60);
    }

    private static int drawn(int z, int i) {
        long q = (7919L * z % 65521 + 6151L * i % 65521 + 1) % 65521;
        return (int) (q * q % 65521 % 24);
    }

    /** All years there are, with six towns that stay where they are put: their markets are the pairs of one place. */
    private static void yearsAll() {
        Check.sentence("A YEAR by z (0 to 9999)");
        HungInStorm x = null;
        for (int z = 0; z <= 9999; z++) {
            if (z % 400 == 0) {
                x = Check.laid("v0,1;" + "t0,0,9,1,2;".repeat(6));
            }
            int pairs = 0;
            for (int i = 0; i < 6; i++) {
                for (int j = 0; j < i; j++) {
                    pairs += drawn(z, i) == drawn(z, j) ? 1 : 0;
                }
            }
            Check.due("year(" + z + ", 0)", x.year(z, 0), 60 * pairs);
        }
    }

    private static void yearPlaceOfEach() {
        Check.sentence("TOWN i is at place ((q times q) modulo 65521) modulo 24 at first, q being 7919 z, 6151 i and 1 together");
        // By hand: q of year 0 is 1 and 6152, of which the squares are 1 and 37847104 = 577 times 65521 and 41487.
        Check.due("place of town 0 in year 0", drawn(0, 0), 1);
        Check.due("place of town 1 in year 0", drawn(0, 1), 41487 % 24);
        // 14 places apart, at levels of pace 0 and 14, they are at one place behind day 1, where the one comes down on day 2.
        HungInStorm x = Check.laid("v0,1;v14,1;t1,9,9,1,2;t0,9,9,1,2;m0,2,0;");
        Check.due("year(0, 0)", x.year(0, 0), 59);
        HungInStorm y = Check.laid("v0,1;v13,1;t1,9,9,1,2;t0,9,9,1,2;m0,2,0;");
        Check.due("year(0, 0), a place short", y.year(0, 0), 0);
        // At 15 and 1 the other way round: by 10 it comes from 15 over 23 to 1.
        HungInStorm z = Check.laid("v0,1;v10,1;t0,9,9,1,2;t1,9,9,1,2;m1,2,0;");
        Check.due("year(0, 0), round the eye", z.year(0, 0), 59);
    }

    private static void yearToDaySixty() {
        Check.sentence("MARKETS to day 60");
        for (int day = 2; day <= 60; day++) {
            int there = 14 * (day - 1) % 24;
            HungInStorm x = Check.laid("v0,1;v14,1;t1,9,9,1,2;t0,9,9,1,2;m0," + day + ",0;");
            Check.due("year(0, 0), down on day " + day, x.year(0, 0), there == 14 ? 61 - day : 0);
        }
    }

    private static void yearLostByThen() {
        Check.sentence("how many are LOST by then");
        HungInStorm x = Check.laid("v0,0;" + "t0,0,60,1,0;".repeat(6));
        Check.due("none of six", x.year(0, 1), 0);
        for (int i = 0; i < 6; i++) {
            x.fill(i, i == 0 ? 59 : i);
            Check.due("lost of six", x.year(9999, 1), i + 1);
        }
        x.fill(3, 60);
        Check.due("lost on day 61 is not lost by then", x.year(0, 1), 5);
    }

    private static void yearAsThingsStand() {
        Check.sentence("A YEAR by z: TOWN i is at place [..] at first");
        // All else stands: the gas filled, the errands told, the levels, the lightning.
        HungInStorm x = Check.laid("v0,1;v14,1;t1,9,60,9,2;t0,9,9,1,2;z1,1;z0,2;");
        Check.due("year(0, 0)", x.year(0, 0), 0);
        x.errand(0, 2, false);
        Check.due("year(0, 0), with an errand", x.year(0, 0), 59);
        x.fill(1, 3);
        Check.due("year(0, 0), with 3, then 1", x.year(0, 0), 59);
        x.fill(1, 1);
        Check.due("year(0, 0), with 1, then none, lost on day 3", x.year(0, 0), 1);
        Check.due("year(0, 1)", x.year(0, 1), 1);
        x.undo();
        x.undo();
        x.undo();
        Check.due("year(0, 0), undone", x.year(0, 0), 0);
        Check.due("year(0, 1)", x.year(0, 1), 0);
    }

    private static HungInStorm inUse() {
        HungInStorm x = Check.laid("v1,1;v14,0;v3,1;t1,9,30,2,0;t0,9,9,1,2;t2,4,1,1,3;m0,2,0;z1,1;");
        x.keep();
        x.fill(2, 50);
        x.errand(1, 3, true);
        x.keep();
        x.errand(2, 1, false);
        x.wipe();
        Check.write(x, "v5,1;t0,6,7,8,1;");
        return x;
    }

    private static void yearChangesNothing() {
        Check.sentence("nothing changes by it");
        int[] years = {0, 1, 9998, 9999};
        for (int z : years) {
            NoTrace.due("year(" + z + ", 0)", ChangeEdgesTest::inUse, x -> x.year(z, 0), inUse().year(z, 0));
            NoTrace.due("year(" + z + ", 1)", ChangeEdgesTest::inUse, x -> x.year(z, 1), inUse().year(z, 1));
        }
    }

    private static void keptTwo() {
        Check.sentence("KEPT are ERRANDS and GAS: 2 at most");
        HungInStorm x = new HungInStorm();
        Check.due("back() of none", x.back(), NO);
        Check.due("keep(), first", x.keep(), 1);
        Check.due("keep(), second", x.keep(), 2);
        Check.due("keep(), third", x.keep(), FULL);
        Check.due("count(5)", x.count(5), 2);
        Check.due("back(), first", x.back(), 1);
        Check.due("keep(), second again", x.keep(), 2);
        Check.due("keep(), third again", x.keep(), FULL);
        Check.due("back(), first", x.back(), 1);
        Check.due("back(), second", x.back(), 0);
        Check.due("back(), third", x.back(), NO);
        Check.due("count(5)", x.count(5), 0);
    }

    private static void keptLast() {
        Check.sentence("As KEPT last (it is KEPT no more then): how many are left");
        HungInStorm x = new HungInStorm();
        x.fill(0, 31);
        x.keep();
        x.fill(0, 32);
        x.keep();
        x.fill(0, 33);
        Check.due("keep() is full", x.keep(), FULL);
        Check.due("back()", x.back(), 1);
        Check.due("as kept last", x.town(0, 0, 2), 32);
        Check.due("back()", x.back(), 0);
        Check.due("as kept first", x.town(0, 0, 2), 31);
        x.fill(0, 34);
        Check.due("back()", x.back(), NO);
        Check.due("as it is", x.town(0, 0, 2), 34);
    }

    private static void keptErrandsAndGas() {
        Check.sentence("KEPT are ERRANDS and GAS");
        HungInStorm x = Check.laid("v0,1;v0,1;" + "t0,0,20,2,2;".repeat(6) + "m5,1,1;");
        for (int i = 0; i < 6; i++) {
            x.fill(i, 30 + i);
        }
        for (int k = 2; k <= 8; k++) {
            x.errand(k - 2 < 6 ? k - 2 : 0, k, true);
        }
        x.keep();
        for (int i = 0; i < 6; i++) {
            x.fill(i, 5);
        }
        x.wipe();
        Check.write(x, "v9,0;t0,0,0,1,0;");
        Check.due("back()", x.back(), 0);
        for (int i = 0; i < 6; i++) {
            Check.dueTown(x, i, 0, 0, 0, 30 + i);
            Check.dueTown(x, i, 60, 1, 0, 28 + i);
            Check.dueTown(x, i, i + 1, i == 5 ? 1 : 0, 0, i == 5 ? 33 : 30 + i);
        }
        Check.due("count(2)", x.count(2), 8);
        // No text is kept, nor what is laid.
        Check.due("count(6)", x.count(6), 16);
        Check.due("level(0, 0)", x.level(0, 0), 0);
        Check.due("errand, the ninth", x.errand(0, 1, true), FULL);
        keptDays();
        // With no errand and no gas it is kept as well.
        HungInStorm y = Check.laid("v0,1;v0,1;t1,0,0,2,2;");
        y.keep();
        y.fill(0, 9);
        y.errand(0, 1, false);
        y.back();
        Check.due("count(2)", y.count(2), 0);
        Check.dueTown(y, 0, 1, 0, 0, 0);
    }

    /** All eight errands, each of another town, day and way than the one that stands in its stead ahead of back. */
    private static void keptDays() {
        HungInStorm x = Check.laid("v0,1;v0,1;v0,1;t1,0,60,1,2;t1,0,60,1,2;");
        for (int k = 1; k <= 8; k++) {
            x.errand(0, 5 * k, k % 2 == 0);
        }
        x.keep();
        for (int k = 1; k <= 8; k++) {
            x.undo();
        }
        for (int k = 1; k <= 8; k++) {
            x.errand(1, 6 * k, k % 2 == 1);
        }
        Check.due("errands of the other town", x.town(1, 59, 2), 56);
        x.back();
        for (int t = 0; t <= 60; t++) {
            int run = Math.min(t / 5, 8);
            Check.dueTown(x, 0, t, 1 - run % 2, 0, 60 - run / 2);
        }
        Check.dueTown(x, 1, 60, 1, 0, 60);
    }

    private static void keptOnce() {
        Check.sentence("KEPT: how many");
        // What is kept stays as it was kept, whatever comes to be told or undone behind it.
        HungInStorm x = new HungInStorm();
        x.errand(0, 1, true);
        x.keep();
        x.undo();
        x.errand(1, 1, false);
        x.fill(0, 60);
        x.keep();
        x.undo();
        x.undo();
        Check.due("back()", x.back(), 1);
        Check.dueTown(x, 0, 1, 0, 2, 59);
        Check.dueTown(x, 1, 1, 0, 8, 19);
        Check.due("back()", x.back(), 0);
        Check.dueTown(x, 0, 1, 1, 5, 17);
        Check.dueTown(x, 1, 1, 1, 11, 19);
    }

    private static void keptIsNoChange() {
        Check.sentence("UNDONE is the latest of these: KEPT is none of them");
        HungInStorm x = new HungInStorm();
        Check.due("keep()", x.keep(), 1);
        Check.due("count(4)", x.count(4), 0);
        Check.due("undo()", x.undo(), NO);
        x.fill(0, 9);
        Check.due("keep()", x.keep(), 2);
        Check.due("count(4)", x.count(4), 1);
        Check.due("undo()", x.undo(), 0);
        Check.due("town(0, 0, 2)", x.town(0, 0, 2), 20);
        Check.due("count(5)", x.count(5), 2);
    }

    private static void backIsNotUndone() {
        Check.sentence("nothing is UNDONE then");
        HungInStorm x = new HungInStorm();
        x.keep();
        for (int k = 1; k <= 8; k++) {
            x.fill(0, k);
        }
        Check.due("back()", x.back(), 0);
        Check.due("count(4)", x.count(4), 0);
        Check.due("undo()", x.undo(), NO);
        Check.due("town(0, 0, 2)", x.town(0, 0, 2), 20);
        x.fill(0, 9);
        Check.due("undo() of what came behind it", x.undo(), 0);
        Check.due("undo()", x.undo(), NO);
        Check.due("town(0, 0, 2)", x.town(0, 0, 2), 20);
    }

    private static void dueOnlyAsked(String call, NoTrace.Call made) {
        NoTrace.due(call, ChangeEdgesTest::inUse, made, made.of(inUse()));
    }

    private static void onlyAsked() {
        Check.sentence("Nothing is promised beyond the answers and state changes described above: what only asks changes nothing");
        dueOnlyAsked("fault()", HungInStorm::fault);
        dueOnlyAsked("level(2, 0)", x -> x.level(2, 0));
        dueOnlyAsked("town(0, 60, 2)", x -> x.town(0, 60, 2));
        dueOnlyAsked("lost(2)", x -> x.lost(2));
        dueOnlyAsked("meet(0, 1)", x -> x.meet(0, 1));
        dueOnlyAsked("markets(60)", x -> x.markets(60));
        dueOnlyAsked("stay(0, 1, 1)", x -> x.stay(0, 1, 1));
        dueOnlyAsked("catches(0, 1, 1)", x -> x.catches(0, 1, 1));
        dueOnlyAsked("keeps(0, 60, 1)", x -> x.keeps(0, 60, 1));
        dueOnlyAsked("trades(0, 60, 1)", x -> x.trades(0, 60, 1));
        dueOnlyAsked("dropped(2, 23, 60, 1)", x -> x.dropped(2, 23, 60, 1));
        dueOnlyAsked("seen(0, 0, 99)", x -> x.seen(0, 0, 99));
        dueOnlyAsked("seenTwice(0, 0, 99, 0, 99)", x -> x.seenTwice(0, 0, 99, 0, 99));
        dueOnlyAsked("gusts(2, 0, 5, 9, 1)", x -> x.gusts(2, 0, 5, 9, 1));
        dueOnlyAsked("count(6)", x -> x.count(6));
    }

    private static void dueCounts(HungInStorm x, int... counts) {
        for (int what = 0; what < counts.length; what++) {
            Check.due("count(" + what + ")", x.count(what), counts[what]);
        }
    }

    private static void countOfNone() {
        Check.sentence("How many: 0 LEVELS, 1 TOWNS, 2 ERRANDS, 3 LIGHTNINGS, 4 that can be UNDONE, 5 KEPT, 6 bytes of THE TEXT");
        dueCounts(new HungInStorm(), 2, 2, 0, 0, 0, 0, 0);
        HungInStorm least = Check.laid("v0,0;t0,0,0,1,0;");
        dueCounts(least, 1, 1, 0, 0, 0, 0, 16);
        least.wipe();
        dueCounts(least, 1, 1, 0, 0, 0, 0, 0);
    }

    private static void countOfAll() {
        Check.sentence("How many: 0 LEVELS, 1 TOWNS, 2 ERRANDS, 3 LIGHTNINGS, 4 that can be UNDONE, 5 KEPT, 6 bytes of THE TEXT");
        HungInStorm x = Check.laid("v0,0;".repeat(6) + "t0,0,0,1,0;".repeat(6) + "z0,1;".repeat(5));
        for (int k = 1; k <= 8; k++) {
            dueCounts(x, 6, 6, k - 1, 5, k - 1, 0, 121);
            x.errand(5, 60, true);
        }
        x.fill(0, 0);
        x.keep();
        dueCounts(x, 6, 6, 8, 5, 8, 1, 121);
        x.keep();
        Check.writeMore(x, 121, "x".repeat(179));
        dueCounts(x, 6, 6, 8, 5, 8, 2, 300);
        x.undo();
        dueCounts(x, 6, 6, 8, 5, 7, 2, 300);
        x.undo();
        dueCounts(x, 6, 6, 7, 5, 6, 2, 300);
        x.back();
        dueCounts(x, 6, 6, 8, 5, 0, 1, 300);
    }
}
