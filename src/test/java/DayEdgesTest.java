/** The steps of a day, MEET and MARKETS (promises 7 to 10): each sentence that names a boundary, at that boundary. */
public final class DayEdgesTest {

    private static final int BAD = HungInStorm.BAD, NONE = HungInStorm.NONE;

    private static final int PLAIN = 0, TORN = 1, PATCHED = 2, LIGHT = 3;

    public static void main(String[] args) {
        placesRoundTheEye();
        placesOfAllPaces();
        dayNought();
        dayOneAndSixty();
        downIfThereIsOne();
        upIfThereIsOne();
        upWithGas();
        upAllOfOneDay();
        lessThen();
        asTold();
        errandOfAnother();
        errandOfALostTown();
        downAndLost();
        withoutGas();
        lostFromLevelNought();
        lostOnDay();
        lostTown();
        paceOfItsLevel();
        lightningHalves();
        lightningOnce();
        lightningAtLevelAndDay();
        lightningBehindTheSteps();
        gasOfKinds();
        gasNoughtAtLeast();
        gasToDaySixty();
        meetLevelAndPlace();
        meetNoneLost();
        meetFirstDay();
        meetPlaceNought();
        marketsToDay();
        marketsPairs();
        marketsOfNone();
        Check.end();
    }

    private static void placesRoundTheEye() {
        Check.sentence("There are 24 places round the eye");
        HungInStorm x = Check.laid("v1,1;v23,1;v12,1;v0,1;t0,22,9,1,2;t1,1,9,1,2;t2,12,9,1,2;t3,23,9,1,2;");
        Check.due("22 and 1", x.town(0, 1, 1), 23);
        Check.due("23 and 1", x.town(0, 2, 1), 0);
        Check.due("0 and 1", x.town(0, 3, 1), 1);
        Check.due("1 and 23", x.town(1, 1, 1), 0);
        Check.due("0 and 23", x.town(1, 2, 1), 23);
        Check.due("23 and 23", x.town(1, 3, 1), 22);
        Check.due("12 and 12", x.town(2, 1, 1), 0);
        Check.due("0 and 12", x.town(2, 2, 1), 12);
        Check.due("23 and 0", x.town(3, 1, 1), 23);
        for (int i = 0; i < 4; i++) {
            Check.due("once round, " + i, x.town(i, 24, 1), x.town(i, 0, 1));
            Check.due("twice round, " + i, x.town(i, 48, 1), x.town(i, 0, 1));
        }
    }

    private static void placesOfAllPaces() {
        Check.sentence("Each TOWN goes on by the PACE of its LEVEL (modulo 24)");
        for (int pace = 0; pace <= 23; pace++) {
            for (int place = 0; place <= 23; place++) {
                HungInStorm x = Check.laid("v" + pace + ",1;t0," + place + ",9,1,2;");
                int sum = place + pace;
                Check.due("place " + place + ", pace " + pace, x.town(0, 1, 1), sum >= 24 ? sum - 24 : sum);
            }
        }
    }

    private static void dayNought() {
        Check.sentence("On each day, from day 1 on");
        HungInStorm x = Check.laid("v5,0;v7,0;t0,3,0,1,0;t1,4,0,1,1;t1,5,60,9,1;m2,1,0;z0,1;z1,1;");
        Check.dueTown(x, 0, 0, 0, 3, 0);
        Check.dueTown(x, 1, 0, 1, 4, 0);
        Check.dueTown(x, 2, 0, 1, 5, 60);
        Check.dueTown(x, 0, 1, 9, NONE, 0);
        Check.dueTown(x, 1, 1, 0, 9, 0);
        Check.dueTown(x, 2, 1, 0, 10, 28);
    }

    private static void dayOneAndSixty() {
        Check.sentence("on day D (1 to 60)");
        HungInStorm x = Check.laid("v0,1;v0,1;t1,0,60,9,2;t0,0,60,9,2;m0,1,0;m1,60,1;z1,60;z0,1;");
        Check.dueTown(x, 0, 0, 1, 0, 60);
        Check.dueTown(x, 0, 1, 0, 0, 30);
        Check.dueTown(x, 1, 1, 0, 0, 30);
        Check.dueTown(x, 1, 59, 0, 0, 30);
        Check.dueTown(x, 1, 60, 1, 0, 10);
    }

    private static void downIfThereIsOne() {
        Check.sentence("the TOWN goes one LEVEL down, if there is one");
        for (int l = 0; l <= 5; l++) {
            for (int errands = 0; errands <= 8; errands++) {
                HungInStorm x = Check.laid("v0,1;".repeat(6) + "t" + l + ",0,1,9,2;" + "m0,1,0;".repeat(errands));
                Check.dueTown(x, 0, 1, Math.max(0, l - errands), 0, 1);
            }
        }
    }

    private static void upIfThereIsOne() {
        Check.sentence("or one up, if there is one");
        for (int levels = 1; levels <= 6; levels++) {
            HungInStorm top = Check.laid("v0,1;".repeat(levels) + "t" + (levels - 1) + ",0,60,1,2;m0,1,1;");
            Check.dueTown(top, 0, 1, levels - 1, 0, 60);
            if (levels > 1) {
                HungInStorm under = Check.laid("v0,1;".repeat(levels) + "t" + (levels - 2) + ",0,60,1,2;m0,1,1;");
                Check.dueTown(under, 0, 1, levels - 1, 0, 59);
            }
        }
    }

    private static void upWithGas() {
        Check.sentence("and it has M GAS or more: M less then");
        for (int weight = 1; weight <= 9; weight++) {
            HungInStorm x = Check.laid("v0,1;v0,1;v0,1;t1,0,0," + weight + ",2;m0,1,1;");
            for (int gas = 1; gas <= 12; gas++) {
                x.fill(0, gas);
                // With just M it is without gas up there, and comes down again in step 2.
                int level = gas > weight ? 2 : 1;
                Check.dueTown(x, 0, 1, level, 0, gas >= weight ? gas - weight : gas);
            }
        }
    }

    private static void upAllOfOneDay() {
        Check.sentence("For each ERRAND of the day, as told, [..] one up, if there is one and it has M GAS or more");
        for (int errands = 0; errands <= 8; errands++) {
            HungInStorm x = Check.laid("v0,1;".repeat(6) + "t0,0,60,9,2;t0,0,27,9,2;" + "m0,3,1;".repeat(errands));
            int ups = Math.min(errands, 5);
            Check.dueTown(x, 0, 3, ups, 0, 60 - 9 * ups);
            Check.dueTown(x, 1, 3, 0, 0, 27);
        }
        // Three times 9: the third one takes the last, the fourth one finds none.
        HungInStorm y = Check.laid("v0,1;".repeat(6) + "t0,0,27,9,2;t0,0,35,9,2;t0,0,36,9,2;"
            + "m0,1,1;m0,1,1;m0,1,1;m0,1,1;m1,1,1;m1,1,1;m1,1,1;m1,1,1;");
        Check.dueTown(y, 0, 1, 2, 0, 0);
        Check.dueTown(y, 1, 1, 3, 0, 8);
        HungInStorm z = Check.laid("v0,1;".repeat(6) + "t0,0,36,9,2;m0,1,1;m0,1,1;m0,1,1;m0,1,1;m0,1,1;");
        Check.dueTown(z, 0, 1, 3, 0, 0);
    }

    private static void lessThen() {
        Check.sentence("M less then");
        HungInStorm x = Check.laid("v0,1;v0,1;t0,0,9,9,2;t0,0,10,9,2;t1,0,9,9,2;m0,1,1;m1,1,1;m2,1,1;");
        Check.dueTown(x, 0, 1, 0, 0, 0);
        Check.due("lost(0)", x.lost(0), 2);
        Check.dueTown(x, 1, 1, 1, 0, 1);
        Check.dueTown(x, 2, 1, 1, 0, 9);
    }

    private static void asTold() {
        Check.sentence("For each ERRAND of the day, as told");
        HungInStorm down = Check.laid("v0,1;v0,1;t0,0,9,2,2;m0,1,0;m0,1,1;");
        Check.dueTown(down, 0, 1, 1, 0, 7);
        HungInStorm up = Check.laid("v0,1;v0,1;t0,0,9,2,2;m0,1,1;m0,1,0;");
        Check.dueTown(up, 0, 1, 0, 0, 7);
        // At the highest level: up is for nothing, then down; or down, and up again for gas.
        HungInStorm top = Check.laid("v0,1;v0,1;t1,0,9,2,2;m0,1,1;m0,1,0;");
        Check.dueTown(top, 0, 1, 0, 0, 9);
        HungInStorm again = Check.laid("v0,1;v0,1;t1,0,9,2,2;m0,1,0;m0,1,1;");
        Check.dueTown(again, 0, 1, 1, 0, 7);
        // Told late for an early day, it is still run on its day.
        HungInStorm early = Check.laid("v0,1;v0,1;t0,0,9,2,2;m0,5,1;m0,1,1;m0,4,0;");
        Check.dueTown(early, 0, 1, 1, 0, 7);
        Check.dueTown(early, 0, 4, 0, 0, 7);
        Check.dueTown(early, 0, 5, 1, 0, 5);
        // With 3 of gas and weight 2, one up is all: the one behind the down finds too little.
        HungInStorm poor = Check.laid("v0,1;v0,1;t0,0,3,2,2;m0,1,1;m0,1,0;m0,1,1;");
        Check.dueTown(poor, 0, 1, 0, 0, 1);
    }

    private static void errandOfAnother() {
        Check.sentence("an ERRAND of TOWN T");
        HungInStorm x = Check.laid("v0,1;v0,1;" + "t0,0,9,2,2;".repeat(6) + "m5,1,1;m0,2,1;");
        for (int i = 0; i < 6; i++) {
            Check.due("level of " + i + " behind day 1", x.town(i, 1, 0), i == 5 ? 1 : 0);
            Check.due("level of " + i + " behind day 2", x.town(i, 2, 0), i == 5 || i == 0 ? 1 : 0);
            Check.due("gas of " + i + " behind day 2", x.town(i, 2, 2), i == 5 || i == 0 ? 7 : 9);
        }
    }

    private static void errandOfALostTown() {
        Check.sentence("the TOWN (if it is not LOST)");
        HungInStorm x = Check.laid("v0,1;v0,1;t0,0,0,1,2;m0,1,1;m0,2,1;m0,3,0;m0,60,1;");
        Check.due("lost(0)", x.lost(0), 1);
        for (int t = 1; t <= 60; t++) {
            Check.dueTown(x, 0, t, 9, NONE, 0);
        }
    }

    private static void downAndLost() {
        Check.sentence("A TOWN without GAS goes one LEVEL down; from LEVEL 0 it is LOST");
        // Down by its errand to level 0, and on the same day lost from there.
        HungInStorm x = Check.laid("v0,1;v0,1;t1,0,0,1,2;t1,0,0,1,2;t1,0,1,1,2;m0,1,0;m2,1,0;");
        Check.due("lost(0)", x.lost(0), 1);
        Check.due("lost(1)", x.lost(1), 2);
        Check.dueTown(x, 2, 1, 0, 0, 1);
        Check.due("lost(2)", x.lost(2), NONE);
        // Twice down from level 2, and a third for want of gas.
        HungInStorm y = Check.laid("v0,1;v0,1;v0,1;t2,0,0,1,2;m0,1,0;m0,1,0;");
        Check.due("lost from level 2", y.lost(0), 1);
    }

    private static void withoutGas() {
        Check.sentence("A TOWN without GAS goes one LEVEL down");
        HungInStorm x = Check.laid("v1,1;v2,1;v4,1;v8,1;v16,1;v23,1;t5,0,0,1,2;t5,0,1,1,2;");
        int[] places = {0, 16, 0, 4, 6, 7};
        for (int t = 0; t <= 5; t++) {
            Check.dueTown(x, 0, t, 5 - t, places[t], 0);
        }
        Check.dueTown(x, 0, 6, 9, NONE, 0);
        Check.dueTown(x, 1, 60, 5, 23 * 60 % 24, 1);
    }

    private static void lostFromLevelNought() {
        Check.sentence("from LEVEL 0 it is LOST");
        for (int l = 0; l <= 5; l++) {
            HungInStorm x = Check.laid("v0,0;".repeat(6) + "t" + l + ",0,0,1,0;");
            Check.due("lost(0) from level " + l, x.lost(0), l + 1);
            Check.due("level the day ahead", x.town(0, l, 0), 0);
            Check.due("level on that day", x.town(0, l + 1, 0), 9);
        }
    }

    private static void lostOnDay() {
        Check.sentence("The day on which a TOWN is LOST, to day 60. NONE");
        HungInStorm x = Check.laid("v0,0;v0,0;t0,0,0,1,0;t1,0,0,1,0;");
        for (int gas = 0; gas <= 60; gas++) {
            x.fill(0, gas);
            x.fill(1, gas);
            Check.due("lost with " + gas, x.lost(0), gas + 1 <= 60 ? gas + 1 : NONE);
            Check.due("lost from level 1 with " + gas, x.lost(1), gas + 2 <= 60 ? gas + 2 : NONE);
        }
    }

    private static void lostTown() {
        Check.sentence("LEVEL (what = 0; 9 LOST), place (1; NONE: LOST), GAS (2)");
        HungInStorm x = Check.laid("v3,0;t0,5,58,1,0;t0,5,59,1,0;t0,5,60,1,0;");
        Check.dueTown(x, 0, 58, 0, (5 + 3 * 58) % 24, 0);
        Check.dueTown(x, 0, 59, 9, NONE, 0);
        Check.dueTown(x, 0, 60, 9, NONE, 0);
        Check.dueTown(x, 1, 59, 0, (5 + 3 * 59) % 24, 0);
        Check.dueTown(x, 1, 60, 9, NONE, 0);
        Check.dueTown(x, 2, 60, 0, (5 + 3 * 60) % 24, 0);
    }

    private static void paceOfItsLevel() {
        Check.sentence("one behind the other: 1 [..] 2 [..] 3 Each TOWN goes on by the PACE of its LEVEL");
        // Of the level to which errand, and want of gas, have brought it.
        HungInStorm x = Check.laid("v1,1;v5,1;v20,1;t1,23,9,1,2;t1,23,9,1,2;t1,23,0,1,2;t2,23,0,1,2;m0,1,1;m1,1,0;m3,1,0;");
        Check.dueTown(x, 0, 1, 2, 19, 8);
        Check.dueTown(x, 1, 1, 0, 0, 9);
        Check.dueTown(x, 2, 1, 0, 0, 0);
        Check.dueTown(x, 3, 1, 0, 0, 0);
    }

    private static void lightningHalves() {
        Check.sentence("each TOWN loses half of its GAS (cut up, what it loses)");
        HungInStorm x = Check.laid("v0,1;v0,1;t1,0,0,1,2;z1,1;z0,1;");
        for (int gas = 0; gas <= 60; gas++) {
            x.fill(0, gas);
            int loses = gas % 2 == 0 ? gas / 2 : (gas + 1) / 2;
            Check.due("gas of " + gas, x.town(0, 1, 2), gas - loses);
        }
        // The last of its gas is lost to it: it comes down the day behind.
        x.fill(0, 1);
        Check.dueTown(x, 0, 1, 1, 0, 0);
        Check.dueTown(x, 0, 2, 0, 0, 0);
    }

    private static void lightningOnce() {
        Check.sentence("(once, also if it is told twice)");
        for (int times = 1; times <= 5; times++) {
            HungInStorm x = Check.laid("v0,1;t0,0,60,1,2;" + "z0,7;".repeat(times));
            Check.due("told " + times + " times", x.town(0, 7, 2), 30);
            Check.due("the day behind", x.town(0, 8, 2), 30);
        }
        HungInStorm y = Check.laid("v0,1;v0,1;t0,0,60,1,2;z0,7;z1,7;z0,8;z1,8;z0,7;");
        Check.due("on two days", y.town(0, 8, 2), 15);
        Check.due("behind them", y.town(0, 60, 2), 15);
    }

    private static void lightningAtLevelAndDay() {
        Check.sentence("At each LEVEL with LIGHTNING on the day each TOWN loses");
        for (int struck = 0; struck <= 5; struck++) {
            HungInStorm x = Check.laid("v0,1;".repeat(6) + "t0,0,9,1,2;t1,0,9,1,2;t2,0,9,1,2;t3,0,9,1,2;t4,0,9,1,2;t5,0,9,1,2;"
                + "z" + struck + ",3;");
            for (int i = 0; i <= 5; i++) {
                Check.due("the day ahead, " + i, x.town(i, 2, 2), 9);
                Check.due("that day, " + i, x.town(i, 3, 2), i == struck ? 4 : 9);
                Check.due("the day behind, " + i, x.town(i, 4, 2), i == struck ? 4 : 9);
            }
        }
        HungInStorm both = Check.laid("v0,1;t0,0,9,1,2;t0,5,60,1,2;z0,60;");
        Check.due("ahead of day 60", both.town(0, 59, 2), 9);
        Check.due("on day 60", both.town(0, 60, 2), 4);
        Check.due("the other one too", both.town(1, 60, 2), 30);
    }

    private static void lightningBehindTheSteps() {
        Check.sentence("one behind the other: 1 [..] 4 At each LEVEL with LIGHTNING [..] 5 A PLAIN TOWN loses 1");
        // Up into it: 20 less 4, then half, then 1. Down out of it: 20 less 1. Sunk into it: nothing to lose.
        HungInStorm x = Check.laid("v0,0;v0,0;t0,0,20,4,0;t1,0,20,4,0;t1,0,21,4,0;z1,1;m0,1,1;m1,1,0;");
        Check.dueTown(x, 0, 1, 1, 0, 7);
        Check.dueTown(x, 1, 1, 0, 0, 19);
        Check.dueTown(x, 2, 1, 1, 0, 9);
        // With 4 just enough to go up: the gas is counted ahead of the lightning.
        HungInStorm y = Check.laid("v0,1;v0,1;t0,0,5,4,2;z1,1;m0,1,1;");
        Check.dueTown(y, 0, 1, 1, 0, 0);
    }

    private static void dueLoss(String level, int kind, int day, int gas, int want) {
        // At level 1, so that one without gas is not lost; on day 2 one that is patched at a dry level is no more.
        HungInStorm x = Check.laid("v0,0;" + level + "t1,0," + gas + ",1," + kind + ";");
        Check.due("kind " + kind + " at " + level + " with " + gas + " behind day " + day, x.town(0, day, 2), want);
    }

    private static void gasOfKinds() {
        Check.sentence("A PLAIN TOWN loses 1 GAS, a TORN one 2, a PATCHED one 1, none at a wet LEVEL, a LIGHT one 1 on each even day");
        for (int wet = 0; wet <= 1; wet++) {
            String level = "v0," + wet + ";";
            for (int day = 1; day <= 10; day++) {
                dueLoss(level, PLAIN, day, 60, 60 - day);
                dueLoss(level, TORN, day, 60, 60 - 2 * day);
                dueLoss(level, PATCHED, day, 60, wet == 1 ? 60 : 60 - day);
                dueLoss(level, LIGHT, day, 60, 60 - day / 2);
            }
        }
        // Of the level where it is at the end of the day.
        HungInStorm x = Check.laid("v0,0;v0,1;t0,0,9,1,2;t1,0,9,1,2;m0,1,1;m1,1,0;");
        Check.dueTown(x, 0, 1, 1, 0, 8);
        Check.dueTown(x, 1, 1, 0, 0, 8);
    }

    private static void gasNoughtAtLeast() {
        Check.sentence("0 at least");
        for (int wet = 0; wet <= 1; wet++) {
            String level = "v0," + wet + ";";
            dueLoss(level, PLAIN, 1, 2, 1);
            dueLoss(level, PLAIN, 1, 1, 0);
            dueLoss(level, PLAIN, 1, 0, 0);
            dueLoss(level, TORN, 1, 3, 1);
            dueLoss(level, TORN, 1, 2, 0);
            dueLoss(level, TORN, 1, 1, 0);
            dueLoss(level, TORN, 1, 0, 0);
            dueLoss(level, PATCHED, 1, 1, wet);
            dueLoss(level, PATCHED, 1, 0, 0);
            dueLoss(level, LIGHT, 1, 1, 1);
            dueLoss(level, LIGHT, 2, 1, 0);
            dueLoss(level, LIGHT, 2, 0, 0);
        }
        // Struck down to none, then there is none to lose.
        HungInStorm x = Check.laid("v0,0;v0,0;t1,0,1,1,1;t1,0,3,1,1;t1,0,1,1,0;z1,1;");
        for (int i = 0; i < 3; i++) {
            Check.dueTown(x, i, 1, 1, 0, 0);
        }
    }

    private static void gasToDaySixty() {
        Check.sentence("behind day t (0 to 60): [..] GAS (2)");
        HungInStorm x = Check.laid("v0,0;v0,1;t0,0,60,1,0;t1,0,60,1,1;t1,0,60,1,2;t1,0,60,1,3;");
        Check.dueTown(x, 0, 59, 0, 0, 1);
        Check.dueTown(x, 0, 60, 0, 0, 0);
        Check.dueTown(x, 1, 29, 1, 0, 2);
        Check.dueTown(x, 1, 30, 1, 0, 0);
        Check.dueTown(x, 1, 31, 0, 0, 0);
        Check.due("lost(1)", x.lost(1), 32);
        Check.dueTown(x, 2, 60, 1, 0, 60);
        Check.dueTown(x, 3, 59, 1, 0, 31);
        Check.dueTown(x, 3, 60, 1, 0, 30);
    }

    private static void meetLevelAndPlace() {
        Check.sentence("Two TOWNS MEET behind a day, if [..] they are at one LEVEL and place");
        HungInStorm x = Check.laid("v0,1;v0,1;t0,5,9,1,2;t0,5,9,1,2;t1,5,9,1,2;t0,6,9,1,2;t1,6,9,1,2;");
        for (int i = 0; i < 5; i++) {
            for (int j = 0; j < 5; j++) {
                boolean meets = i + j == 1;
                Check.due("meet(" + i + ", " + j + ")", x.meet(i, j), i == j ? BAD : meets ? 1 : NONE);
            }
        }
    }

    private static void meetNoneLost() {
        Check.sentence("if neither is LOST");
        // All lost on one day, at one place; or the one, with the other one left where it was.
        HungInStorm x = Check.laid("v0,0;t0,5,0,1,0;t0,5,0,1,0;t0,5,9,1,0;t0,5,60,1,0;");
        Check.due("both lost on day 1", x.meet(0, 1), NONE);
        Check.due("the first one lost", x.meet(0, 2), NONE);
        Check.due("the second one lost", x.meet(2, 0), NONE);
        Check.due("both there", x.meet(2, 3), 1);
        Check.due("markets(9), till one is without gas", x.markets(9), 9);
        Check.due("markets(10), that one lost", x.markets(10), 9);
        Check.due("markets(60)", x.markets(60), 9);
    }

    private static void meetFirstDay() {
        Check.sentence("The first day (1 to 60) behind which two TOWNS MEET. NONE");
        // At one place all the time, and at one level from the day on which the one comes down to the other.
        for (int day = 1; day <= 60; day++) {
            HungInStorm x = Check.laid("v0,1;v0,1;t0,5,9,1,2;t1,5,9,1,2;m1," + day + ",0;");
            Check.due("meet(0, 1), down on day " + day, x.meet(0, 1), day);
            Check.due("meet(1, 0), down on day " + day, x.meet(1, 0), day);
        }
        HungInStorm never = Check.laid("v0,1;v0,1;t0,5,9,1,2;t1,5,9,1,2;");
        Check.due("meet(0, 1), never", never.meet(0, 1), NONE);
        // Together on day 0 alone does not count.
        HungInStorm parted = Check.laid("v0,1;v1,1;v0,1;t1,5,9,1,2;t1,5,9,1,2;m0,1,0;m0,20,1;m0,21,0;");
        Check.due("meet(0, 1), parted on day 1", parted.meet(0, 1), NONE);
    }

    private static void meetPlaceNought() {
        Check.sentence("There are 24 places round the eye: the place that comes after 23");
        HungInStorm x = Check.laid("v0,1;v1,1;v23,1;t0,0,9,1,2;t1,22,9,1,2;t2,3,9,1,2;m1,3,0;m2,4,0;m2,4,0;");
        // At 0 behind day 2, it comes down on day 3 and stays; the other one is at 0 behind day 3 and comes down twice.
        Check.dueTown(x, 1, 2, 1, 0, 9);
        Check.dueTown(x, 1, 3, 0, 0, 9);
        Check.dueTown(x, 2, 3, 2, 0, 9);
        Check.due("meet(0, 1)", x.meet(0, 1), 3);
        Check.due("meet(0, 2)", x.meet(0, 2), 4);
        Check.due("meet(1, 2)", x.meet(1, 2), 4);
    }

    private static void marketsToDay() {
        Check.sentence("MARKETS to day n: of all days from 1 to n how many pairs MEET behind them together");
        HungInStorm x = Check.laid("v0,1;v0,1;t0,5,9,1,2;t1,5,9,1,2;m1,7,0;m1,9,1;m1,60,0;");
        for (int n = 1; n <= 60; n++) {
            int want = n < 7 ? 0 : n == 7 ? 1 : n < 60 ? 2 : 3;
            Check.due("markets(" + n + ")", x.markets(n), want);
        }
        HungInStorm y = Check.laid("v7,1;t0,5,9,1,2;t0,5,9,1,2;");
        for (int n = 1; n <= 60; n++) {
            Check.due("markets(" + n + ") of two together", y.markets(n), n);
        }
    }

    private static void marketsPairs() {
        Check.sentence("how many pairs MEET");
        int[] pairs = {0, 1, 3, 6, 10, 15};
        for (int towns = 1; towns <= 6; towns++) {
            HungInStorm x = Check.laid("v7,1;" + "t0,5,9,1,2;".repeat(towns));
            Check.due("markets(1) of " + towns, x.markets(1), pairs[towns - 1]);
            Check.due("markets(60) of " + towns, x.markets(60), 60 * pairs[towns - 1]);
        }
        // Three and three at two places: 3 pairs each.
        HungInStorm two = Check.laid("v7,1;" + "t0,5,9,1,2;".repeat(3) + "t0,6,9,1,2;".repeat(3));
        Check.due("three and three", two.markets(1), 6);
    }

    private static void marketsOfNone() {
        Check.sentence("MARKETS to day n: [..] how many pairs");
        HungInStorm one = Check.laid("v0,1;t0,0,9,1,2;");
        Check.due("markets(60) of one town", one.markets(60), 0);
        HungInStorm lost = Check.laid("v0,1;" + "t0,0,0,1,2;".repeat(6));
        Check.due("markets(60) of six that are lost", lost.markets(60), 0);
        // On day 0 they are together, which is none of the days from 1 on.
        HungInStorm parted = Check.laid("v0,1;v1,1;t0,0,9,1,2;t0,0,9,1,2;m0,1,1;");
        Check.due("markets(60) of two that part on day 1", parted.markets(60), 0);
    }
}
