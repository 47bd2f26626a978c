/** STAY, CATCH, KEEPS and TRADES (promises 11 to 14): each sentence that names a boundary, at that boundary. */
public final class MarketEdgesTest {

    private static final int BAD = HungInStorm.BAD, NONE = HungInStorm.NONE;

    public static void main(String[] args) {
        stayAllPacesAndPlaces();
        stayFirstDay();
        stayAtLeastOne();
        stayWhateverLevel();
        stayForEver();
        stayUnlike();
        catchDayOne();
        catchDayTwenty();
        catchErrandsLeftOut();
        catchAllElseAsTold();
        catchWhereItCanNot();
        catchOneMoveADay();
        catchMostGas();
        catchGasBounds();
        catchNoneLost();
        catchNotOnDayNought();
        catchThroughLightning();
        catchByKind();
        catchGasNoughtAtLeast();
        catchTooPoorForTheStruckLevel();
        catchRoundTheEye();
        keepsBehindNoDay();
        keepsLowest();
        keepsHighest();
        keepsLost();
        keepsDays();
        keepsWithErrands();
        tradesDays();
        tradesLowest();
        tradesHighest();
        tradesOfItsOwn();
        tradesNone();
        tradesWithErrands();
        Check.end();
    }

    private static void dueStay(HungInStorm x, int i, int j, int first, int again) {
        Check.due("stay(" + i + ", " + j + ", 0)", x.stay(i, j, 0), first);
        Check.due("stay(" + i + ", " + j + ", 1)", x.stay(i, j, 1), again);
    }

    /** Each pace against a standing one, from each place: looked for day by day. */
    private static void stayAllPacesAndPlaces() {
        Check.sentence("the first day (0 to 23) behind which they are at one place; how many days, at least one, it takes again and again; none");
        for (int pace = 0; pace <= 23; pace++) {
            for (int place = 0; place <= 23; place++) {
                HungInStorm x = Check.laid("v11,0;v" + (11 + pace) % 24 + ",0;t0,0,9,1,0;t1," + place + ",9,1,0;");
                int first = NONE;
                int again = NONE;
                int at = place;
                for (int day = 0; day < 48; day++) {
                    if (at == 0 && first == NONE) {
                        first = day;
                    } else if (at == 0 && again == NONE) {
                        again = day - first;
                    }
                    at = (at + pace) % 24;
                }
                dueStay(x, 0, 1, first, again);
                dueStay(x, 1, 0, first, again);
            }
        }
    }

    private static void stayFirstDay() {
        Check.sentence("the first day (0 to 23)");
        HungInStorm slower = Check.laid("v0,0;v1,0;t0,0,9,1,0;t1,0,9,1,0;t1,1,9,1,0;t1,2,9,1,0;t1,23,9,1,0;");
        dueStay(slower, 0, 1, 0, 24);
        dueStay(slower, 0, 2, 23, 24);
        dueStay(slower, 0, 3, 22, 24);
        dueStay(slower, 0, 4, 1, 24);
        HungInStorm back = Check.laid("v0,0;v23,0;t0,0,9,1,0;t1,1,9,1,0;t1,23,9,1,0;");
        dueStay(back, 0, 1, 1, 24);
        dueStay(back, 0, 2, 23, 24);
    }

    private static void stayAtLeastOne() {
        Check.sentence("how many days, at least one, it takes again and again");
        HungInStorm x = Check.laid("v5,0;v5,0;v17,0;v23,0;t0,7,9,1,0;t1,7,9,1,0;t2,7,9,1,0;t3,7,9,1,0;");
        dueStay(x, 0, 1, 0, 1);
        dueStay(x, 0, 2, 0, 2);
        dueStay(x, 0, 3, 0, 4);
        dueStay(x, 2, 3, 0, 4);
        HungInStorm y = Check.laid("v5,0;v8,0;v13,0;t2,7,9,1,0;t0,7,9,1,0;t1,7,9,1,0;t2,7,9,1,0;");
        dueStay(y, 0, 1, 0, 3);
        dueStay(y, 0, 2, 0, 24);
        dueStay(y, 0, 3, 0, 1);
        dueStay(y, 1, 2, 0, 8);
        dueStay(y, 2, 0, 0, 24);
        dueStay(y, 3, 1, 0, 3);
    }

    private static void stayWhateverLevel() {
        Check.sentence("(whatever LEVEL)");
        HungInStorm x = Check.laid("v3,0;v3,0;v4,0;t0,5,9,1,0;t1,5,9,1,0;t1,6,9,1,0;t2,4,9,1,0;");
        dueStay(x, 0, 1, 0, 1);
        dueStay(x, 0, 2, NONE, NONE);
        dueStay(x, 0, 3, 1, 24);
        Check.due("though they never meet", x.meet(0, 1), NONE);
    }

    private static void stayForEver() {
        Check.sentence("if TOWNS i and j both stayed at their LEVELS of day 0 for ever, from their places of day 0, going on by PACE alone");
        // One is lost on day 1, the other goes down by errand and is struck: all of this is left aside.
        HungInStorm x = Check.laid("v0,0;v3,0;t0,12,0,1,0;t1,0,9,1,0;m1,1,0;z0,1;z1,1;");
        Check.due("lost(0)", x.lost(0), 1);
        dueStay(x, 0, 1, 4, 8);
        x.errand(1, 2, true);
        x.fill(1, 0);
        dueStay(x, 0, 1, 4, 8);
    }

    private static void stayUnlike() {
        Check.sentence("TOWNS i and j (unlike)");
        HungInStorm x = Check.laid("v0,0;" + "t0,12,0,1,0;".repeat(6));
        for (int i = 0; i < 6; i++) {
            for (int j = 0; j < 6; j++) {
                Check.due("stay(" + i + ", " + j + ", 0)", x.stay(i, j, 0), i == j ? BAD : 0);
                Check.due("stay(" + i + ", " + j + ", 1)", x.stay(i, j, 1), i == j ? BAD : 1);
            }
        }
    }

    private static void dueCatch(HungInStorm x, int i, int j, int day, int gas) {
        Check.due("catches(" + i + ", " + j + ", 0)", x.catches(i, j, 0), day);
        Check.due("catches(" + i + ", " + j + ", 1)", x.catches(i, j, 1), gas);
    }

    private static void catchDayOne() {
        Check.sentence("the least day (1 to 20) behind which it MEETS j");
        HungInStorm x = Check.laid("v5,1;v5,1;v5,1;t1,23,20,4,2;t0,23,9,1,2;t1,23,9,1,2;t2,23,9,1,2;");
        dueCatch(x, 0, 1, 1, 20);
        dueCatch(x, 0, 2, 1, 20);
        dueCatch(x, 0, 3, 1, 16);
    }

    /** The hunter is too heavy to go up: it drifts above to the place of the other one, and comes down the day behind. */
    private static void catchDayTwenty() {
        Check.sentence("the least day (1 to 20) [..]; none");
        for (int place = 0; place <= 23; place++) {
            HungInStorm x = Check.laid("v0,1;v1,1;t1," + place + ",8,9,2;t0,0,9,1,2;");
            int day = (24 - place) % 24 + 1;
            dueCatch(x, 0, 1, day <= 20 ? day : NONE, day <= 20 ? 8 : NONE);
        }
    }

    private static void catchErrandsLeftOut() {
        Check.sentence("CATCH: TOWN i, its ERRANDS left out");
        HungInStorm x = Check.laid("v0,1;v0,1;t0,3,20,4,2;t0,3,9,1,2;m0,1,1;m0,2,1;");
        Check.due("meet(0, 1)", x.meet(0, 1), NONE);
        dueCatch(x, 0, 1, 1, 20);
        for (int day = 3; day <= 8; day++) {
            x.errand(0, day, false);
        }
        dueCatch(x, 0, 1, 1, 20);
    }

    private static void catchAllElseAsTold() {
        Check.sentence("all else is as told");
        // The other one's errands: up on day 1 it takes 4 to follow it; down on day 2 it costs nothing to wait.
        HungInStorm x = Check.laid("v0,1;v0,1;t0,3,20,4,2;t0,3,9,1,2;t1,3,9,1,2;m1,1,1;m2,2,0;");
        dueCatch(x, 0, 1, 1, 16);
        dueCatch(x, 0, 2, 1, 16);
        x.fill(0, 4);
        dueCatch(x, 0, 1, NONE, NONE);
        dueCatch(x, 0, 2, 2, 4);
        x.undo();
        dueCatch(x, 0, 2, 1, 16);
    }

    private static void catchWhereItCanNot() {
        Check.sentence("go up or down or stay (as by ERRANDS: where it can not, it stays)");
        HungInStorm x = Check.laid("v0,1;v0,1;t0,3,20,4,2;t1,3,9,1,2;");
        for (int gas = 1; gas <= 12; gas++) {
            x.fill(0, gas);
            // With just 4 it comes up and sinks again on the same day, to be lost on the next.
            dueCatch(x, 0, 1, gas > 4 ? 1 : NONE, gas > 4 ? gas - 4 : NONE);
        }
        // None above the highest, none below the lowest: there it stays, and pays nothing.
        HungInStorm one = Check.laid("v0,1;t0,3,60,1,2;t0,3,9,1,2;t0,4,9,1,2;");
        dueCatch(one, 0, 1, 1, 60);
        dueCatch(one, 0, 2, NONE, NONE);
        HungInStorm six = Check.laid("v0,1;".repeat(6) + "t5,3,60,1,2;t5,3,60,1,2;t0,3,60,1,2;t0,3,60,1,2;");
        dueCatch(six, 0, 1, 1, 60);
        dueCatch(six, 2, 3, 1, 60);
    }

    private static void catchOneMoveADay() {
        Check.sentence("can on each day, in step 1, go up or down or stay");
        for (int l = 0; l <= 5; l++) {
            HungInStorm x = Check.laid("v0,1;".repeat(6) + "t0,3,60,9,2;t" + l + ",3,60,9,2;");
            int day = Math.max(l, 1);
            dueCatch(x, 0, 1, day, 60 - 9 * l);
            dueCatch(x, 1, 0, day, 60);
        }
    }

    private static void catchMostGas() {
        Check.sentence("the most GAS that it can have then");
        // Two ways to level 0 behind day 2: to stay through the lightning, or up out of it for 4 and down again.
        HungInStorm x = Check.laid("v0,1;v0,1;v0,1;t0,3,20,4,2;t2,3,9,1,2;m1,2,0;m1,2,0;z0,1;");
        int[] had = {60, 20, 10, 9, 8, 7, 6, 5, 4, 3, 2};
        int[] most = {56, 16, 6, 5, 4, 3, 3, 2, 2, 1, 1};
        for (int k = 0; k < had.length; k++) {
            x.fill(0, had[k]);
            dueCatch(x, 0, 1, 2, most[k]);
        }
        // The least day comes first, be the gas what it may.
        HungInStorm y = Check.laid("v0,1;v0,1;t0,3,20,9,2;t1,3,9,1,2;m1,2,0;");
        dueCatch(y, 0, 1, 1, 11);
    }

    private static void catchGasBounds() {
        Check.sentence("the most GAS that it can have then");
        HungInStorm x = Check.laid("v0,1;t0,3,60,1,2;t0,3,60,1,2;");
        for (int gas = 1; gas <= 60; gas++) {
            x.fill(0, gas);
            dueCatch(x, 0, 1, 1, gas);
        }
        x.fill(0, 0);
        dueCatch(x, 0, 1, NONE, NONE);
        HungInStorm none = Check.laid("v0,1;v0,1;t1,3,0,1,2;t0,3,60,1,2;");
        dueCatch(none, 0, 1, 1, 0);
    }

    private static void catchNoneLost() {
        Check.sentence("behind which it MEETS j [..] neither is LOST");
        // The hunter comes down on day 5; the other one, of that much gas, is lost on the day behind its last.
        HungInStorm x = Check.laid("v0,1;v1,1;t1,20,8,9,2;t0,0,9,1,0;");
        x.fill(1, 5);
        dueCatch(x, 0, 1, 5, 8);
        x.fill(1, 4);
        Check.due("lost(1)", x.lost(1), 5);
        dueCatch(x, 0, 1, NONE, NONE);
        HungInStorm anew = Check.laid("v0,1;v1,1;t1,20,8,9,2;t0,0,4,1,0;t0,20,60,1,2;");
        dueCatch(anew, 0, 1, NONE, NONE);
        dueCatch(anew, 0, 2, 1, 8);
        dueCatch(anew, 0, 1, NONE, NONE);
        // The hunter without gas sinks on day 1 to level 0, and is lost on day 2, when the other one comes.
        HungInStorm y = Check.laid("v0,1;v0,1;v0,1;t1,3,0,1,2;t2,3,9,1,2;t0,3,9,1,2;m1,2,0;m1,2,0;");
        dueCatch(y, 0, 2, 1, 0);
        dueCatch(y, 0, 1, NONE, NONE);
        y.fill(0, 1);
        dueCatch(y, 0, 1, 2, 1);
    }

    private static void catchNotOnDayNought() {
        Check.sentence("the least day (1 to 20)");
        HungInStorm x = Check.laid("v0,1;v0,1;v0,1;t0,3,20,9,2;t0,3,9,1,2;m1,1,1;m1,1,1;");
        dueCatch(x, 0, 1, 2, 2);
        x.fill(0, 8);
        dueCatch(x, 0, 1, NONE, NONE);
    }

    private static void catchThroughLightning() {
        Check.sentence("all else is as told: LIGHTNING");
        HungInStorm x = Check.laid("v0,1;t0,3,20,9,2;t0,3,9,1,2;z0,1;");
        int[] had = {60, 59, 3, 2, 1};
        int[] left = {30, 29, 1, 1, 0};
        for (int k = 0; k < had.length; k++) {
            x.fill(0, had[k]);
            dueCatch(x, 0, 1, 1, left[k]);
        }
        HungInStorm onDay20 = Check.laid("v0,1;v1,1;t1,5,8,9,2;t0,0,9,1,2;z0,20;");
        dueCatch(onDay20, 0, 1, 20, 4);
        HungInStorm onDay19 = Check.laid("v0,1;v1,1;t1,5,8,9,2;t0,0,9,1,2;z0,19;z1,20;z0,21;z1,19;z1,19;");
        dueCatch(onDay19, 0, 1, 20, 4);
        HungInStorm aside = Check.laid("v0,1;v1,1;t1,5,8,9,2;t0,0,9,1,2;z0,19;z1,20;z0,21;");
        dueCatch(aside, 0, 1, 20, 8);
    }

    private static void catchByKind() {
        Check.sentence("all else is as told: KIND");
        // Each hunter comes down from above on day 3, to a level that is wet in one storm and dry in the other.
        int[][] left = {{17, 14, 19, 19}, {17, 14, 20, 19}};
        for (int wet = 0; wet <= 1; wet++) {
            HungInStorm x = Check.laid("v0," + wet + ";v1,1;t1,22,20,9,0;t1,22,20,9,1;t1,22,20,9,2;t1,22,20,9,3;t0,0,60,1,2;");
            for (int kind = 0; kind <= 3; kind++) {
                dueCatch(x, kind, 4, 3, left[wet][kind]);
            }
        }
    }

    private static void catchGasNoughtAtLeast() {
        Check.sentence("all else is as told: 0 at least");
        // Each comes down on day 1 to a dry level, with 0, 1, 2 and 3 of gas; one that is light loses none on it.
        int[][] left = {{0, 0, 1, 2}, {0, 0, 0, 1}, {0, 0, 1, 2}, {0, 1, 2, 3}};
        HungInStorm x = Check.laid("v0,0;v0,1;t1,3,9,9,0;t1,3,9,9,1;t1,3,9,9,2;t1,3,9,9,3;t0,3,60,1,2;");
        for (int kind = 0; kind <= 3; kind++) {
            for (int gas = 0; gas <= 3; gas++) {
                x.fill(kind, gas);
                dueCatch(x, kind, 4, 1, left[kind][gas]);
            }
        }
        // Struck as well: 0, 0, 1, 1 are left, then what the kind loses.
        HungInStorm y = Check.laid("v0,0;v0,1;t1,3,9,9,0;t1,3,9,9,1;t1,3,9,9,2;t1,3,9,9,3;t0,3,60,1,2;z0,1;");
        for (int kind = 0; kind <= 3; kind++) {
            for (int gas = 0; gas <= 5; gas++) {
                y.fill(kind, gas);
                int loss = kind == 3 ? 0 : kind == 1 ? 2 : 1;
                dueCatch(y, kind, 4, 1, Math.max(gas / 2 - loss, 0));
            }
        }
    }

    private static void catchTooPoorForTheStruckLevel() {
        Check.sentence("where it can not, it stays");
        HungInStorm x = Check.laid("v0,1;v0,1;t0,3,9,9,2;t1,3,9,1,2;z1,1;");
        for (int gas = 1; gas <= 9; gas++) {
            x.fill(0, gas);
            dueCatch(x, 0, 1, NONE, NONE);
        }
        x.fill(0, 10);
        dueCatch(x, 0, 1, 1, 0);
    }

    private static void catchRoundTheEye() {
        Check.sentence("There are 24 places round the eye: the place that comes after 23");
        HungInStorm x = Check.laid("v0,1;v23,1;v1,1;t1,1,8,9,2;t0,0,9,1,2;t2,22,8,9,2;");
        dueCatch(x, 0, 1, 2, 8);
        // Three days by 1 from 22 to 1, a day by 23 to 0, then down.
        dueCatch(x, 2, 1, 5, 8);
    }

    private static void dueKeeps(HungInStorm x, int i, int n, int level, int much) {
        Check.due("keeps(" + i + ", " + n + ", 0)", x.keeps(i, n, 0), level);
        Check.due("keeps(" + i + ", " + n + ", 1)", x.keeps(i, n, 1), much);
    }

    private static void keepsBehindNoDay() {
        Check.sentence("to have most GAS behind n days (0 to 60), of several the lowest");
        HungInStorm x = Check.laid("v0,0;".repeat(6) + "t5,0,0,1,0;m0,1,1;z0,1;");
        for (int gas = 0; gas <= 60; gas++) {
            x.fill(0, gas);
            dueKeeps(x, 0, 0, 0, gas);
        }
    }

    private static void keepsLowest() {
        Check.sentence("of several the lowest");
        for (int best = 0; best <= 5; best++) {
            // Dry up to that level, wet from there on: one that is patched keeps all from there on.
            HungInStorm x = Check.laid("v0,0;".repeat(best) + "v0,1;".repeat(6 - best) + "t0,0,9,1,2;");
            dueKeeps(x, 0, 1, best, 9);
            dueKeeps(x, 0, 60, best, 9);
        }
        HungInStorm dry = Check.laid("v0,0;".repeat(6) + "t5,0,9,1,2;");
        dueKeeps(dry, 0, 1, 0, 8);
    }

    private static void keepsHighest() {
        Check.sentence("the LEVEL at which TOWN i would have to be at first");
        for (int levels = 1; levels <= 6; levels++) {
            HungInStorm x = Check.laid("v0,0;".repeat(levels - 1) + "v0,1;t0,0,9,1,2;");
            dueKeeps(x, 0, 1, levels - 1, 9);
        }
        // Where it is has nothing to do with it.
        for (int l = 0; l <= 5; l++) {
            HungInStorm x = Check.laid("v0,0;v0,0;v0,1;v0,0;v0,0;v0,0;t" + l + ",0,9,1,2;");
            dueKeeps(x, 0, 1, 2, 9);
        }
    }

    private static void keepsLost() {
        Check.sentence("as much (LOST: 0)");
        HungInStorm x = Check.laid("v0,0;".repeat(6) + "t5,0,0,1,0;t5,0,9,1,0;");
        dueKeeps(x, 0, 1, 0, 0);
        dueKeeps(x, 0, 60, 0, 0);
        dueKeeps(x, 1, 8, 0, 1);
        dueKeeps(x, 1, 9, 0, 0);
        dueKeeps(x, 1, 60, 0, 0);
        // Lost from the lowest on day 1: not the lowest is best, if it is not lost from above with gas left.
        HungInStorm wet = Check.laid("v0,0;v0,1;t0,0,1,1,2;");
        dueKeeps(wet, 0, 60, 1, 1);
    }

    private static void keepsDays() {
        Check.sentence("behind n days (0 to 60)");
        HungInStorm x = Check.laid("v0,0;v0,1;t0,0,60,1,2;t0,0,60,1,0;t0,0,60,1,3;z1,60;z0,60;");
        dueKeeps(x, 0, 59, 1, 60);
        dueKeeps(x, 0, 60, 1, 30);
        dueKeeps(x, 1, 59, 0, 1);
        dueKeeps(x, 1, 60, 0, 0);
        dueKeeps(x, 2, 59, 0, 31);
        dueKeeps(x, 2, 60, 0, 14);
    }

    private static void keepsWithErrands() {
        Check.sentence("KEEPS: the LEVEL at which TOWN i would have to be at first to have most GAS");
        // Its errand up on day 1 costs 4, but not at the highest level.
        HungInStorm x = Check.laid("v0,1;v0,1;t0,0,20,4,2;m0,1,1;");
        dueKeeps(x, 0, 0, 0, 20);
        dueKeeps(x, 0, 1, 1, 20);
        x.undo();
        x.fill(0, 3);
        dueKeeps(x, 0, 1, 0, 3);
        x.fill(0, 4);
        dueKeeps(x, 0, 1, 1, 4);
    }

    private static void dueTrades(HungInStorm x, int i, int n, int level, int many) {
        Check.due("trades(" + i + ", " + n + ", 0)", x.trades(i, n, 0), level);
        Check.due("trades(" + i + ", " + n + ", 1)", x.trades(i, n, 1), many);
    }

    private static void tradesDays() {
        Check.sentence("days from 1 to n behind which it MEETS another one");
        HungInStorm x = Check.laid("v0,1;v0,1;t0,3,9,1,2;t0,3,9,1,2;m1,60,1;");
        for (int n = 1; n <= 59; n++) {
            dueTrades(x, 0, n, 0, n);
        }
        dueTrades(x, 0, 60, 0, 59);
        HungInStorm late = Check.laid("v0,1;v0,1;t0,3,9,1,2;t0,4,9,1,2;t0,3,9,1,2;m2,60,1;m2,1,1;m2,60,0;");
        // The third one goes up on day 1 and again, for nothing, then down on day 60.
        dueTrades(late, 0, 59, 1, 59);
        dueTrades(late, 0, 60, 1, 59);
    }

    private static void tradesLowest() {
        Check.sentence("TRADES: likewise [of several the lowest]");
        HungInStorm x = Check.laid("v0,1;".repeat(6) + "t5,3,9,1,2;t1,3,9,1,2;t3,3,9,1,2;t4,3,9,1,2;");
        dueTrades(x, 0, 1, 1, 1);
        dueTrades(x, 0, 60, 1, 60);
        HungInStorm none = Check.laid("v0,1;".repeat(6) + "t5,3,9,1,2;t5,4,9,1,2;");
        dueTrades(none, 0, 60, 0, 0);
    }

    private static void tradesHighest() {
        Check.sentence("to have most MARKETS of its own (each other one counted); as many");
        for (int l = 0; l <= 5; l++) {
            HungInStorm x = Check.laid("v7,1;".repeat(6) + "t0,3,9,1,2;" + ("t" + l + ",3,9,1,2;").repeat(5));
            dueTrades(x, 0, 1, l, 5);
            dueTrades(x, 0, 60, l, 300);
        }
        // With fewer towns than levels, the highest level; with more towns, no level above it.
        HungInStorm few = Check.laid("v7,1;".repeat(6) + "t0,3,9,1,2;t5,3,9,1,2;");
        dueTrades(few, 0, 60, 5, 60);
        dueKeeps(few, 0, 60, 0, 9);
        HungInStorm many = Check.laid("v7,1;t0,3,9,1,2;" + "t0,3,9,1,2;".repeat(5));
        dueTrades(many, 5, 60, 0, 300);
        HungInStorm y = Check.laid("v7,1;v7,1;v7,1;t0,3,9,1,2;t0,3,9,1,2;t1,3,9,1,2;t1,3,9,1,2;t2,3,9,1,2;t2,3,9,1,2;");
        dueTrades(y, 0, 1, 1, 2);
        dueTrades(y, 5, 1, 0, 2);
    }

    private static void tradesOfItsOwn() {
        Check.sentence("MARKETS of its own (.. behind which it MEETS another one)");
        // Those of the others among themselves are none of its own, nor does it meet itself.
        HungInStorm x = Check.laid("v0,1;v0,1;t0,3,9,1,2;" + "t1,4,9,1,2;".repeat(5));
        dueTrades(x, 0, 60, 0, 0);
        dueTrades(x, 1, 60, 1, 240);
    }

    private static void tradesNone() {
        Check.sentence("as many");
        HungInStorm one = Check.laid("v0,1;".repeat(6) + "t5,3,9,1,2;");
        dueTrades(one, 0, 60, 0, 0);
        HungInStorm lost = Check.laid("v0,1;v0,1;t0,3,0,1,2;t0,3,9,1,2;");
        // Without gas: from level 1 it comes down on day 1, and is lost on day 2; from level 0 it is lost on day 1.
        dueTrades(lost, 0, 60, 1, 1);
        dueTrades(lost, 1, 60, 0, 0);
    }

    private static void tradesWithErrands() {
        Check.sentence("TRADES: likewise: all else is as told");
        HungInStorm x = Check.laid("v0,1;v0,1;v0,1;t0,3,20,1,2;t1,3,9,1,2;m0,5,1;");
        // From level 0: not on days 1 to 4, then all others; from level 1: on days 1 to 4 alone.
        dueTrades(x, 0, 4, 1, 4);
        dueTrades(x, 0, 8, 0, 4);
        dueTrades(x, 0, 60, 0, 56);
        x.errand(0, 1, true);
        dueTrades(x, 0, 4, 0, 4);
        dueTrades(x, 0, 5, 0, 4);
    }
}
