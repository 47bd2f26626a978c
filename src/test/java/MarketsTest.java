/** Promises 9 to 14: where towns meet, how many markets, who stays, who catches, and what is best. */
public final class MarketsTest {

    private static final int BAD = HungInStorm.BAD, NONE = HungInStorm.NONE;

    public static void main(String[] args) {
        meet();
        meetNot();
        markets();
        stay();
        stayNone();
        catches();
        catchesOnce();
        catchesLeavesErrandsOut();
        catchesLate();
        keeps();
        trades();
        Check.end();
    }

    private static void meet() {
        HungInStorm x = Check.laid("v1,0;v3,0;t0,0,60,1,0;t1,0,60,1,0;t0,4,60,1,0;t0,0,60,1,0;m1,5,0;m2,60,1;m3,60,1;");
        // Both at place 0 on day 0, which does not count; one goes down on day 5 from 12 to 13, the other is at 5.
        Check.due("meet(0, 1)", x.meet(0, 1), NONE);
        Check.due("meet(0, 3)", x.meet(0, 3), 1);
        Check.due("meet(3, 0)", x.meet(3, 0), 1);
        Check.due("meet(0, 0)", x.meet(0, 0), BAD);
        Check.due("meet(0, 4)", x.meet(0, 4), BAD);
        Check.due("meet(4, 0)", x.meet(4, 0), BAD);
        Check.due("meet(-1, 0)", x.meet(-1, 0), BAD);
        Check.due("meet(0, -1)", x.meet(0, -1), BAD);
        HungInStorm y = Check.laid("v1,0;v3,0;t0,0,60,1,2;t1,6,60,1,2;m1,10,0;");
        // On day 9 one is at 9, the other at 33 - 24 = 9, on another level; it comes down on day 10.
        Check.due("meet(0, 1)", y.meet(0, 1), 10);
        HungInStorm last = Check.laid("v0,1;v0,1;t0,0,60,1,2;t1,0,60,1,2;m1,60,0;");
        Check.due("meet on day 60", last.meet(0, 1), 60);
        Check.due("markets(59)", last.markets(59), 0);
        Check.due("markets(60)", last.markets(60), 1);
    }

    private static void meetNot() {
        // Lost towns stand at no place together; here both are lost on day 1.
        HungInStorm x = Check.laid("v1,0;t0,0,0,1,0;t0,0,0,1,0;t0,0,1,1,0;");
        Check.due("meet(0, 1)", x.meet(0, 1), NONE);
        Check.due("markets(60)", x.markets(60), 0);
        Check.due("meet(0, 2)", x.meet(0, 2), NONE);
        // Always at one place, never at one level.
        HungInStorm y = Check.laid("v4,1;v4,1;t0,5,9,1,2;t1,5,9,1,2;");
        Check.due("meet(0, 1)", y.meet(0, 1), NONE);
        Check.due("markets(60)", y.markets(60), 0);
    }

    private static void markets() {
        HungInStorm x = Check.laid("v1,1;t0,0,9,1,2;t0,0,9,1,2;t0,0,9,1,2;t0,0,4,1,0;");
        // Three that stay together, a fourth that is lost on day 5.
        Check.due("markets(1)", x.markets(1), 6);
        Check.due("markets(4)", x.markets(4), 24);
        Check.due("markets(5)", x.markets(5), 27);
        Check.due("markets(60)", x.markets(60), 24 + 3 * 56);
        Check.due("markets(0)", x.markets(0), BAD);
        Check.due("markets(61)", x.markets(61), BAD);
        Check.due("markets(-1)", x.markets(-1), BAD);
        Check.due("markets(most)", x.markets(Integer.MAX_VALUE), BAD);
        Check.due("markets(1) again", x.markets(1), 6);
        HungInStorm six = Check.laid("v0,1;" + "t0,7,9,1,2;".repeat(6));
        Check.due("six together", six.markets(60), 15 * 60);
        HungInStorm one = Check.laid("v0,1;t0,7,9,1,2;");
        Check.due("one alone", one.markets(60), 0);
    }

    private static void stay() {
        HungInStorm x = Check.laid("v2,0;v5,1;v23,0;t0,0,20,2,0;t1,6,20,3,0;t0,0,0,1,0;t2,1,9,1,0;t2,0,9,1,0;t1,1,9,1,0;m0,1,1;");
        Check.due("stay(0, 1, 0)", x.stay(0, 1, 0), 6);
        Check.due("stay(0, 1, 1)", x.stay(0, 1, 1), 8);
        Check.due("stay(1, 0, 0)", x.stay(1, 0, 0), 6);
        Check.due("stay(1, 0, 1)", x.stay(1, 0, 1), 8);
        // At one place and one pace: from day 0 on, each day, though one is without gas.
        Check.due("stay(0, 2, 0)", x.stay(0, 2, 0), 0);
        Check.due("stay(0, 2, 1)", x.stay(0, 2, 1), 1);
        // 23 and 5 a day, 18 apart a day: 4 days again and again; 3 and 1 are not come to.
        Check.due("stay(3, 5, 0)", x.stay(3, 5, 0), 0);
        Check.due("stay(3, 5, 1)", x.stay(3, 5, 1), 4);
        Check.due("stay(4, 5, 0)", x.stay(4, 5, 0), NONE);
        // 2 and 23: 3 nearer a day, from 1 ahead.
        Check.due("stay(0, 3, 0)", x.stay(0, 3, 0), NONE);
        Check.due("stay(0, 4, 0)", x.stay(0, 4, 0), 0);
        Check.due("stay(0, 4, 1)", x.stay(0, 4, 1), 8);
        HungInStorm slow = Check.laid("v0,0;v1,0;t0,0,1,1,0;t1,1,1,1,0;t1,0,1,1,0;");
        Check.due("the last day that can be", slow.stay(0, 1, 0), 23);
        Check.due("all days round", slow.stay(0, 1, 1), 24);
        Check.due("from day 0", slow.stay(0, 2, 0), 0);
        Check.due("all days round", slow.stay(0, 2, 1), 24);
    }

    private static void stayNone() {
        HungInStorm x = Check.laid("v3,0;v3,1;t0,0,20,2,0;t1,6,20,3,0;t1,0,20,3,0;");
        Check.due("stay(0, 1, 0)", x.stay(0, 1, 0), NONE);
        Check.due("stay(0, 1, 1)", x.stay(0, 1, 1), NONE);
        Check.due("stay(0, 2, 0)", x.stay(0, 2, 0), 0);
        Check.due("stay(0, 2, 1)", x.stay(0, 2, 1), 1);
        Check.due("stay(0, 1, 2)", x.stay(0, 1, 2), BAD);
        Check.due("stay(0, 1, -1)", x.stay(0, 1, -1), BAD);
        Check.due("stay(0, 0, 0)", x.stay(0, 0, 0), BAD);
        Check.due("stay(0, 3, 0)", x.stay(0, 3, 0), BAD);
        Check.due("stay(3, 0, 0)", x.stay(3, 0, 0), BAD);
        Check.due("stay(-1, 0, 0)", x.stay(-1, 0, 0), BAD);
        Check.due("stay(0, -1, 0)", x.stay(0, -1, 0), BAD);
    }

    private static void dueCatch(HungInStorm x, int i, int j, int day, int gas) {
        Check.due("catches(" + i + ", " + j + ", 0)", x.catches(i, j, 0), day);
        Check.due("catches(" + i + ", " + j + ", 1)", x.catches(i, j, 1), gas);
    }

    private static void catches() {
        HungInStorm x = new HungInStorm();
        dueCatch(x, 0, 1, 7, 11);
        dueCatch(x, 1, 0, 7, 13);
        Check.due("catches(0, 1, 2)", x.catches(0, 1, 2), BAD);
        Check.due("catches(0, 1, -1)", x.catches(0, 1, -1), BAD);
        Check.due("catches(0, 0, 0)", x.catches(0, 0, 0), BAD);
        Check.due("catches(0, 2, 0)", x.catches(0, 2, 0), BAD);
        Check.due("catches(2, 0, 0)", x.catches(2, 0, 0), BAD);
        Check.due("catches(-1, 0, 0)", x.catches(-1, 0, 0), BAD);
        Check.due("catches(0, -1, 0)", x.catches(0, -1, 0), BAD);
    }

    private static void catchesOnce() {
        // Ahead by one place: up and down again costs 4, and comes to it on day 2.
        HungInStorm x = Check.laid("v1,1;v2,1;t0,0,20,4,2;t0,1,20,4,2;t0,0,20,4,2;t0,0,4,4,2;t0,0,3,4,2;");
        dueCatch(x, 0, 1, 2, 16);
        dueCatch(x, 0, 2, 1, 20);
        // With 4 of gas it pays all and sinks back at once; with 3 it can not go up at all.
        dueCatch(x, 3, 1, NONE, NONE);
        dueCatch(x, 4, 1, NONE, NONE);
        dueCatch(x, 4, 2, 1, 3);
        // Of two ways to be there on day 2 the one is taken that leaves more: staying is free.
        HungInStorm y = Check.laid("v1,1;v1,1;t0,0,20,4,2;t0,0,20,4,2;m1,1,1;m1,2,0;");
        dueCatch(y, 0, 1, 1, 16);
        HungInStorm z = Check.laid("v1,1;v1,1;v3,1;t0,0,20,4,2;t2,0,20,4,2;m1,1,0;m1,1,0;");
        dueCatch(z, 0, 1, 1, 20);
        // Two levels up takes two days.
        HungInStorm up = Check.laid("v1,1;v1,1;v1,1;t0,0,20,4,2;t2,0,20,4,2;");
        dueCatch(up, 0, 1, 2, 12);
        dueCatch(up, 1, 0, 2, 20);
        // Lightning at the level where they meet, and daily loss: 20, then 10, then 9.
        HungInStorm struck = Check.laid("v1,0;t0,0,20,4,0;t0,0,20,4,0;t0,0,7,4,1;t0,0,6,4,3;z0,1;z0,1;");
        dueCatch(struck, 0, 1, 1, 9);
        dueCatch(struck, 2, 1, 1, 1);
        dueCatch(struck, 3, 1, 1, 3);
        HungInStorm most = Check.laid("v1,1;t0,0,60,4,2;t0,0,60,4,2;");
        dueCatch(most, 0, 1, 1, 60);
        HungInStorm half = Check.laid("v1,1;t0,0,60,4,2;t0,0,60,4,2;t0,0,1,4,1;z0,1;");
        dueCatch(half, 0, 1, 1, 30);
        dueCatch(half, 2, 1, 1, 0);
        HungInStorm torn = Check.laid("v1,1;t0,0,1,4,1;t0,0,2,4,1;t0,0,3,4,1;t0,0,60,4,2;");
        dueCatch(torn, 0, 3, 1, 0);
        dueCatch(torn, 1, 3, 1, 0);
        dueCatch(torn, 2, 3, 1, 1);
        // Too poor to go up into the lightning where the other one is.
        HungInStorm poor = Check.laid("v1,1;v1,1;t0,0,3,4,2;t1,0,9,1,2;z1,1;");
        dueCatch(poor, 0, 1, NONE, NONE);
        // One without gas comes down into it and has still none.
        HungInStorm empty = Check.laid("v1,1;v1,1;t1,0,0,4,2;t0,0,9,1,2;z0,1;");
        dueCatch(empty, 0, 1, 1, 0);
        // Above the highest level there is none, nor below the lowest.
        HungInStorm one = Check.laid("v1,1;t0,0,60,1,2;t0,23,60,1,2;");
        dueCatch(one, 0, 1, NONE, NONE);
        HungInStorm six = Check.laid("v1,1;v1,1;v1,1;v1,1;v1,1;v1,1;t5,0,60,1,2;t5,23,60,1,2;t0,0,60,9,2;");
        dueCatch(six, 0, 1, NONE, NONE);
        dueCatch(six, 0, 2, 5, 60);
        dueCatch(six, 2, 0, 5, 15);
        // One that is without gas sinks, by which it is where the other one is.
        HungInStorm sinks = Check.laid("v1,0;v1,0;t1,0,0,4,0;t0,0,20,4,0;t1,0,1,1,0;t0,0,0,1,0;");
        dueCatch(sinks, 0, 1, 1, 0);
        dueCatch(sinks, 2, 1, 1, 0);
        dueCatch(sinks, 3, 1, NONE, NONE);
        // One that is lost is met no more.
        dueCatch(sinks, 1, 3, NONE, NONE);
    }

    private static void catchesLeavesErrandsOut() {
        HungInStorm x = Check.laid("v1,1;v2,1;t0,0,20,4,2;t0,0,20,4,2;m0,1,1;");
        dueCatch(x, 0, 1, 1, 20);
        // Here the errand is the other one's, and stands: it can be followed up.
        dueCatch(x, 1, 0, 1, 16);
    }

    private static void catchesLate() {
        // It drifts to place 0, where the other one stands, and comes down the day behind: on day 20, or only on 21.
        HungInStorm far = Check.laid("v0,1;v1,1;t1,5,8,9,2;t0,0,9,1,2;");
        dueCatch(far, 0, 1, 20, 8);
        HungInStorm tooFar = Check.laid("v0,1;v1,1;t1,4,8,9,2;t0,0,8,9,2;");
        dueCatch(tooFar, 0, 1, NONE, NONE);
    }

    private static void dueBest(String call, int level, int much, int wantLevel, int wantMuch) {
        Check.due(call + " level", level, wantLevel);
        Check.due(call + " much", much, wantMuch);
    }

    private static void keeps() {
        HungInStorm x = Check.laid("v0,0;v0,1;v0,1;v0,0;t0,0,20,2,2;t3,0,5,1,0;z1,3;m0,5,1;");
        // At level 1 it goes up out of the lightning too late; from level 2 it goes up to the dry level on day 5.
        dueBest("keeps(0, 0)", x.keeps(0, 0, 0), x.keeps(0, 0, 1), 0, 20);
        dueBest("keeps(0, 2)", x.keeps(0, 2, 0), x.keeps(0, 2, 1), 1, 20);
        dueBest("keeps(0, 3)", x.keeps(0, 3, 0), x.keeps(0, 3, 1), 2, 20);
        // 0: 20-4-2 = 14 at level 1, from then on kept; 1: 10-2 = 8; 2: 20-2-1 and less each day; 3: none is higher.
        dueBest("keeps(0, 5)", x.keeps(0, 5, 0), x.keeps(0, 5, 1), 2, 17);
        dueBest("keeps(0, 8)", x.keeps(0, 8, 0), x.keeps(0, 8, 1), 0, 14);
        dueBest("keeps(0, 60)", x.keeps(0, 60, 0), x.keeps(0, 60, 1), 0, 14);
        dueBest("keeps(1, 4)", x.keeps(1, 4, 0), x.keeps(1, 4, 1), 0, 1);
        dueBest("keeps(1, 60), lost", x.keeps(1, 60, 0), x.keeps(1, 60, 1), 0, 0);
        Check.dueTown(x, 0, 0, 0, 0, 20);
        // Lightning at all levels there are; six of them alike.
        HungInStorm one = Check.laid("v0,0;t0,0,9,1,0;z0,1;");
        dueBest("keeps(0, 1), one level", one.keeps(0, 1, 0), one.keeps(0, 1, 1), 0, 3);
        HungInStorm six = Check.laid("v0,0;".repeat(6) + "t5,0,9,1,0;z0,1;z1,1;z2,1;z3,1;z4,1;");
        dueBest("keeps(0, 1), six levels", six.keeps(0, 1, 0), six.keeps(0, 1, 1), 5, 8);
        Check.due("keeps(2, 0, 0)", x.keeps(2, 0, 0), BAD);
        Check.due("keeps(-1, 0, 0)", x.keeps(-1, 0, 0), BAD);
        Check.due("keeps(0, 61, 0)", x.keeps(0, 61, 0), BAD);
        Check.due("keeps(0, -1, 0)", x.keeps(0, -1, 0), BAD);
        Check.due("keeps(0, 0, 2)", x.keeps(0, 0, 2), BAD);
        Check.due("keeps(0, 0, -1)", x.keeps(0, 0, -1), BAD);
    }

    private static void trades() {
        HungInStorm x = Check.laid("v0,1;v1,1;v0,1;t0,0,9,1,2;t1,0,9,1,2;t2,0,9,1,2;t2,0,3,1,0;t2,0,3,1,0;m2,10,0;");
        // From level 0: none; 1: the one there, each day, and at 10 the other that comes down is elsewhere (10 and 0).
        dueBest("trades(0, 1)", x.trades(0, 1, 0), x.trades(0, 1, 1), 2, 3);
        dueBest("trades(0, 3)", x.trades(0, 3, 0), x.trades(0, 3, 1), 2, 9);
        // The two plain ones go down on day 4, to be lost; the one at level 2 is left till day 9.
        dueBest("trades(0, 9)", x.trades(0, 9, 0), x.trades(0, 9, 1), 2, 15);
        dueBest("trades(0, 60)", x.trades(0, 60, 0), x.trades(0, 60, 1), 1, 60);
        Check.dueTown(x, 0, 0, 0, 0, 9);
        HungInStorm one = Check.laid("v0,1;v1,1;t1,0,9,1,2;");
        dueBest("one alone", one.trades(0, 60, 0), one.trades(0, 60, 1), 0, 0);
        // It could come down to the other one only from a level that there is not.
        HungInStorm above = Check.laid("v0,1;v1,1;t0,0,9,1,2;t1,20,9,1,2;m0,5,0;");
        dueBest("two levels", above.trades(0, 60, 0), above.trades(0, 60, 1), 0, 0);
        HungInStorm six = Check.laid("v0,1;".repeat(6) + "t5,0,9,1,2;t5,0,9,1,2;m1,3,0;");
        dueBest("six levels", six.trades(0, 60, 0), six.trades(0, 60, 1), 4, 58);
        Check.due("trades(1, 1, 0)", one.trades(1, 1, 0), BAD);
        Check.due("trades(-1, 1, 0)", one.trades(-1, 1, 0), BAD);
        Check.due("trades(0, 0, 0)", one.trades(0, 0, 0), BAD);
        Check.due("trades(0, 61, 0)", one.trades(0, 61, 0), BAD);
        Check.due("trades(0, 1, 2)", one.trades(0, 1, 2), BAD);
        Check.due("trades(0, 1, -1)", one.trades(0, 1, -1), BAD);
    }
}
