/** DROPPED, SEEN and GUSTS (promises 15 to 18): each sentence that names a boundary, at that boundary. */
public final class ThingEdgesTest {

    /** Behind so many calls a new object is taken: one is good for 512. */
    private static final int CALLS = 400;

    public static void main(String[] args) {
        droppedNoDay();
        droppedToTheGround();
        droppedStays();
        droppedRoundTheEye();
        droppedOfNoTown();
        seenBits();
        seenDays();
        seenAllPaces();
        seenRoundTheEye();
        seenNoneAndAll();
        seenTwiceBoth();
        seenTwiceDays();
        gustsNoDay();
        gustsOfNoChance();
        gustsOfAllChance();
        gustsWhereThereIsNoLevel();
        gustsInLowestTerms();
        gustsAll();
        Check.end();
    }

    private static HungInStorm six() {
        return Check.laid("v1,0;v2,1;v4,0;v8,1;v16,0;v23,1;t0,0,0,1,0;");
    }

    private static void dueDropped(HungInStorm x, int l, int from, int n, int level, int place) {
        String call = "dropped(" + l + ", " + from + ", " + n;
        Check.due(call + ", 0)", x.dropped(l, from, n, 0), level);
        Check.due(call + ", 1)", x.dropped(l, from, n, 1), place);
    }

    private static void droppedNoDay() {
        Check.sentence("its LEVEL, its place behind n days (0 to 60)");
        HungInStorm x = six();
        for (int l = 0; l <= 5; l++) {
            for (int place = 0; place <= 23; place++) {
                dueDropped(x, l, place, 0, l, place);
            }
        }
    }

    private static void droppedToTheGround() {
        Check.sentence("then one LEVEL down, from LEVEL 0 to the ground (9 the ground)");
        HungInStorm x = six();
        for (int l = 0; l <= 5; l++) {
            for (int n = 0; n <= 7; n++) {
                Check.due("dropped(" + l + ", 0, " + n + ", 0)", x.dropped(l, 0, n, 0), n <= l ? l - n : 9);
            }
        }
        HungInStorm one = Check.laid("v5,0;t0,0,0,1,0;");
        dueDropped(one, 0, 3, 0, 0, 3);
        dueDropped(one, 0, 3, 1, 9, 8);
        dueDropped(one, 0, 3, 60, 9, 8);
    }

    private static void droppedStays() {
        Check.sentence("to the ground, where it stays");
        HungInStorm x = six();
        for (int n = 6; n <= 60; n++) {
            // 23, 16, 8, 4, 2 and 1 from 20: 74, three times round and 2.
            dueDropped(x, 5, 20, n, 9, 2);
        }
        for (int n = 1; n <= 60; n++) {
            dueDropped(x, 0, 20, n, 9, 21);
        }
    }

    private static void droppedRoundTheEye() {
        Check.sentence("There are 24 places round the eye: the place that comes after 23");
        HungInStorm x = six();
        dueDropped(x, 0, 22, 1, 9, 23);
        dueDropped(x, 0, 23, 1, 9, 0);
        dueDropped(x, 5, 0, 1, 4, 23);
        dueDropped(x, 5, 1, 1, 4, 0);
        dueDropped(x, 5, 23, 1, 4, 22);
        dueDropped(x, 5, 1, 2, 3, 16);
        dueDropped(x, 5, 1, 3, 2, 0);
    }

    private static void droppedOfNoTown() {
        Check.sentence("A thing is DROPPED at LEVEL l, place x: each day it goes on by the PACE of its LEVEL");
        // Wet or dry, struck or not, and whatever errands are told: a thing has neither gas nor errands.
        HungInStorm x = Check.laid("v3,1;v5,0;t1,7,9,1,0;m0,1,1;m0,2,1;z0,1;z1,1;z0,2;");
        dueDropped(x, 1, 7, 1, 0, 12);
        dueDropped(x, 1, 7, 2, 9, 15);
    }

    private static void seenBits() {
        Check.sentence("the LEVELS (bits) at which it can be");
        HungInStorm x = Check.laid("v0,0;v1,0;v2,0;v3,0;v4,0;v5,0;t0,0,0,1,0;");
        for (int l = 0; l <= 5; l++) {
            Check.due("seen(3, " + (3 + l) + ", 1)", x.seen(3, 3 + l, 1), 1L << l);
        }
        Check.due("seen(3, 9, 1)", x.seen(3, 9, 1), 0);
        Check.due("seen(3, 2, 1)", x.seen(3, 2, 1), 0);
    }

    private static void seenDays() {
        Check.sentence("n days (1 to 99) later at y");
        HungInStorm x = Check.laid("v1,0;v0,0;v23,0;t0,0,0,1,0;");
        for (int n = 1; n <= 99; n++) {
            int on = n % 24;
            int want = 1 + (on == 0 ? 2 : 0) + (on == 0 || on == 12 ? 4 : 0);
            Check.due("seen(0, " + on + ", " + n + ")", x.seen(0, on, n), want);
        }
    }

    /** Each pace, looked for day by day, from place 23 on. */
    private static void seenAllPaces() {
        Check.sentence("a thing that stayed at a LEVEL was at place x, n days later at y");
        for (int pace = 0; pace <= 23; pace++) {
            HungInStorm x = Check.laid("v" + pace + ",0;t0,0,0,1,0;");
            int at = 23;
            for (int n = 1; n <= 99; n++) {
                at = at + pace >= 24 ? at + pace - 24 : at + pace;
                Check.due("seen(23, " + at + ", " + n + ") by " + pace, x.seen(23, at, n), 1);
                Check.due("seen(23, one on, " + n + ") by " + pace, x.seen(23, (at + 1) % 24, n), 0);
            }
        }
    }

    private static void seenRoundTheEye() {
        Check.sentence("There are 24 places round the eye: the place that comes after 23");
        HungInStorm x = six();
        Check.due("seen(23, 0, 1)", x.seen(23, 0, 1), 1);
        Check.due("seen(22, 0, 1)", x.seen(22, 0, 1), 2);
        Check.due("seen(0, 23, 1)", x.seen(0, 23, 1), 32);
        Check.due("seen(23, 22, 1)", x.seen(23, 22, 1), 32);
        Check.due("seen(23, 23, 24)", x.seen(23, 23, 24), 63);
        Check.due("seen(23, 22, 23)", x.seen(23, 22, 23), 1);
    }

    private static void seenNoneAndAll() {
        Check.sentence("SEEN: the LEVELS, as bits");
        HungInStorm alike = Check.laid("v7,0;".repeat(6) + "t0,0,0,1,0;");
        Check.due("all of six", alike.seen(20, 3, 1), 63);
        Check.due("none of six", alike.seen(20, 4, 1), 0);
        for (int levels = 1; levels <= 6; levels++) {
            HungInStorm x = Check.laid("v7,0;".repeat(levels) + "t0,0,0,1,0;");
            Check.due("all of " + levels, x.seen(20, 3, 1), (1 << levels) - 1);
        }
    }

    private static void seenTwiceBoth() {
        Check.sentence("A thing that was seen so twice: those that fit both");
        // 0, 6, 12, 18 a day: in four days all come round, in two days 0 and 12, in one day each for itself.
        HungInStorm x = Check.laid("v0,0;v6,0;v12,0;v18,0;t0,0,0,1,0;");
        Check.due("both all", x.seenTwice(5, 5, 4, 5, 4), 15);
        Check.due("first all, then two", x.seenTwice(5, 5, 4, 5, 2), 5);
        Check.due("first two, then all", x.seenTwice(5, 5, 2, 5, 4), 5);
        Check.due("first two, then the other two", x.seenTwice(5, 5, 2, 17, 2), 0);
        Check.due("first two, then one of them", x.seenTwice(5, 5, 2, 17, 1), 4);
        Check.due("first two, then one of the others", x.seenTwice(5, 5, 2, 11, 1), 0);
        Check.due("first none", x.seenTwice(5, 6, 4, 6, 4), 0);
        Check.due("second none", x.seenTwice(5, 5, 4, 6, 4), 0);
        // The second time is counted from y, and from the first time on.
        Check.due("from 5 by 17 to 5", x.seenTwice(5, 17, 1, 5, 1), 4);
        Check.due("from 23 by 5 to 11", x.seenTwice(23, 5, 1, 11, 1), 2);
        Check.due("from 23 by 17 to 11", x.seenTwice(23, 17, 1, 11, 1), 8);
    }

    private static void seenTwiceDays() {
        Check.sentence("(from x, n days later at y; n2 days behind that at y2)");
        HungInStorm x = Check.laid("v1,0;v0,0;t0,0,0,1,0;");
        for (int n = 1; n <= 99; n++) {
            int on = n % 24;
            int still = on == 0 ? 3 : 1;
            Check.due("seenTwice(0, " + on + ", " + n + ", .., 1)", x.seenTwice(0, on, n, (on + 1) % 24, 1), 1);
            Check.due("seenTwice(0, 1, 1, .., " + n + ")", x.seenTwice(0, 1, 1, (on + 1) % 24, n), 1);
            Check.due("seenTwice(23, 23, 24, .., " + n + ")", x.seenTwice(23, 23, 24, (on + 23) % 24, n), still);
        }
        Check.due("seenTwice(0, 3, 99, 6, 99)", x.seenTwice(0, 3, 99, 6, 99), 1);
    }

    private static void dueGusts(HungInStorm x, int l, int m, int ups, int n, long above, long below) {
        String call = "gusts(" + l + ", " + m + ", " + ups + ", " + n;
        Check.due(call + ", 0)", x.gusts(l, m, ups, n, 0), above);
        Check.due(call + ", 1)", x.gusts(l, m, ups, n, 1), below);
    }

    private static void gustsNoDay() {
        Check.sentence("behind n days (0 to 9)");
        for (int ups = 0; ups <= 10; ups += 5) {
            HungInStorm x = six();
            for (int l = 0; l <= 5; l++) {
                for (int m = 0; m <= 5; m++) {
                    dueGusts(x, l, m, ups, 0, l == m ? 1 : 0, 1);
                }
            }
        }
    }

    private static void gustsOfNoChance() {
        Check.sentence("it goes up by the chance of x (0 to 10) of ten, else down: x = 0");
        for (int n = 0; n <= 9; n++) {
            HungInStorm x = six();
            for (int l = 0; l <= 5; l++) {
                for (int m = 0; m <= 5; m++) {
                    dueGusts(x, l, m, 0, n, m == Math.max(l - n, 0) ? 1 : 0, 1);
                }
            }
        }
    }

    private static void gustsOfAllChance() {
        Check.sentence("it goes up by the chance of x (0 to 10) of ten, else down: x = 10");
        for (int n = 0; n <= 9; n++) {
            HungInStorm x = six();
            for (int l = 0; l <= 5; l++) {
                for (int m = 0; m <= 5; m++) {
                    dueGusts(x, l, m, 10, n, m == Math.min(l + n, 5) ? 1 : 0, 1);
                }
            }
        }
    }

    private static void gustsWhereThereIsNoLevel() {
        Check.sentence("where there is no LEVEL it stays");
        HungInStorm one = Check.laid("v0,0;t0,0,0,1,0;");
        for (int n = 0; n <= 9; n++) {
            for (int ups = 0; ups <= 10; ups++) {
                dueGusts(one, 0, 0, ups, n, 1, 1);
            }
        }
        HungInStorm two = Check.laid("v0,0;v0,0;t0,0,0,1,0;");
        for (int n = 1; n <= 9; n++) {
            dueGusts(two, 0, 1, 3, n, 3, 10);
            dueGusts(two, 1, 1, 3, n, 3, 10);
            dueGusts(two, 0, 0, 3, n, 7, 10);
            dueGusts(two, 1, 0, 3, n, 7, 10);
        }
        HungInStorm x = six();
        dueGusts(x, 0, 0, 1, 1, 9, 10);
        dueGusts(x, 0, 1, 1, 1, 1, 10);
        dueGusts(x, 5, 5, 1, 1, 1, 10);
        dueGusts(x, 5, 4, 1, 1, 9, 10);
    }

    private static void gustsInLowestTerms() {
        Check.sentence("in lowest terms");
        HungInStorm x = six();
        dueGusts(x, 0, 5, 1, 5, 1, 100000);
        dueGusts(x, 0, 5, 2, 5, 1, 3125);
        dueGusts(x, 0, 5, 4, 5, 32, 3125);
        dueGusts(x, 0, 5, 5, 5, 1, 32);
        dueGusts(x, 0, 5, 6, 5, 243, 3125);
        dueGusts(x, 0, 5, 8, 5, 1024, 3125);
        dueGusts(x, 0, 5, 9, 5, 59049, 100000);
        dueGusts(x, 0, 5, 9, 4, 0, 1);
        dueGusts(x, 0, 1, 5, 1, 1, 2);
        dueGusts(x, 0, 1, 2, 1, 1, 5);
        dueGusts(x, 0, 1, 0, 1, 0, 1);
        dueGusts(x, 0, 1, 10, 1, 1, 1);
    }

    /** All that there are, by all ways that n days can go one by one. */
    private static void gustsAll() {
        Check.sentence("the chance that it is at LEVEL m behind n days (0 to 9), in lowest terms");
        HungInStorm x = six();
        int calls = 0;
        for (int l = 0; l <= 5; l++) {
            for (int ups = 0; ups <= 10; ups++) {
                for (int n = 0; n <= 9; n++) {
                    long[] ways = allWays(l, ups, n);
                    for (int m = 0; m <= 5; m++) {
                        long all = (long) Math.pow(10, n);
                        long most = commonMost(ways[m], all);
                        dueGusts(x, l, m, ups, n, ways[m] / most, all / most);
                    }
                    calls += 12;
                    if (calls > CALLS) {
                        x = six();
                        calls = 0;
                    }
                }
            }
        }
    }

    /** For each level in how many of ten to the n cases one is there. */
    private static long[] allWays(int l, int ups, int n) {
        long[] ways = new long[6];
        for (int way = 0; way < 1 << n; way++) {
            int at = l;
            long cases = 1;
            for (int day = 0; day < n; day++) {
                boolean up = (way >> day & 1) == 1;
                cases *= up ? ups : 10 - ups;
                at += up ? (at == 5 ? 0 : 1) : (at == 0 ? 0 : -1);
            }
            ways[at] += cases;
        }
        return ways;
    }

    private static long commonMost(long a, long b) {
        return a == 0 ? b : commonMost(b % a, a);
    }
}
