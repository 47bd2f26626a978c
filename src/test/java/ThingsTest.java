/** Promises 15 to 18: things that are dropped, seen, seen twice, and lifted by gusts. */
public final class ThingsTest {

    private static final int BAD = HungInStorm.BAD;

    public static void main(String[] args) {
        dropped();
        droppedWrong();
        seen();
        seenTwice();
        gusts();
        gustsSumUp();
        gustsWrong();
        Check.end();
    }

    private static HungInStorm six() {
        return Check.laid("v1,0;v2,0;v4,0;v8,0;v16,0;v23,0;t0,0,0,1,0;");
    }

    private static void dueDropped(HungInStorm x, int l, int from, int n, int level, int place) {
        String call = "dropped(" + l + ", " + from + ", " + n + ")";
        Check.due(call + " level", x.dropped(l, from, n, 0), level);
        Check.due(call + " place", x.dropped(l, from, n, 1), place);
    }

    private static void dropped() {
        HungInStorm x = six();
        dueDropped(x, 5, 3, 0, 5, 3);
        dueDropped(x, 5, 3, 1, 4, 2);
        dueDropped(x, 5, 3, 2, 3, 18);
        dueDropped(x, 5, 3, 3, 2, 2);
        dueDropped(x, 5, 3, 4, 1, 6);
        dueDropped(x, 5, 3, 5, 0, 8);
        dueDropped(x, 5, 3, 6, 9, 9);
        dueDropped(x, 5, 3, 7, 9, 9);
        dueDropped(x, 5, 3, 60, 9, 9);
        dueDropped(x, 0, 23, 0, 0, 23);
        dueDropped(x, 0, 23, 1, 9, 0);
    }

    private static void droppedWrong() {
        HungInStorm x = six();
        Check.due("dropped(6, 0, 0, 0)", x.dropped(6, 0, 0, 0), BAD);
        Check.due("dropped(-1, 0, 0, 0)", x.dropped(-1, 0, 0, 0), BAD);
        Check.due("dropped(9, 0, 0, 0)", x.dropped(9, 0, 0, 0), BAD);
        Check.due("dropped(0, 24, 0, 0)", x.dropped(0, 24, 0, 0), BAD);
        Check.due("dropped(0, -1, 0, 0)", x.dropped(0, -1, 0, 0), BAD);
        Check.due("dropped(0, 0, 61, 0)", x.dropped(0, 0, 61, 0), BAD);
        Check.due("dropped(0, 0, -1, 0)", x.dropped(0, 0, -1, 0), BAD);
        Check.due("dropped(0, 0, 0, 2)", x.dropped(0, 0, 0, 2), BAD);
        Check.due("dropped(0, 0, 0, -1)", x.dropped(0, 0, 0, -1), BAD);
        Check.due("new: dropped(2, 0, 0, 0)", new HungInStorm().dropped(2, 0, 0, 0), BAD);
    }

    private static void seen() {
        HungInStorm x = six();
        Check.due("seen(0, 0, 24)", x.seen(0, 0, 24), 63);
        Check.due("seen(0, 0, 6)", x.seen(0, 0, 6), 4 + 8 + 16);
        Check.due("seen(0, 0, 99)", x.seen(0, 0, 99), 8 + 16);
        Check.due("seen(0, 3, 99)", x.seen(0, 3, 99), 1);
        Check.due("seen(23, 22, 1)", x.seen(23, 22, 1), 32);
        Check.due("seen(23, 0, 1)", x.seen(23, 0, 1), 1);
        Check.due("seen(0, 23, 1)", x.seen(0, 23, 1), 32);
        Check.due("seen(0, 5, 1)", x.seen(0, 5, 1), 0);
        Check.due("seen(24, 0, 1)", x.seen(24, 0, 1), BAD);
        Check.due("seen(-1, 0, 1)", x.seen(-1, 0, 1), BAD);
        Check.due("seen(0, 24, 1)", x.seen(0, 24, 1), BAD);
        Check.due("seen(0, -1, 1)", x.seen(0, -1, 1), BAD);
        Check.due("seen(0, 0, 0)", x.seen(0, 0, 0), BAD);
        Check.due("seen(0, 0, 100)", x.seen(0, 0, 100), BAD);
        Check.due("seen(0, 0, least)", x.seen(0, 0, Integer.MIN_VALUE), BAD);
        Check.due("new: seen(0, 0, 24)", new HungInStorm().seen(0, 0, 24), 3);
    }

    private static void seenTwice() {
        HungInStorm x = six();
        // 12 days: the even paces; then 3 days: 8 and 16 come round, of paces 2 and 4 none.
        Check.due("seenTwice, 8 and 16", x.seenTwice(0, 0, 12, 0, 3), 8 + 16);
        Check.due("seenTwice, 2", x.seenTwice(0, 0, 12, 6, 3), 2);
        Check.due("seenTwice, 4", x.seenTwice(0, 0, 12, 12, 3), 4);
        Check.due("seenTwice, none", x.seenTwice(0, 0, 12, 7, 3), 0);
        Check.due("seenTwice, 1 and 23 fit the first", x.seenTwice(0, 12, 12, 13, 1), 1);
        Check.due("seenTwice, 1 day each", x.seenTwice(0, 1, 1, 2, 1), 1);
        Check.due("seenTwice, 99 days", x.seenTwice(0, 3, 99, 6, 99), 1);
        Check.due("seenTwice(24, ..)", x.seenTwice(24, 0, 1, 0, 1), BAD);
        Check.due("seenTwice(-1, ..)", x.seenTwice(-1, 0, 1, 0, 1), BAD);
        Check.due("seenTwice(0, 24, ..)", x.seenTwice(0, 24, 1, 0, 1), BAD);
        Check.due("seenTwice(0, -1, ..)", x.seenTwice(0, -1, 1, 0, 1), BAD);
        Check.due("seenTwice(0, 0, 0, ..)", x.seenTwice(0, 0, 0, 0, 1), BAD);
        Check.due("seenTwice(0, 0, 100, ..)", x.seenTwice(0, 0, 100, 0, 1), BAD);
        Check.due("seenTwice(.., 24, 1)", x.seenTwice(0, 0, 1, 24, 1), BAD);
        Check.due("seenTwice(.., -1, 1)", x.seenTwice(0, 0, 1, -1, 1), BAD);
        Check.due("seenTwice(.., 0, 0)", x.seenTwice(0, 0, 1, 0, 0), BAD);
        Check.due("seenTwice(.., 0, 100)", x.seenTwice(0, 0, 1, 0, 100), BAD);
    }

    private static void dueGusts(HungInStorm x, int l, int m, int ups, int n, long above, long below) {
        String call = "gusts(" + l + ", " + m + ", " + ups + ", " + n + ")";
        Check.due(call + " above", x.gusts(l, m, ups, n, 0), above);
        Check.due(call + " below", x.gusts(l, m, ups, n, 1), below);
    }

    private static void gusts() {
        HungInStorm x = Check.laid("v0,0;v0,0;v0,0;t0,0,0,1,0;");
        dueGusts(x, 1, 1, 3, 0, 1, 1);
        dueGusts(x, 1, 0, 3, 0, 0, 1);
        dueGusts(x, 1, 2, 3, 1, 3, 10);
        dueGusts(x, 1, 0, 3, 1, 7, 10);
        dueGusts(x, 1, 1, 3, 1, 0, 1);
        // Where there is no level it stays.
        dueGusts(x, 0, 0, 3, 1, 7, 10);
        dueGusts(x, 2, 2, 3, 1, 3, 10);
        // Up and down or down and up: 21 and 21 of 100.
        dueGusts(x, 1, 1, 3, 2, 21, 50);
        dueGusts(x, 1, 0, 3, 2, 49, 100);
        dueGusts(x, 0, 2, 0, 9, 0, 1);
        dueGusts(x, 2, 0, 0, 9, 1, 1);
        dueGusts(x, 0, 2, 10, 2, 1, 1);
        dueGusts(x, 0, 2, 10, 1, 0, 1);
        dueGusts(x, 0, 0, 5, 2, 1, 2);
        HungInStorm one = Check.laid("v0,0;t0,0,0,1,0;");
        dueGusts(one, 0, 0, 7, 9, 1, 1);
        // All nine days down, by a tenth each, from the fifth level: no fraction can be lower.
        HungInStorm ten = six();
        dueGusts(ten, 5, 4, 9, 1, 1, 10);
        // Each of the nine days goes down, or up at the highest level and then down: none left out but by count.
        dueGusts(ten, 0, 5, 1, 5, 1, 100000);
        dueGusts(ten, 0, 5, 5, 5, 1, 32);
    }

    /** The chances of all levels make up one. */
    private static void gustsSumUp() {
        HungInStorm x = six();
        for (int ups = 0; ups <= 10; ups++) {
            for (int n = 0; n <= 9; n++) {
                long sum = 0;
                for (int m = 0; m < 6; m++) {
                    long below = x.gusts(2, m, ups, n, 1);
                    Check.dueThat("below divides 10 to the 9", below > 0 && 1000000000L % below == 0);
                    sum += x.gusts(2, m, ups, n, 0) * (1000000000L / Math.max(below, 1));
                }
                Check.due("all chances by " + ups + ", " + n, sum, 1000000000L);
            }
            x = six();
        }
    }

    private static void gustsWrong() {
        HungInStorm x = new HungInStorm();
        Check.due("gusts(2, 0, 1, 1, 0)", x.gusts(2, 0, 1, 1, 0), BAD);
        Check.due("gusts(-1, 0, 1, 1, 0)", x.gusts(-1, 0, 1, 1, 0), BAD);
        Check.due("gusts(0, 2, 1, 1, 0)", x.gusts(0, 2, 1, 1, 0), BAD);
        Check.due("gusts(0, -1, 1, 1, 0)", x.gusts(0, -1, 1, 1, 0), BAD);
        Check.due("gusts(0, 0, 11, 1, 0)", x.gusts(0, 0, 11, 1, 0), BAD);
        Check.due("gusts(0, 0, 11, 1, 1)", x.gusts(0, 0, 11, 1, 1), BAD);
        Check.due("gusts(0, 1, 11, 2, 0)", x.gusts(0, 1, 11, 2, 0), BAD);
        Check.due("gusts(0, 0, -1, 1, 0)", x.gusts(0, 0, -1, 1, 0), BAD);
        Check.due("gusts(0, 0, 1, 10, 0)", x.gusts(0, 0, 1, 10, 0), BAD);
        Check.due("gusts(0, 0, 1, -1, 0)", x.gusts(0, 0, 1, -1, 0), BAD);
        Check.due("gusts(0, 0, 1, 1, 2)", x.gusts(0, 0, 1, 1, 2), BAD);
        Check.due("gusts(0, 0, 1, 1, -1)", x.gusts(0, 0, 1, 1, -1), BAD);
    }
}
