/** Calls that are refused, or that only ask: made on one of two objects that are alike, they must leave no trace. */
final class NoTrace {

    interface Start {
        HungInStorm make();
    }

    interface Call {
        long of(HungInStorm x);
    }

    private static final int[] SOME_DAYS = {0, 1, 2, 3, 60};

    private NoTrace() {
    }

    /** The call answers so, and all that can be asked behind it answers as if it had not been made. */
    static void due(String call, Start start, Call made, long answer) {
        HungInStorm x = start.make();
        Check.due(call, made.of(x), answer);
        String without = all(start.make());
        String with = all(x);
        Check.dueThat("nothing has changed behind " + call + ":\n" + without + "\n" + with, with.equals(without));
    }

    /** All of an object, down to what can be undone, what is kept and what its text lays; some 300 calls at most. */
    private static String all(HungInStorm x) {
        StringBuilder told = new StringBuilder();
        for (int what = 0; what <= 6; what++) {
            told.append(x.count(what)).append(' ');
        }
        told.append("fault ").append(x.fault()).append(' ');
        tellStorm(x, told);
        told.append("markets ").append(x.markets(60));
        for (int left = x.undo(); left != HungInStorm.NO; left = x.undo()) {
            told.append(" undo ").append(left).append(": ").append(x.count(2));
            tellGas(x, told);
        }
        for (int left = x.back(); left != HungInStorm.NO; left = x.back()) {
            told.append(" back ").append(left).append(": ").append(x.count(2));
            tellGas(x, told);
            told.append(' ').append(x.town(0, 1, 0)).append(' ').append(x.town(0, 60, 2));
        }
        told.append(" lay ").append(x.lay()).append(' ');
        tellStorm(x, told);
        return told.append(" wipe ").append(x.wipe()).toString();
    }

    private static void tellStorm(HungInStorm x, StringBuilder told) {
        for (int l = 0; l < x.count(0); l++) {
            told.append('v').append(x.level(l, 0)).append(',').append(x.level(l, 1)).append(' ');
        }
        for (int i = 0; i < x.count(1); i++) {
            told.append('t').append(x.town(i, 0, 1)).append(": ");
            for (int t : SOME_DAYS) {
                told.append(x.town(i, t, 0)).append(',').append(x.town(i, t, 2)).append(' ');
            }
        }
    }

    private static void tellGas(HungInStorm x, StringBuilder told) {
        for (int i = 0; i < x.count(1); i++) {
            told.append(' ').append(x.town(i, 0, 2));
        }
    }
}
