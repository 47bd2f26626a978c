import java.util.Random;

/** Runs of 512 calls, drawn from fixed seeds, on the program and on the model side by side. */
public final class RunsTest {

    private static final int RUNS = 400, CALLS = 512;
    private static final int[] WRONG = {-1, -2, 7, 9, 24, 61, 100, 10000, Integer.MAX_VALUE, Integer.MIN_VALUE};

    private final Random draw;
    private final HungInStorm program = new HungInStorm();
    private final Model model = new Model();
    private int calls = 0;

    private RunsTest(int seed) {
        draw = new Random(seed);
    }

    public static void main(String[] args) {
        for (int seed = 1; seed <= RUNS; seed++) {
            RunsTest run = new RunsTest(seed);
            while (run.calls < CALLS) {
                run.call("run " + seed + ", call " + (run.calls + 1) + ": ");
            }
        }
        Check.end();
    }

    /** One call on both; what comes behind the last call that is promised is not looked at. */
    private void due(String call, long got, long want) {
        calls++;
        if (calls <= CALLS) {
            Check.due(call, got, want);
        }
    }

    /** A number from 0 to most, now and then a wrong one or one just outside. */
    private int some(int most) {
        int kind = draw.nextInt(80);
        if (kind == 0) {
            return WRONG[draw.nextInt(WRONG.length)];
        }
        if (kind == 1) {
            return most + 1;
        }
        return draw.nextInt(Math.max(most, 0) + 1);
    }

    private int aTown() {
        return some(model.count(1) - 1);
    }

    private int aLevel() {
        return some(model.count(0) - 1);
    }

    private void call(String run) {
        int what = draw.nextInt(28);
        if (what < 8) {
            callOnText(run, what);
        } else if (what < 18) {
            callOnTowns(run, what);
        } else {
            callOnThings(run, what);
        }
    }

    private void callOnText(String run, int what) {
        switch (what) {
            case 0, 1 -> {
                int n = some(8);
                long v = draw.nextInt(4) == 0 ? draw.nextLong() : Check.packed(aPart());
                due(run + "write(" + n + ", " + v + ")", program.write(n, v), model.write(n, v));
            }
            case 2 -> {
                if (draw.nextInt(6) == 0) {
                    due(run + "wipe()", program.wipe(), model.wipe());
                } else {
                    writeStorm(run);
                }
            }
            case 3 -> due(run + "fault()", program.fault(), model.fault());
            case 4 -> due(run + "lay()", program.lay(), model.lay());
            case 5 -> {
                int l = aLevel();
                int part = some(1);
                due(run + "level(" + l + ", " + part + ")", program.level(l, part), model.level(l, part));
            }
            case 6 -> {
                int part = some(6);
                due(run + "count(" + part + ")", program.count(part), model.count(part));
            }
            default -> {
                int z = some(9999);
                int part = some(1);
                due(run + "year(" + z + ", " + part + ")", program.year(z, part), model.year(z, part));
            }
        }
    }

    private String aPart() {
        String[] parts = {"v1,0;", "z0,1;", "m0,3,1;", "v", ";", "m1,2,0;", "t0,0,", "9,1,2;", "v9,1;", "z1,60;"};
        return parts[draw.nextInt(parts.length)];
    }

    private int to(int most) {
        return draw.nextInt(most + 1);
    }

    /** Writes and lays a text that is most often good: few places, so that towns meet. */
    private void writeStorm(String run) {
        int levels = 1 + draw.nextInt(6);
        int towns = 1 + draw.nextInt(6);
        int far = draw.nextBoolean() ? 3 : 23;
        StringBuilder s = new StringBuilder();
        for (int l = 0; l < levels; l++) {
            s.append("v").append(to(far)).append(",").append(to(1)).append(";");
        }
        for (int i = 0; i < towns; i++) {
            s.append("t").append(to(levels - 1)).append(",").append(to(far)).append(",").append(to(60)).append(",");
            s.append(1 + to(8)).append(",").append(to(3)).append(";");
        }
        for (int k = draw.nextInt(9); k > 0; k--) {
            s.append("m").append(to(towns - 1)).append(",").append(1 + to(far * 2)).append(",").append(to(1)).append(";");
        }
        for (int k = draw.nextInt(6); k > 0; k--) {
            s.append("z").append(to(levels - 1)).append(",").append(1 + to(far * 2)).append(";");
        }
        if (draw.nextInt(3) == 0) {
            s.setCharAt(draw.nextInt(s.length()), "0123456789,;vtmz x".charAt(draw.nextInt(18)));
        }
        due(run + "wipe()", program.wipe(), model.wipe());
        for (int k = 0; k < s.length(); k += 8) {
            String part = s.substring(k, Math.min(k + 8, s.length()));
            long v = Check.packed(part);
            due(run + "write " + part, program.write(part.length(), v), model.write(part.length(), v));
        }
        due(run + "fault() of " + s, program.fault(), model.fault());
        due(run + "lay() of " + s, program.lay(), model.lay());
    }

    private void callOnTowns(String run, int what) {
        int i = aTown();
        int j = aTown();
        int n = some(60);
        int part = some(1);
        String two = i + ", " + j + ", " + part + ")";
        String days = i + ", " + n + ", " + part + ")";
        switch (what) {
            case 8, 9 -> {
                int three = some(2);
                due(run + "town(" + i + ", " + n + ", " + three + ")", program.town(i, n, three), model.town(i, n, three));
            }
            case 10 -> due(run + "lost(" + i + ")", program.lost(i), model.lost(i));
            case 11 -> due(run + "meet(" + two, program.meet(i, j), model.meet(i, j));
            case 12 -> due(run + "markets(" + n + ")", program.markets(n), model.markets(n));
            case 13 -> due(run + "stay(" + two, program.stay(i, j, part), model.stay(i, j, part));
            case 14, 15 -> {
                due(run + "catches(" + two, program.catches(i, j, part), model.catches(i, j, part));
            }
            case 16 -> due(run + "keeps(" + days, program.keeps(i, n, part), model.keeps(i, n, part));
            default -> due(run + "trades(" + days, program.trades(i, n, part), model.trades(i, n, part));
        }
    }

    private void callOnThings(String run, int what) {
        int l = aLevel();
        int m = aLevel();
        int x = some(23);
        int y = some(23);
        int part = some(1);
        int i = aTown();
        int n = some(99);
        switch (what) {
            case 18 -> {
                int days = some(draw.nextBoolean() ? 60 : 7);
                String call = run + "dropped(" + l + ", " + x + ", " + days + ", " + part + ")";
                due(call, program.dropped(l, x, days, part), model.dropped(l, x, days, part));
            }
            case 19 -> due(run + "seen(" + x + ", " + y + ", " + n + ")", program.seen(x, y, n), model.seen(x, y, n));
            case 20 -> {
                int y2 = some(23);
                int n2 = some(99);
                String call = run + "seenTwice(" + x + ", " + y + ", " + n + ", " + y2 + ", " + n2 + ")";
                due(call, program.seenTwice(x, y, n, y2, n2), model.seenTwice(x, y, n, y2, n2));
            }
            case 21 -> {
                int ups = some(10);
                int days = some(9);
                String call = run + "gusts(" + l + ", " + m + ", " + ups + ", " + days + ", " + part + ")";
                due(call, program.gusts(l, m, ups, days, part), model.gusts(l, m, ups, days, part));
            }
            case 22, 23 -> {
                int day = some(draw.nextBoolean() ? 60 : 9);
                boolean up = draw.nextBoolean();
                due(run + "errand(" + i + ", " + day + ", " + up + ")", program.errand(i, day, up), model.errand(i, day, up));
            }
            case 24 -> {
                int g = some(60);
                due(run + "fill(" + i + ", " + g + ")", program.fill(i, g), model.fill(i, g));
            }
            case 25 -> due(run + "undo()", program.undo(), model.undo());
            case 26 -> due(run + "keep()", program.keep(), model.keep());
            default -> due(run + "back()", program.back(), model.back());
        }
    }
}
