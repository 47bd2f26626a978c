import java.util.ArrayDeque;
import java.util.ArrayList;
import java.util.Arrays;
import java.util.HashMap;
import java.util.HashSet;
import java.util.List;
import java.util.Map;
import java.util.Set;
import java.util.regex.Matcher;
import java.util.regex.Pattern;

/**
 * The document read a second time, as slowly and as plainly as can be, with the Java library: nothing is kept from
 * one answer to the next, and each day is a new state. It shares no code and no way of going about with the program.
 */
final class Model {
    static final int BAD = -1, NO = -2, FULL = -3, NONE = -4;

    private static final class World {
        List<int[]> levels = new ArrayList<>();
        List<int[]> towns = new ArrayList<>();
        List<int[]> errands = new ArrayList<>();
        List<int[]> lightnings = new ArrayList<>();

        World copy() {
            World w = new World();
            levels.forEach(a -> w.levels.add(a.clone()));
            towns.forEach(a -> w.towns.add(a.clone()));
            errands.forEach(a -> w.errands.add(a.clone()));
            lightnings.forEach(a -> w.lightnings.add(a.clone()));
            return w;
        }
    }

    private record State(int level, int place, int gas, boolean isLost) {
    }

    private static final Pattern ITEM = Pattern.compile("([a-z])([0-9]{1,2}(?:,[0-9]{1,2})*);");

    private StringBuilder text = new StringBuilder();
    private World world = parse("v2,0;v5,1;t0,0,20,2,0;t1,6,20,3,0;", new int[1]);
    private final ArrayDeque<World> undos = new ArrayDeque<>();
    private final ArrayDeque<World> kept = new ArrayDeque<>();

    private static boolean in(long n, long a, long b) {
        return a <= n && n <= b;
    }

    private static World parse(String text, int[] fault) {
        World w = new World();
        Matcher item = ITEM.matcher(text);
        int at = 0;
        fault[0] = NONE;
        while (at < text.length()) {
            if (!item.find(at) || item.start() != at || !add(w, item.group(1).charAt(0), numbers(item.group(2)))) {
                fault[0] = at;
                return w;
            }
            at = item.end();
        }
        return w;
    }

    private static int[] numbers(String list) {
        return Arrays.stream(list.split(",")).mapToInt(Integer::parseInt).toArray();
    }

    private static boolean fits(int[] n, int... bounds) {
        if (n.length * 2 != bounds.length) {
            return false;
        }
        for (int k = 0; k < n.length; k++) {
            if (!in(n[k], bounds[2 * k], bounds[2 * k + 1])) {
                return false;
            }
        }
        return true;
    }

    private static boolean add(World w, char letter, int[] n) {
        return switch (letter) {
            case 'v' -> fits(n, 0, 23, 0, 1) && w.levels.size() < 6 && w.levels.add(n);
            case 't' -> fits(n, 0, 5, 0, 23, 0, 60, 1, 9, 0, 3) && w.towns.size() < 6 && w.towns.add(n);
            case 'm' -> fits(n, 0, w.towns.size() - 1, 1, 60, 0, 1) && w.errands.size() < 8 && w.errands.add(n);
            case 'z' -> fits(n, 0, 5, 1, 60) && w.lightnings.size() < 5 && w.lightnings.add(n);
            default -> false;
        };
    }

    private static State move(World w, int[] town, State s, boolean up) {
        if (s.isLost) {
            return s;
        }
        if (!up) {
            return s.level == 0 ? s : new State(s.level - 1, s.place, s.gas, false);
        }
        boolean can = s.level < w.levels.size() - 1 && s.gas >= town[3];
        return can ? new State(s.level + 1, s.place, s.gas - town[3], false) : s;
    }

    /** Steps 2 to 5 of a day. */
    private static State rest(World w, int[] town, State s, int day) {
        if (s.isLost) {
            return s;
        }
        int level = s.gas == 0 ? s.level - 1 : s.level;
        if (level < 0) {
            return new State(0, 0, 0, true);
        }
        int place = (s.place + w.levels.get(level)[0]) % 24;
        int gas = s.gas;
        if (w.lightnings.stream().anyMatch(z -> z[0] == level && z[1] == day)) {
            gas -= (gas + 1) / 2;
        }
        int loss = switch (town[4]) {
            case 0 -> 1;
            case 1 -> 2;
            case 2 -> 1 - w.levels.get(level)[1];
            default -> 1 - day % 2;
        };
        return new State(level, place, Math.max(0, gas - loss), false);
    }

    private static State start(int[] town) {
        return new State(town[0], town[1], town[2], false);
    }

    private static State at(World w, int i, int t) {
        int[] town = w.towns.get(i);
        State s = start(town);
        for (int day = 1; day <= t; day++) {
            for (int[] e : w.errands) {
                if (e[0] == i && e[1] == day) {
                    s = move(w, town, s, e[2] == 1);
                }
            }
            s = rest(w, town, s, day);
        }
        return s;
    }

    private static boolean meet(State a, State b) {
        return !a.isLost && !b.isLost && a.level == b.level && a.place == b.place;
    }

    private static List<State[]> courses(World w) {
        List<State[]> all = new ArrayList<>();
        for (int i = 0; i < w.towns.size(); i++) {
            State[] course = new State[61];
            for (int t = 0; t <= 60; t++) {
                course[t] = at(w, i, t);
            }
            all.add(course);
        }
        return all;
    }

    private static int marketsOf(World w, int n) {
        List<State[]> all = courses(w);
        int sum = 0;
        for (int t = 1; t <= n; t++) {
            for (int i = 0; i < all.size(); i++) {
                for (int j = 0; j < i; j++) {
                    sum += meet(all.get(i)[t], all.get(j)[t]) ? 1 : 0;
                }
            }
        }
        return sum;
    }

    private boolean noTown(int i) {
        return !in(i, 0, world.towns.size() - 1);
    }

    private boolean noLevel(int l) {
        return !in(l, 0, world.levels.size() - 1);
    }

    int write(int n, long v) {
        if (!in(n, 1, 8)) {
            return BAD;
        }
        if (text.length() + n > 300) {
            return FULL;
        }
        byte[] bytes = java.nio.ByteBuffer.allocate(8).putLong(v).array();
        for (int k = 8 - n; k < 8; k++) {
            text.append((char) (bytes[k] & 255));
        }
        return text.length();
    }

    int wipe() {
        int had = text.length();
        text = new StringBuilder();
        return had;
    }

    int fault() {
        int[] fault = new int[1];
        parse(text.toString(), fault);
        return fault[0];
    }

    int lay() {
        World w = parse(text.toString(), new int[1]);
        if (fault() != NONE || w.levels.isEmpty() || w.towns.isEmpty()) {
            return NO;
        }
        if (w.towns.stream().anyMatch(t -> t[0] >= w.levels.size())
            || w.lightnings.stream().anyMatch(z -> z[0] >= w.levels.size())) {
            return NO;
        }
        world = w;
        undos.clear();
        kept.clear();
        return w.towns.size();
    }

    int level(int l, int what) {
        return noLevel(l) || !in(what, 0, 1) ? BAD : world.levels.get(l)[what];
    }

    int town(int i, int t, int what) {
        if (noTown(i) || !in(t, 0, 60) || !in(what, 0, 2)) {
            return BAD;
        }
        State s = at(world, i, t);
        if (s.isLost) {
            return new int[] {9, NONE, 0}[what];
        }
        return new int[] {s.level, s.place, s.gas}[what];
    }

    int lost(int i) {
        if (noTown(i)) {
            return BAD;
        }
        for (int t = 1; t <= 60; t++) {
            if (at(world, i, t).isLost) {
                return t;
            }
        }
        return NONE;
    }

    int meet(int i, int j) {
        if (noTown(i) || noTown(j) || i == j) {
            return BAD;
        }
        for (int t = 1; t <= 60; t++) {
            if (meet(at(world, i, t), at(world, j, t))) {
                return t;
            }
        }
        return NONE;
    }

    int markets(int n) {
        return in(n, 1, 60) ? marketsOf(world, n) : BAD;
    }

    int stay(int i, int j, int what) {
        if (noTown(i) || noTown(j) || i == j || !in(what, 0, 1)) {
            return BAD;
        }
        List<Integer> days = new ArrayList<>();
        for (int d = 0; d < 200; d++) {
            if (staysAt(i, d) == staysAt(j, d)) {
                days.add(d);
            }
        }
        if (days.isEmpty()) {
            return NONE;
        }
        return what == 0 ? days.get(0) : days.get(1) - days.get(0);
    }

    private int staysAt(int i, int d) {
        int[] town = world.towns.get(i);
        return (town[1] + d * world.levels.get(town[0])[0]) % 24;
    }

    int catches(int i, int j, int what) {
        if (noTown(i) || noTown(j) || i == j || !in(what, 0, 1)) {
            return BAD;
        }
        int[] town = world.towns.get(i);
        Set<State> now = new HashSet<>(List.of(start(town)));
        for (int day = 1; day <= 20; day++) {
            Set<State> then = new HashSet<>();
            for (State s : now) {
                then.add(rest(world, town, s, day));
                then.add(rest(world, town, move(world, town, s, true), day));
                then.add(rest(world, town, move(world, town, s, false), day));
            }
            State other = at(world, j, day);
            int most = then.stream().filter(s -> meet(s, other)).mapToInt(State::gas).max().orElse(-1);
            if (most >= 0) {
                return what == 0 ? day : most;
            }
            now = then;
        }
        return NONE;
    }

    int keeps(int i, int n, int what) {
        if (noTown(i) || !in(n, 0, 60) || !in(what, 0, 1)) {
            return BAD;
        }
        return best(i, what, w -> at(w, i, n).gas);
    }

    int trades(int i, int n, int what) {
        if (noTown(i) || !in(n, 1, 60) || !in(what, 0, 1)) {
            return BAD;
        }
        return best(i, what, w -> {
            List<State[]> all = courses(w);
            int own = 0;
            for (int j = 0; j < all.size(); j++) {
                for (int t = 1; t <= n; t++) {
                    own += j != i && meet(all.get(i)[t], all.get(j)[t]) ? 1 : 0;
                }
            }
            return own;
        });
    }

    private int best(int i, int what, java.util.function.ToIntFunction<World> worth) {
        int[] worths = new int[world.levels.size()];
        for (int l = 0; l < worths.length; l++) {
            World w = world.copy();
            w.towns.get(i)[0] = l;
            worths[l] = worth.applyAsInt(w);
        }
        int most = Arrays.stream(worths).max().getAsInt();
        int first = 0;
        while (worths[first] != most) {
            first++;
        }
        return what == 0 ? first : most;
    }

    int dropped(int l, int x, int n, int what) {
        if (noLevel(l) || !in(x, 0, 23) || !in(n, 0, 60) || !in(what, 0, 1)) {
            return BAD;
        }
        int level = l;
        int place = x;
        for (int day = 1; day <= n; day++) {
            if (level != 9) {
                place = (place + world.levels.get(level)[0]) % 24;
                level = level == 0 ? 9 : level - 1;
            }
        }
        return what == 0 ? level : place;
    }

    int seen(int x, int y, int n) {
        if (!in(x, 0, 23) || !in(y, 0, 23) || !in(n, 1, 99)) {
            return BAD;
        }
        int bits = 0;
        for (int l = 0; l < world.levels.size(); l++) {
            int place = x;
            for (int day = 0; day < n; day++) {
                place = (place + world.levels.get(l)[0]) % 24;
            }
            bits += place == y ? (int) Math.pow(2, l) : 0;
        }
        return bits;
    }

    int seenTwice(int x, int y, int n, int y2, int n2) {
        int first = seen(x, y, n);
        int second = in(y, 0, 23) ? seen(y, y2, n2) : BAD;
        return first == BAD || second == BAD ? BAD : first & second;
    }

    long gusts(int l, int m, int x, int n, int part) {
        if (noLevel(l) || noLevel(m) || !in(x, 0, 10) || !in(n, 0, 9) || !in(part, 0, 1)) {
            return BAD;
        }
        java.math.BigInteger above = java.math.BigInteger.valueOf(ways(l, m, x, n, new HashMap<>()));
        java.math.BigInteger below = java.math.BigInteger.TEN.pow(n);
        return (part == 0 ? above : below).divide(above.gcd(below)).longValueExact();
    }

    /** In how many of ten to the n cases one comes from l to m in n days. */
    private long ways(int l, int m, int x, int n, Map<List<Integer>, Long> known) {
        if (n == 0) {
            return l == m ? 1 : 0;
        }
        List<Integer> key = List.of(l, n);
        if (!known.containsKey(key)) {
            int up = l == world.levels.size() - 1 ? l : l + 1;
            int down = l == 0 ? 0 : l - 1;
            known.put(key, x * ways(up, m, x, n - 1, known) + (10 - x) * ways(down, m, x, n - 1, known));
        }
        return known.get(key);
    }

    private void remember() {
        undos.addLast(world.copy());
        if (undos.size() > 8) {
            undos.removeFirst();
        }
    }

    int errand(int i, int day, boolean up) {
        if (noTown(i) || !in(day, 1, 60)) {
            return BAD;
        }
        if (world.errands.size() == 8) {
            return FULL;
        }
        remember();
        world.errands.add(new int[] {i, day, up ? 1 : 0});
        return world.errands.size();
    }

    int fill(int i, int g) {
        if (noTown(i) || !in(g, 0, 60)) {
            return BAD;
        }
        remember();
        int had = world.towns.get(i)[2];
        world.towns.get(i)[2] = g;
        return had;
    }

    int undo() {
        if (undos.isEmpty()) {
            return NO;
        }
        world = undos.removeLast();
        return undos.size();
    }

    int year(int z, int what) {
        if (!in(z, 0, 9999) || !in(what, 0, 1)) {
            return BAD;
        }
        World w = world.copy();
        for (int i = 0; i < w.towns.size(); i++) {
            long q = (7919L * z + 6151L * i + 1) % 65521;
            w.towns.get(i)[1] = (int) (q * q % 65521) % 24;
        }
        return what == 0 ? marketsOf(w, 60) : (int) courses(w).stream().filter(c -> c[60].isLost).count();
    }

    int keep() {
        if (kept.size() == 2) {
            return FULL;
        }
        kept.push(world.copy());
        return kept.size();
    }

    int back() {
        if (kept.isEmpty()) {
            return NO;
        }
        world = kept.pop();
        undos.clear();
        return kept.size();
    }

    int count(int what) {
        if (!in(what, 0, 6)) {
            return BAD;
        }
        return new int[] {world.levels.size(), world.towns.size(), world.errands.size(), world.lightnings.size(),
            undos.size(), kept.size(), text.length()}[what];
    }
}
