/** Towns of bags that float at the levels of a storm; ../shared/DOC.md says what each call answers. */
public final class HungInStorm {

    public static final int BAD = -1, NO = -2, FULL = -3, NONE = -4;

    private static final int MOST_BYTES = 300, MOST_NUMBERS = 5;
    private static final int MOST_LEVELS = 6, MOST_TOWNS = 6, MOST_ERRANDS = 8, MOST_LIGHTNINGS = 5;
    private static final int PLACES = 24, MOST_GAS = 60, MOST_WEIGHT = 9;
    private static final int DAYS = 60, HUNT_DAYS = 20, SEEN_DAYS = 99, GUST_DAYS = 9, LAST_YEAR = 9999;
    private static final int TORN = 1, PATCHED = 2, LIGHT = 3;
    private static final int MOST_UNDONE = 8, MOST_KEPT = 2;
    /** The level of what is at no level any more: a lost town, a thing on the ground. */
    private static final int GONE = 9;
    private static final String FIRST_STORM = "v2,0;v5,1;t0,0,20,2,0;t1,6,20,3,0;";

    private final Text text = new Text();
    private final Reader reader = new Reader();
    private final Fleet fleet = new Fleet();
    private final Fleet fleetOfYear = new Fleet();
    private final Course trial = new Course();
    private final Chase chase = new Chase();
    private final Odds odds = new Odds();
    private final History history = new History();
    private final Shelf shelf = new Shelf();
    private Storm storm = new Storm();
    /** What a text is read into: it becomes the storm only once all of it has been found good. */
    private Storm draft = new Storm();
    /** The fleet is followed only when an answer needs it: many changes may come one behind the other. */
    private boolean fleetIsOld = true;

    public HungInStorm() {
        for (int k = 0; k < FIRST_STORM.length(); k++) {
            text.append(FIRST_STORM.charAt(k));
        }
        reader.read(text, storm);
        text.clear();
    }

    // ---- storms

    public int write(int n, long v) {
        if (n < 1 || n > 8) {
            return BAD;
        }
        if (text.length + n > MOST_BYTES) {
            return FULL;
        }
        for (int k = n - 1; k >= 0; k--) {
            text.append((int) (v >>> (8 * k)) & 255);
        }
        return text.length;
    }

    public int wipe() {
        int had = text.length;
        text.clear();
        return had;
    }

    public int fault() {
        return reader.read(text, draft);
    }

    public int lay() {
        if (reader.read(text, draft) != NONE || !draft.isWhole()) {
            return NO;
        }
        Storm old = storm;
        storm = draft;
        draft = old;
        history.clear();
        shelf.clear();
        fleetIsOld = true;
        return storm.towns;
    }

    public int level(int l, int what) {
        if (!isLevel(l) || !isWithin(what, 0, 1)) {
            return BAD;
        }
        return what == 0 ? storm.pace[l] : storm.wet[l];
    }

    public int town(int i, int t, int what) {
        if (!isTown(i) || !isWithin(t, 0, DAYS) || !isWithin(what, 0, 2)) {
            return BAD;
        }
        Course course = followed().courses[i];
        switch (what) {
            case 0:
                return course.level[t];
            case 1:
                return course.floats(t) ? course.place[t] : NONE;
            default:
                return course.gas[t];
        }
    }

    public int lost(int i) {
        if (!isTown(i)) {
            return BAD;
        }
        return followed().courses[i].lostDay;
    }

    // ---- markets

    public int meet(int i, int j) {
        if (!areTwoTowns(i, j)) {
            return BAD;
        }
        Fleet towns = followed();
        for (int day = 1; day <= DAYS; day++) {
            if (towns.courses[i].meets(towns.courses[j], day)) {
                return day;
            }
        }
        return NONE;
    }

    public int markets(int n) {
        if (!isWithin(n, 1, DAYS)) {
            return BAD;
        }
        return followed().allMarkets(n);
    }

    public int stay(int i, int j, int what) {
        if (!areTwoTowns(i, j) || !isWithin(what, 0, 1)) {
            return BAD;
        }
        int apart = round(storm.firstPlace[j] - storm.firstPlace[i]);
        int nearer = round(storm.pace[storm.firstLevel[i]] - storm.pace[storm.firstLevel[j]]);
        int first = firstDayOf(apart, nearer, 0);
        if (first == NONE) {
            return NONE;
        }
        return what == 0 ? first : firstDayOf(0, nearer, 1);
    }

    public int catches(int i, int j, int what) {
        if (!areTwoTowns(i, j) || !isWithin(what, 0, 1)) {
            return BAD;
        }
        if (!chase.hunt(storm, i, followed().courses[j])) {
            return NONE;
        }
        return what == 0 ? chase.day : chase.gas;
    }

    // ---- what is best

    public int keeps(int i, int n, int what) {
        if (!isTown(i) || !isWithin(n, 0, DAYS) || !isWithin(what, 0, 1)) {
            return BAD;
        }
        int best = 0;
        int most = -1;
        for (int l = 0; l < storm.levels; l++) {
            trial.follow(storm, i, l, storm.firstPlace[i]);
            if (trial.gas[n] > most) {
                most = trial.gas[n];
                best = l;
            }
        }
        return what == 0 ? best : most;
    }

    public int trades(int i, int n, int what) {
        if (!isTown(i) || !isWithin(n, 1, DAYS) || !isWithin(what, 0, 1)) {
            return BAD;
        }
        Fleet towns = followed();
        int best = 0;
        int most = -1;
        for (int l = 0; l < storm.levels; l++) {
            trial.follow(storm, i, l, storm.firstPlace[i]);
            int own = towns.marketsWith(trial, i, n);
            if (own > most) {
                most = own;
                best = l;
            }
        }
        return what == 0 ? best : most;
    }

    // ---- things

    public int dropped(int l, int x, int n, int what) {
        if (!isLevel(l) || !isPlace(x) || !isWithin(n, 0, DAYS) || !isWithin(what, 0, 1)) {
            return BAD;
        }
        int under = l - n;
        int place = x;
        for (int at = l; at >= 0 && at > under; at--) {
            place = round(place + storm.pace[at]);
        }
        if (what == 1) {
            return place;
        }
        return under >= 0 ? under : GONE;
    }

    public int seen(int x, int y, int n) {
        if (!isPlace(x) || !isPlace(y) || !isWithin(n, 1, SEEN_DAYS)) {
            return BAD;
        }
        return fitting(x, y, n);
    }

    public int seenTwice(int x, int y, int n, int y2, int n2) {
        if (!isPlace(x) || !isPlace(y) || !isWithin(n, 1, SEEN_DAYS)) {
            return BAD;
        }
        if (!isPlace(y2) || !isWithin(n2, 1, SEEN_DAYS)) {
            return BAD;
        }
        return fitting(x, y, n) & fitting(y, y2, n2);
    }

    public long gusts(int l, int m, int x, int n, int part) {
        if (!isLevel(l) || !isLevel(m) || !isWithin(x, 0, 10)) {
            return BAD;
        }
        if (!isWithin(n, 0, GUST_DAYS) || !isWithin(part, 0, 1)) {
            return BAD;
        }
        odds.reckon(storm.levels, l, m, x, n);
        return part == 0 ? odds.above : odds.below;
    }

    // ---- changes

    public int errand(int i, int day, boolean up) {
        if (!isTown(i) || !isWithin(day, 1, DAYS)) {
            return BAD;
        }
        if (!storm.orders.tell(i, day, up)) {
            return FULL;
        }
        history.note(i, History.AN_ERRAND);
        fleetIsOld = true;
        return storm.orders.errands;
    }

    public int fill(int i, int g) {
        if (!isTown(i) || !isWithin(g, 0, MOST_GAS)) {
            return BAD;
        }
        int had = storm.orders.gas[i];
        storm.orders.gas[i] = g;
        history.note(i, had);
        fleetIsOld = true;
        return had;
    }

    public int undo() {
        if (!history.takeBack(storm.orders)) {
            return NO;
        }
        fleetIsOld = true;
        return history.size;
    }

    public int year(int z, int what) {
        if (!isWithin(z, 0, LAST_YEAR) || !isWithin(what, 0, 1)) {
            return BAD;
        }
        fleetOfYear.followYear(storm, z);
        return what == 0 ? fleetOfYear.allMarkets(DAYS) : fleetOfYear.lostTowns();
    }

    public int keep() {
        if (!shelf.put(storm.orders)) {
            return FULL;
        }
        return shelf.size;
    }

    public int back() {
        if (!shelf.take(storm.orders)) {
            return NO;
        }
        history.clear();
        fleetIsOld = true;
        return shelf.size;
    }

    public int count(int what) {
        switch (what) {
            case 0:
                return storm.levels;
            case 1:
                return storm.towns;
            case 2:
                return storm.orders.errands;
            case 3:
                return storm.lightnings;
            case 4:
                return history.size;
            case 5:
                return shelf.size;
            case 6:
                return text.length;
            default:
                return BAD;
        }
    }

    // ---- what several calls use

    private static boolean isWithin(int number, int least, int most) {
        return number >= least && number <= most;
    }

    private static boolean isPlace(int x) {
        return isWithin(x, 0, PLACES - 1);
    }

    private boolean isLevel(int l) {
        return isWithin(l, 0, storm.levels - 1);
    }

    private boolean isTown(int i) {
        return isWithin(i, 0, storm.towns - 1);
    }

    private boolean areTwoTowns(int i, int j) {
        return isTown(i) && isTown(j) && i != j;
    }

    private Fleet followed() {
        if (fleetIsOld) {
            fleet.followAsTold(storm);
            fleetIsOld = false;
        }
        return fleet;
    }

    /** A place, or a way between two places, counted round the eye. */
    private static int round(int x) {
        int rest = x % PLACES;
        return rest < 0 ? rest + PLACES : rest;
    }

    /** The first day, of PLACES days from the given one on, on which so many places a day have made up the way. */
    private static int firstDayOf(int way, int aDay, int from) {
        for (int day = from; day < from + PLACES; day++) {
            if (round(aDay * day) == way) {
                return day;
            }
        }
        return NONE;
    }

    private int fitting(int x, int y, int n) {
        int bits = 0;
        for (int l = 0; l < storm.levels; l++) {
            if (round(x + n * storm.pace[l]) == y) {
                bits |= 1 << l;
            }
        }
        return bits;
    }

    /** The bytes that have been written. */
    private static final class Text {
        private final int[] bytes = new int[MOST_BYTES];
        private int length;

        void append(int b) {
            if (length < MOST_BYTES) {
                bytes[length] = b;
                length++;
            }
        }

        void clear() {
            length = 0;
        }

        /** The byte there; behind the end -1, which is no byte and so fits nothing. */
        int at(int k) {
            return k >= 0 && k < length ? bytes[k] : -1;
        }
    }

    /** Reads a text into a storm, item by item. */
    private static final class Reader {
        private final int[] numbers = new int[MOST_NUMBERS];
        private int found;
        private int next;

        /** Answers where the first faulty item begins, or NONE; the storm then holds the items ahead of it. */
        int read(Text text, Storm storm) {
            storm.clear();
            next = 0;
            for (int items = 0; items < MOST_BYTES && next < text.length; items++) {
                int start = next;
                next++;
                if (!readNumbers(text) || !tell(text.at(start), storm)) {
                    return start;
                }
            }
            return NONE;
        }

        private boolean readNumbers(Text text) {
            found = 0;
            for (int k = 0; k < MOST_NUMBERS; k++) {
                if (!readNumber(text)) {
                    return false;
                }
                int end = text.at(next);
                next++;
                if (end == ';') {
                    return true;
                }
                if (end != ',') {
                    return false;
                }
            }
            return false;
        }

        private boolean readNumber(Text text) {
            if (!isFigure(text.at(next)) || found >= MOST_NUMBERS) {
                return false;
            }
            int number = text.at(next) - '0';
            next++;
            if (isFigure(text.at(next))) {
                number = 10 * number + text.at(next) - '0';
                next++;
            }
            numbers[found] = number;
            found++;
            return true;
        }

        private static boolean isFigure(int b) {
            return b >= '0' && b <= '9';
        }

        private boolean tell(int letter, Storm storm) {
            switch (letter) {
                case 'v':
                    return found == 2 && storm.addLevel(numbers[0], numbers[1]);
                case 't':
                    return found == 5 && storm.addTown(numbers[0], numbers[1], numbers[2], numbers[3], numbers[4]);
                case 'm':
                    return found == 3 && storm.addErrand(numbers[0], numbers[1], numbers[2]);
                case 'z':
                    return found == 2 && storm.addLightning(numbers[0], numbers[1]);
                default:
                    return false;
            }
        }
    }

    /** What calls can change and what can be kept: the errands, as told, and the gas of each town at first. */
    private static final class Orders {
        private final int[] who = new int[MOST_ERRANDS];
        private final int[] day = new int[MOST_ERRANDS];
        private final boolean[] up = new boolean[MOST_ERRANDS];
        private final int[] gas = new int[MOST_TOWNS];
        private int errands;

        boolean tell(int town, int onDay, boolean goesUp) {
            if (errands >= MOST_ERRANDS) {
                return false;
            }
            who[errands] = town;
            day[errands] = onDay;
            up[errands] = goesUp;
            errands++;
            return true;
        }

        void dropLatestErrand() {
            if (errands > 0) {
                errands--;
            }
        }

        void copy(Orders other) {
            for (int k = 0; k < MOST_ERRANDS; k++) {
                who[k] = other.who[k];
                day[k] = other.day[k];
                up[k] = other.up[k];
            }
            for (int i = 0; i < MOST_TOWNS; i++) {
                gas[i] = other.gas[i];
            }
            errands = other.errands;
        }
    }

    /** The levels, towns, errands and lightnings of one text. */
    private static final class Storm {
        private final int[] pace = new int[MOST_LEVELS];
        private final int[] wet = new int[MOST_LEVELS];
        private final int[] firstLevel = new int[MOST_TOWNS];
        private final int[] firstPlace = new int[MOST_TOWNS];
        private final int[] weight = new int[MOST_TOWNS];
        private final int[] kind = new int[MOST_TOWNS];
        private final int[] struckLevel = new int[MOST_LIGHTNINGS];
        private final int[] struckDay = new int[MOST_LIGHTNINGS];
        private final Orders orders = new Orders();
        private int levels;
        private int towns;
        private int lightnings;

        void clear() {
            levels = 0;
            towns = 0;
            lightnings = 0;
            orders.errands = 0;
        }

        boolean addLevel(int itsPace, int itsWet) {
            if (levels >= MOST_LEVELS || !isWithin(itsPace, 0, PLACES - 1) || !isWithin(itsWet, 0, 1)) {
                return false;
            }
            pace[levels] = itsPace;
            wet[levels] = itsWet;
            levels++;
            return true;
        }

        boolean addTown(int l, int x, int g, int itsWeight, int itsKind) {
            if (towns >= MOST_TOWNS || !isWithin(l, 0, MOST_LEVELS - 1) || !isPlace(x)) {
                return false;
            }
            if (!isWithin(g, 0, MOST_GAS) || !isWithin(itsWeight, 1, MOST_WEIGHT) || !isWithin(itsKind, 0, LIGHT)) {
                return false;
            }
            firstLevel[towns] = l;
            firstPlace[towns] = x;
            orders.gas[towns] = g;
            weight[towns] = itsWeight;
            kind[towns] = itsKind;
            towns++;
            return true;
        }

        boolean addErrand(int town, int day, int up) {
            if (!isWithin(town, 0, towns - 1) || !isWithin(day, 1, DAYS) || !isWithin(up, 0, 1)) {
                return false;
            }
            return orders.tell(town, day, up == 1);
        }

        boolean addLightning(int l, int day) {
            if (lightnings >= MOST_LIGHTNINGS || !isWithin(l, 0, MOST_LEVELS - 1) || !isWithin(day, 1, DAYS)) {
                return false;
            }
            struckLevel[lightnings] = l;
            struckDay[lightnings] = day;
            lightnings++;
            return true;
        }

        /** Whether it has a level and a town at least and every level that it names. */
        boolean isWhole() {
            for (int i = 0; i < towns; i++) {
                if (firstLevel[i] >= levels) {
                    return false;
                }
            }
            for (int k = 0; k < lightnings; k++) {
                if (struckLevel[k] >= levels) {
                    return false;
                }
            }
            return levels > 0 && towns > 0;
        }

        boolean isStruck(int l, int day) {
            for (int k = 0; k < lightnings; k++) {
                if (struckLevel[k] == l && struckDay[k] == day) {
                    return true;
                }
            }
            return false;
        }

        /** The gas that a town loses at a level at the end of a day, if it has as much. */
        int dailyLoss(int town, int l, int day) {
            switch (kind[town]) {
                case TORN:
                    return 2;
                case PATCHED:
                    return wet[l] == 1 ? 0 : 1;
                case LIGHT:
                    return day % 2 == 0 ? 1 : 0;
                default:
                    return 1;
            }
        }
    }

    /** Where one town is and what gas it has, behind each day. */
    private static final class Course {
        private final int[] level = new int[DAYS + 1];
        private final int[] place = new int[DAYS + 1];
        private final int[] gas = new int[DAYS + 1];
        private int lostDay;
        private int atLevel;
        private int atPlace;
        private int hasGas;

        void follow(Storm storm, int town, int firstLevel, int firstPlace) {
            lostDay = NONE;
            atLevel = firstLevel;
            atPlace = firstPlace;
            hasGas = storm.orders.gas[town];
            note(0);
            for (int day = 1; day <= DAYS; day++) {
                if (atLevel != GONE) {
                    runErrands(storm, town, day);
                    sinkWithoutGas(day);
                }
                if (atLevel != GONE) {
                    goOn(storm, town, day);
                }
                note(day);
            }
        }

        private void note(int day) {
            level[day] = atLevel;
            place[day] = atPlace;
            gas[day] = hasGas;
        }

        private void runErrands(Storm storm, int town, int day) {
            Orders orders = storm.orders;
            for (int k = 0; k < orders.errands; k++) {
                if (orders.who[k] != town || orders.day[k] != day) {
                    continue;
                }
                if (!orders.up[k]) {
                    atLevel = Math.max(atLevel - 1, 0);
                } else if (atLevel + 1 < storm.levels && hasGas >= storm.weight[town]) {
                    atLevel++;
                    hasGas -= storm.weight[town];
                }
            }
        }

        private void sinkWithoutGas(int day) {
            if (hasGas > 0) {
                return;
            }
            if (atLevel > 0) {
                atLevel--;
            } else {
                atLevel = GONE;
                lostDay = day;
            }
        }

        private void goOn(Storm storm, int town, int day) {
            atPlace = round(atPlace + storm.pace[atLevel]);
            if (storm.isStruck(atLevel, day)) {
                hasGas = hasGas / 2;
            }
            hasGas = Math.max(hasGas - storm.dailyLoss(town, atLevel, day), 0);
        }

        boolean floats(int day) {
            return level[day] != GONE;
        }

        boolean meets(Course other, int day) {
            return floats(day) && level[day] == other.level[day] && place[day] == other.place[day];
        }
    }

    /** The courses of all towns together. */
    private static final class Fleet {
        private final Course[] courses = new Course[MOST_TOWNS];
        private int size;

        Fleet() {
            for (int i = 0; i < MOST_TOWNS; i++) {
                courses[i] = new Course();
            }
        }

        void followAsTold(Storm storm) {
            size = storm.towns;
            for (int i = 0; i < size; i++) {
                courses[i].follow(storm, i, storm.firstLevel[i], storm.firstPlace[i]);
            }
        }

        void followYear(Storm storm, int z) {
            size = storm.towns;
            for (int i = 0; i < size; i++) {
                long q = 7919L * z + 6151L * i + 1;
                courses[i].follow(storm, i, storm.firstLevel[i], (int) (q * q % 65521 % PLACES));
            }
        }

        int allMarkets(int n) {
            int pairs = 0;
            for (int i = 0; i < size; i++) {
                pairs += marketsWith(courses[i], i, n);
            }
            // Each pair has been counted from both of its sides.
            return pairs / 2;
        }

        /** How often, to day n, a course meets those of all towns but the one that it is a course of. */
        int marketsWith(Course course, int town, int n) {
            int met = 0;
            for (int j = 0; j < size; j++) {
                if (j == town) {
                    continue;
                }
                for (int day = 1; day <= n; day++) {
                    if (course.meets(courses[j], day)) {
                        met++;
                    }
                }
            }
            return met;
        }

        int lostTowns() {
            int lost = 0;
            for (int i = 0; i < size; i++) {
                if (courses[i].lostDay != NONE) {
                    lost++;
                }
            }
            return lost;
        }
    }

    /**
     * All that a town can come to, day by day: for each level and place one long, in which bit g stands for
     * "it can be here with gas g" (61 of the 64 bits), so that all gases of a cell are moved at once.
     */
    private static final class Chase {
        private long[] now = new long[MOST_LEVELS * PLACES];
        private long[] then = new long[MOST_LEVELS * PLACES];
        private int day;
        private int gas;

        /** Whether the town can meet the prey; then day and gas tell how soon, and with how much at most. */
        boolean hunt(Storm storm, int town, Course prey) {
            empty(now);
            now[cell(storm.firstLevel[town], storm.firstPlace[town])] = 1L << storm.orders.gas[town];
            for (int d = 1; d <= HUNT_DAYS && prey.floats(d); d++) {
                day = d;
                passDay(storm, town);
                long gases = now[cell(prey.level[d], prey.place[d])];
                if (gases != 0) {
                    gas = highest(gases);
                    return true;
                }
            }
            return false;
        }

        private static int cell(int l, int x) {
            return l * PLACES + x;
        }

        private static void empty(long[] cells) {
            for (int k = 0; k < cells.length; k++) {
                cells[k] = 0;
            }
        }

        private void passDay(Storm storm, int town) {
            empty(then);
            for (int l = 0; l < storm.levels; l++) {
                for (int x = 0; x < PLACES; x++) {
                    long gases = now[cell(l, x)];
                    if (gases != 0) {
                        leave(storm, town, l, x, gases);
                    }
                }
            }
            long[] old = now;
            now = then;
            then = old;
        }

        private void leave(Storm storm, int town, int l, int x, long gases) {
            sink(storm, town, l, x, gases);
            if (l > 0) {
                sink(storm, town, l - 1, x, gases);
            }
            if (l + 1 < storm.levels) {
                sink(storm, town, l + 1, x, gases >>> storm.weight[town]);
            }
        }

        private void sink(Storm storm, int town, int l, int x, long gases) {
            arrive(storm, town, l, x, gases & ~1L);
            if (l > 0) {
                arrive(storm, town, l - 1, x, gases & 1L);
            }
        }

        private void arrive(Storm storm, int town, int l, int x, long gases) {
            long left = storm.isStruck(l, day) ? halved(gases) : gases;
            int loss = storm.dailyLoss(town, l, day);
            long without = left & ((1L << loss) - 1);
            then[cell(l, round(x + storm.pace[l]))] |= left >>> loss | (without != 0 ? 1L : 0L);
        }

        private static long halved(long gases) {
            long halves = 0;
            for (int g = 0; g <= MOST_GAS; g++) {
                if ((gases >>> g & 1) != 0) {
                    halves |= 1L << g / 2;
                }
            }
            return halves;
        }

        private static int highest(long gases) {
            int most = 0;
            for (int g = 0; g <= MOST_GAS; g++) {
                if ((gases >>> g & 1) != 0) {
                    most = g;
                }
            }
            return most;
        }
    }

    /** The chance of a level behind days of gusts, as a fraction. */
    private static final class Odds {
        private long[] now = new long[MOST_LEVELS];
        private long[] then = new long[MOST_LEVELS];
        private long above;
        private long below;

        void reckon(int levels, int from, int to, int x, int n) {
            for (int l = 0; l < levels; l++) {
                now[l] = l == from ? 1 : 0;
            }
            below = 1;
            for (int day = 1; day <= n; day++) {
                gust(levels, x);
                below *= 10;
            }
            above = now[to];
            reduce(n);
        }

        private void gust(int levels, int x) {
            for (int l = 0; l < levels; l++) {
                then[l] = 0;
            }
            for (int l = 0; l < levels; l++) {
                then[Math.min(l + 1, levels - 1)] += now[l] * x;
                then[Math.max(l - 1, 0)] += now[l] * (10 - x);
            }
            long[] old = now;
            now = then;
            then = old;
        }

        /** What stands below is ten to the n, so n twos and n fives are all that can be left out. */
        private void reduce(int n) {
            for (int k = 0; k < n; k++) {
                leaveOut(2);
                leaveOut(5);
            }
        }

        private void leaveOut(int prime) {
            if (prime > 1 && above % prime == 0 && below % prime == 0) {
                above /= prime;
                below /= prime;
            }
        }
    }

    /** What can be undone, the latest last. */
    private static final class History {
        /** Stands where a filling has the gas that was there ahead of it. */
        private static final int AN_ERRAND = -1;
        private final int[] town = new int[MOST_UNDONE];
        private final int[] gasBefore = new int[MOST_UNDONE];
        private int size;

        void clear() {
            size = 0;
        }

        void note(int i, int before) {
            if (size >= MOST_UNDONE) {
                forgetOldest();
            }
            town[size] = i;
            gasBefore[size] = before;
            size++;
        }

        private void forgetOldest() {
            for (int k = 1; k < size; k++) {
                town[k - 1] = town[k];
                gasBefore[k - 1] = gasBefore[k];
            }
            size--;
        }

        boolean takeBack(Orders orders) {
            if (size <= 0) {
                return false;
            }
            size--;
            if (gasBefore[size] == AN_ERRAND) {
                orders.dropLatestErrand();
            } else {
                orders.gas[town[size]] = gasBefore[size];
            }
            return true;
        }
    }

    /** What is kept, the last on top. */
    private static final class Shelf {
        private final Orders[] kept = new Orders[MOST_KEPT];
        private int size;

        Shelf() {
            for (int k = 0; k < MOST_KEPT; k++) {
                kept[k] = new Orders();
            }
        }

        void clear() {
            size = 0;
        }

        boolean put(Orders orders) {
            if (size >= MOST_KEPT) {
                return false;
            }
            kept[size].copy(orders);
            size++;
            return true;
        }

        boolean take(Orders orders) {
            if (size <= 0) {
                return false;
            }
            size--;
            orders.copy(kept[size]);
            return true;
        }
    }
}
