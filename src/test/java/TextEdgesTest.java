/** Promises 1 to 6, and what a text is: each sentence that names a boundary, at that boundary. */
public final class TextEdgesTest {

    private static final int NO = HungInStorm.NO, FULL = HungInStorm.FULL, NONE = HungInStorm.NONE;

    private static final String TOWN = "t0,0,0,1,0;";
    private static final int[][] OF_LEVEL = {{0, 23}, {0, 1}};
    private static final int[][] OF_TOWN = {{0, 5}, {0, 23}, {0, 60}, {1, 9}, {0, 3}};
    private static final int[][] OF_LIGHTNING = {{0, 5}, {1, 60}};
    /** As many bytes without fault as there can be: 253. */
    private static final String LONGEST = "v23,01;".repeat(6) + "t05,23,60,09,03;".repeat(6) + "m05,60,01;".repeat(8)
        + "z05,60;".repeat(5);

    public static void main(String[] args) {
        bytesAtMost();
        bytesOneByOne();
        bytesOfAnyKind();
        emptyText();
        longestText();
        lowestBytes();
        wipedText();
        wipedTextIsNotRead();
        figures();
        numbersOfLevel();
        numbersOfTown();
        numbersOfErrand();
        numbersOfLightning();
        townToldAhead();
        howManyNumbers();
        lettersTaken();
        bytesBetween();
        behindTheLast();
        howManyLevels();
        howManyTowns();
        howManyErrands();
        howManyLightnings();
        firstFault();
        levelsFromBelow();
        levelPaceAndWet();
        townsInTheirOrder();
        laidWithTheLeast();
        laidWithAllLevels();
        laidForgets();
        laidKeepsTheText();
        notLaid();
        newObject();
        callsUpTo512();
        Check.end();
    }

    private static HungInStorm written(String text) {
        HungInStorm x = new HungInStorm();
        Check.write(x, text);
        return x;
    }

    private static void dueFault(String text, int want) {
        Check.due("fault() of " + text, written(text).fault(), want);
    }

    private static void bytesAtMost() {
        Check.sentence("A TEXT is bytes (300 at most)");
        for (int n = 1; n <= 8; n++) {
            for (int length = 290; length <= 300; length++) {
                HungInStorm x = written("x".repeat(length));
                boolean fits = length + n <= 300;
                Check.due("write(" + n + ", ..) at " + length, x.write(n, 0), fits ? length + n : FULL);
                Check.due("count(6)", x.count(6), fits ? length + n : length);
            }
        }
    }

    private static void bytesOneByOne() {
        Check.sentence("A TEXT is bytes (300 at most)");
        HungInStorm x = new HungInStorm();
        for (int k = 1; k <= 300; k++) {
            Check.due("write(1, ..)", x.write(1, 'v'), k);
        }
        Check.due("write(1, ..) at 300", x.write(1, 'v'), FULL);
        Check.due("write(8, ..) at 300", x.write(8, 'v'), FULL);
        Check.due("wipe()", x.wipe(), 300);
        Check.due("write(8, ..) behind wipe()", x.write(8, 'v'), 8);
    }

    private static void bytesOfAnyKind() {
        Check.sentence("A TEXT is bytes");
        for (int b = 0; b <= 255; b++) {
            HungInStorm x = written("v2,0;" + (char) b);
            Check.due("fault() with byte " + b, x.fault(), 5);
            Check.due("count(6)", x.count(6), 6);
        }
    }

    private static void emptyText() {
        Check.sentence("THE TEXT is empty");
        HungInStorm x = new HungInStorm();
        Check.due("count(6)", x.count(6), 0);
        Check.due("fault()", x.fault(), NONE);
        Check.due("lay()", x.lay(), NO);
        Check.due("wipe()", x.wipe(), 0);
        Check.due("count(6)", x.count(6), 0);
    }

    private static void longestText() {
        Check.sentence("A TEXT is bytes (300 at most), ITEMS one behind the other");
        HungInStorm x = written(LONGEST);
        Check.due("fault()", x.fault(), NONE);
        Check.due("lay()", x.lay(), 6);
        int[] counts = {6, 6, 8, 5, 0, 0, 253};
        for (int what = 0; what < counts.length; what++) {
            Check.due("count(" + what + ")", x.count(what), counts[what]);
        }
        Check.writeMore(x, 253, "v1,0;".repeat(9) + "v1");
        Check.due("count(6)", x.count(6), 300);
        Check.due("fault() at 300 bytes", x.fault(), 253);
        Check.due("lay() at 300 bytes", x.lay(), NO);
        Check.due("count(2)", x.count(2), 8);
    }

    private static void lowestBytes() {
        Check.sentence("The lowest n bytes (1 to 8) of v, the highest of these first, come behind THE TEXT");
        String bytes = "v2,0;v3,";
        for (int n = 1; n <= 8; n++) {
            HungInStorm x = new HungInStorm();
            long v = Check.packed("zzzzzzzz".substring(n) + bytes.substring(0, n));
            Check.due("write(" + n + ", ..)", x.write(n, v), n);
            Check.writeMore(x, n, bytes.substring(n) + "1;" + "t1,0,0,1,0;");
            Check.due("lay() behind write(" + n + ", ..)", x.lay(), 1);
            Check.due("level(0, 0)", x.level(0, 0), 2);
            Check.due("level(1, 0)", x.level(1, 0), 3);
        }
        HungInStorm y = new HungInStorm();
        Check.due("write(8, least)", y.write(8, Long.MIN_VALUE), 8);
        Check.due("write(8, most)", y.write(8, Long.MAX_VALUE), 16);
        Check.due("write(1, -1)", y.write(1, -1), 17);
        Check.due("fault()", y.fault(), 0);
    }

    private static void wipedText() {
        Check.sentence("THE TEXT is empty: how long it was");
        int[] lengths = {0, 1, 7, 8, 9, 299, 300};
        for (int length : lengths) {
            HungInStorm x = written("v".repeat(length));
            Check.due("wipe() of " + length, x.wipe(), length);
            Check.due("wipe() once more", x.wipe(), 0);
            Check.due("fault()", x.fault(), NONE);
            Check.due("write(5, ..)", x.write(5, Check.packed("v1,0;")), 5);
            Check.due("fault()", x.fault(), NONE);
        }
    }

    private static void wipedTextIsNotRead() {
        Check.sentence("THE TEXT is empty: what was there ahead of it does not count");
        String text = "v2,0;t0,0,9,1,0;";
        for (int length = 0; length <= text.length(); length++) {
            HungInStorm x = written(text + text);
            x.wipe();
            Check.write(x, text.substring(0, length));
            Check.due("fault() of " + length, x.fault(), length == 0 || length == 5 || length == 16 ? NONE : length < 5 ? 0 : 5);
            Check.due("lay() of " + length, x.lay(), length == 16 ? 1 : NO);
        }
    }

    private static void figures() {
        Check.sentence("numbers (one or two figures)");
        dueFault("v,0;", 0);
        dueFault("v2,0;", NONE);
        dueFault("v02,0;", NONE);
        dueFault("v22,0;", NONE);
        dueFault("v002,0;", 0);
        dueFault("v022,0;", 0);
        dueFault("v2,;", 0);
        dueFault("v2,1;", NONE);
        dueFault("v2,01;", NONE);
        dueFault("v2,001;", 0);
    }

    private static String figuresOf(int[][] bounds, int p, String number) {
        StringBuilder s = new StringBuilder();
        for (int q = 0; q < bounds.length; q++) {
            s.append(q == 0 ? "" : ",").append(q == p ? number : String.valueOf(bounds[q][1]));
        }
        return s.append(";").toString();
    }

    /** Each number from 0 to 99 at each place of an item: it is taken from the least to the most. */
    private static void dueNumbers(String ahead, char letter, int[][] bounds) {
        for (int p = 0; p < bounds.length; p++) {
            for (int number = 0; number <= 99; number++) {
                boolean taken = number >= bounds[p][0] && number <= bounds[p][1];
                String item = letter + figuresOf(bounds, p, String.valueOf(number));
                dueFault(ahead + item, taken ? NONE : ahead.length());
                item = letter + figuresOf(bounds, p, (number < 10 ? "0" : "") + number);
                dueFault(ahead + item, taken ? NONE : ahead.length());
            }
        }
    }

    private static void numbersOfLevel() {
        Check.sentence("vP,W a LEVEL of PACE P (0 to 23), dry (W 0) or wet (1)");
        dueNumbers("", 'v', OF_LEVEL);
        dueNumbers("v0,0;t0,0,0,1,0;", 'v', OF_LEVEL);
    }

    private static void numbersOfTown() {
        Check.sentence("tL,X,G,M,K a TOWN at LEVEL L (0 to 5), place X (0 to 23), with GAS G (0 to 60), of weight M (1 to 9),"
            + " of KIND K (0 PLAIN, 1 TORN, 2 PATCHED, 3 LIGHT)");
        dueNumbers("", 't', OF_TOWN);
        dueNumbers("v0,0;", 't', OF_TOWN);
    }

    private static void numbersOfErrand() {
        Check.sentence("mT,D,U an ERRAND of TOWN T (told ahead) on day D (1 to 60): down (U 0) or up (1)");
        for (int towns = 1; towns <= 6; towns++) {
            int[][] bounds = {{0, towns - 1}, {1, 60}, {0, 1}};
            dueNumbers(TOWN.repeat(towns), 'm', bounds);
        }
    }

    private static void numbersOfLightning() {
        Check.sentence("zL,D LIGHTNING at LEVEL L (0 to 5) on day D (1 to 60)");
        dueNumbers("", 'z', OF_LIGHTNING);
        dueNumbers("v0,0;", 'z', OF_LIGHTNING);
    }

    private static void townToldAhead() {
        Check.sentence("an ERRAND of TOWN T (told ahead)");
        dueFault("m0,1,0;", 0);
        dueFault("v0,0;m0,1,0;t0,0,0,1,0;", 5);
        dueFault(TOWN + "m0,1,0;" + TOWN + "m1,1,0;", NONE);
        dueFault(TOWN + "m1,1,0;" + TOWN, 11);
        dueFault(TOWN.repeat(6) + "m5,1,0;", NONE);
        dueFault(TOWN.repeat(6) + "m6,1,0;", 66);
    }

    /** The numbers of each letter, one less and one more, and none. */
    private static void howManyNumbers() {
        Check.sentence("each a letter, numbers parted by , and ;");
        char[] letters = {'v', 't', 'm', 'z'};
        int[] numbers = {2, 5, 3, 2};
        for (int k = 0; k < letters.length; k++) {
            for (int n = 1; n <= 7; n++) {
                String item = letters[k] + (k == 2 ? "0,1,1,0,0,0,0" : "0,1,1,1,1,1,1").substring(0, 2 * n - 1) + ";";
                dueFault(TOWN + item, n == numbers[k] ? NONE : 11);
            }
            dueFault(TOWN + letters[k] + ";", 11);
            dueFault(TOWN + letters[k], 11);
        }
        // One less, behind one with all: what that one had does not count for it.
        dueFault("v1,1;v1;", 5);
        dueFault("z0,1;z0;", 5);
        dueFault(TOWN + "m0,1,1;m0,1;", 18);
        dueFault("t0,1,1,1,1;t0,1,1,1;", 11);
        dueFault("t0,1,1,1,1;v1;", 11);
        dueFault("t0,1,1,1,1;z0;", 11);
        dueFault("t0,1,1,1,1;m0,1;", 11);
    }

    private static void lettersTaken() {
        Check.sentence("ITEMS one behind the other, each a letter");
        for (int b = 0; b <= 255; b++) {
            dueFault(TOWN + (char) b + "0,1;", b == 'v' || b == 'z' ? NONE : 11);
            dueFault(TOWN + (char) b + "0,1,1;", b == 'm' ? NONE : 11);
            dueFault(TOWN + (char) b + "0,1,1,1,1;", b == 't' ? NONE : 11);
        }
    }

    /** Each byte at each place of an item: where a figure, a , or a ; stands none else can stand. */
    private static void bytesBetween() {
        Check.sentence("numbers (one or two figures) parted by , and ;");
        for (int b = 0; b <= 255; b++) {
            char c = (char) b;
            boolean figure = b >= '0' && b <= '9';
            dueFault("v1,0;v" + c + ",0;", figure ? NONE : 5);
            dueFault("v1,0;v1" + c + ",0;", figure ? NONE : 5);
            dueFault("v1,0;v2" + c + "0;", b == ',' ? NONE : 5);
            dueFault("v1,0;v2," + c + ";", b == '0' || b == '1' ? NONE : 5);
            dueFault("v1,0;v2,0" + c, b == ';' ? NONE : 5);
            dueFault("v1,0;v2,0;" + c, 10);
            dueFault(c + "v1,0;", 0);
        }
    }

    /** Cut behind each byte, a text is without fault only between two items. */
    private static void behindTheLast() {
        Check.sentence("and ; (behind the last one, too)");
        String text = "v23,1;t5,23,60,9,3;m0,60,1;z5,60;";
        int begun = 0;
        for (int length = 1; length <= text.length(); length++) {
            boolean whole = text.charAt(length - 1) == ';';
            dueFault(text.substring(0, length), whole ? NONE : begun);
            begun = whole ? length : begun;
        }
        Check.due("items looked at", begun, text.length());
    }

    private static void dueAtMost(String ahead, String item, int most) {
        for (int n = 1; n <= most; n++) {
            dueFault(ahead + item.repeat(n), NONE);
        }
        int end = ahead.length() + most * item.length();
        dueFault(ahead + item.repeat(most + 1), end);
        dueFault(ahead + item.repeat(most + 2), end);
    }

    private static void howManyLevels() {
        Check.sentence("a LEVEL [..]; 6 at most");
        dueAtMost("", "v0,0;", 6);
        dueAtMost("t5,0,0,1,0;z5,1;", "v23,1;", 6);
        HungInStorm x = Check.laid("v0,0;v1,0;v2,0;v3,0;v4,0;v5,0;t5,0,0,1,0;");
        Check.due("count(0)", x.count(0), 6);
        Check.due("level(5, 0)", x.level(5, 0), 5);
    }

    private static void howManyTowns() {
        Check.sentence("a TOWN [..]; 6 at most");
        dueAtMost("", TOWN, 6);
        dueAtMost("v0,0;", "t5,23,60,9,3;", 6);
        HungInStorm x = Check.laid("v0,0;t0,0,0,1,0;t0,1,0,1,0;t0,2,0,1,0;t0,3,0,1,0;t0,4,0,1,0;t0,5,0,1,0;");
        Check.due("count(1)", x.count(1), 6);
        Check.due("town(5, 0, 1)", x.town(5, 0, 1), 5);
    }

    private static void howManyErrands() {
        Check.sentence("an ERRAND [..]; 8 at most");
        dueAtMost(TOWN, "m0,1,0;", 8);
        dueAtMost(TOWN.repeat(6), "m5,60,1;", 8);
        HungInStorm x = Check.laid("v0,0;" + TOWN + "m0,1,1;".repeat(8));
        Check.due("count(2)", x.count(2), 8);
    }

    private static void howManyLightnings() {
        Check.sentence("LIGHTNING [..]; 5 at most");
        dueAtMost("", "z0,1;", 5);
        dueAtMost("v0,0;" + TOWN, "z5,60;", 5);
        HungInStorm x = Check.laid("v0,0;" + TOWN + "z0,1;".repeat(5));
        Check.due("count(3)", x.count(3), 5);
    }

    private static void firstFault() {
        Check.sentence("FAULT: the place (from 0 on) of the first byte of the first ITEM that is not so");
        dueFault("v24,0;v24,0;", 0);
        dueFault("v2,0;v24,0;v25,0;", 5);
        dueFault("v2,0;z0,1;m0,1,1;x", 10);
        dueFault("v2,0;v0,1;t0,0,0,1,0;t0,0,0,0,0;", 21);
        // The last one that can be: behind all that a text can hold.
        dueFault(LONGEST + "z", 253);
        dueFault(LONGEST + "v1,0;", 253);
        dueFault(LONGEST.substring(0, 252), 246);
    }

    private static void levelsFromBelow() {
        Check.sentence("0, 1, .. from below");
        HungInStorm x = Check.laid("v10,0;t2,0,0,1,2;v11,1;v12,0;");
        for (int l = 0; l < 3; l++) {
            Check.due("level(" + l + ", 0)", x.level(l, 0), 10 + l);
            Check.due("level(" + l + ", 1)", x.level(l, 1), l % 2);
        }
        Check.dueTown(x, 0, 1, 1, 11, 0);
        Check.dueTown(x, 0, 2, 0, 21, 0);
        Check.due("lost(0)", x.lost(0), 3);
    }

    private static void levelPaceAndWet() {
        Check.sentence("Of a LEVEL: PACE (what = 0), 1 if it is wet (1)");
        for (int pace = 0; pace <= 23; pace++) {
            for (int wet = 0; wet <= 1; wet++) {
                HungInStorm x = Check.laid(("v" + pace + "," + wet + ";v" + (23 - pace) + "," + (1 - wet) + ";").repeat(3) + TOWN);
                for (int l = 0; l <= 5; l++) {
                    Check.due("level(" + l + ", 0)", x.level(l, 0), l % 2 == 0 ? pace : 23 - pace);
                    Check.due("level(" + l + ", 1)", x.level(l, 1), l % 2 == 0 ? wet : 1 - wet);
                }
            }
        }
    }

    private static void townsInTheirOrder() {
        Check.sentence("a TOWN [..]; 6 at most, 0, 1, ..");
        HungInStorm x = Check.laid("t0,3,30,1,0;v1,0;t1,4,40,2,1;v2,0;m1,1,0;t1,5,50,3,2;");
        Check.dueTown(x, 0, 0, 0, 3, 30);
        Check.dueTown(x, 1, 0, 1, 4, 40);
        Check.dueTown(x, 2, 0, 1, 5, 50);
        Check.dueTown(x, 1, 1, 0, 5, 38);
        Check.dueTown(x, 2, 1, 1, 7, 49);
    }

    private static void laidWithTheLeast() {
        Check.sentence("LAID is a TEXT without FAULT, of a LEVEL and a TOWN at least");
        Check.due("lay() of neither", written("").lay(), NO);
        Check.due("lay() of lightning", written("z0,1;").lay(), NO);
        Check.due("lay() of a level", written("v0,0;").lay(), NO);
        Check.due("lay() of six levels", written("v0,0;".repeat(6)).lay(), NO);
        Check.due("lay() of a town", written("t0,0,0,1,0;").lay(), NO);
        Check.due("lay() of six towns", written(TOWN.repeat(6)).lay(), NO);
        Check.due("lay() of both", written("v0,0;t0,0,0,1,0;").lay(), 1);
        Check.due("lay() of both", written("t0,0,0,1,0;v0,0;").lay(), 1);
    }

    private static void laidWithAllLevels() {
        Check.sentence("all L of which there are");
        for (int levels = 1; levels <= 6; levels++) {
            for (int l = 0; l <= 5; l++) {
                String storm = "v0,0;".repeat(levels);
                int want = l < levels ? 1 : NO;
                Check.due("lay(), town at " + l + " of " + levels, written(storm + "t" + l + ",0,0,1,0;").lay(), want);
                Check.due("lay(), lightning at " + l, written(storm + TOWN + "z" + l + ",1;").lay(), want);
                int wantOfTwo = l < levels ? 2 : NO;
                Check.due("lay(), last town at " + l, written(storm + TOWN + "t" + l + ",0,0,1,0;").lay(), wantOfTwo);
                Check.due("lay(), first town at " + l, written(storm + "t" + l + ",0,0,1,0;" + TOWN).lay(), wantOfTwo);
                Check.due("lay(), last lightning at " + l, written(storm + TOWN + "z0,1;z" + l + ",1;").lay(), want);
            }
        }
    }

    private static void laidForgets() {
        Check.sentence("LAID: how many TOWNS; nothing UNDONE, KEPT");
        for (int towns = 1; towns <= 6; towns++) {
            HungInStorm x = written("v0,0;" + TOWN.repeat(towns));
            for (int k = 1; k <= 8; k++) {
                x.errand(0, k, true);
            }
            x.keep();
            x.keep();
            Check.due("lay()", x.lay(), towns);
            Check.due("count(4)", x.count(4), 0);
            Check.due("count(5)", x.count(5), 0);
            Check.due("undo()", x.undo(), NO);
            Check.due("back()", x.back(), NO);
            Check.due("count(2)", x.count(2), 0);
            Check.due("keep()", x.keep(), 1);
        }
    }

    private static void laidKeepsTheText() {
        Check.sentence("(THE TEXT stays)");
        HungInStorm x = written("v7,0;t0,0,9,1,0;");
        Check.due("lay()", x.lay(), 1);
        Check.due("count(6)", x.count(6), 16);
        Check.dueTown(x, 0, 1, 0, 7, 8);
        x.fill(0, 5);
        Check.dueTown(x, 0, 1, 0, 7, 4);
        Check.due("lay() once more", x.lay(), 1);
        Check.dueTown(x, 0, 1, 0, 7, 8);
        Check.writeMore(x, 16, "t0,1,9,1,0;");
        Check.due("lay() with more behind it", x.lay(), 2);
        Check.due("wipe()", x.wipe(), 27);
        Check.due("level(0, 0) behind wipe()", x.level(0, 0), 7);
        Check.dueTown(x, 1, 0, 0, 1, 9);
    }

    private static HungInStorm inUse(String text) {
        HungInStorm x = Check.laid("v9,1;v8,0;t0,7,6,5,3;t1,2,60,4,2;t1,2,11,9,0;m2,2,0;z1,1;");
        x.keep();
        x.fill(1, 30);
        x.errand(1, 1, false);
        x.keep();
        x.wipe();
        Check.write(x, text);
        return x;
    }

    private static void notLaid() {
        Check.sentence("LAID is a TEXT without FAULT, [..] (NO else) [..] nothing changes then");
        String[] texts = {"", "v0,0;", TOWN, "v0,0;t1,0,0,1,0;", "v0,0;" + TOWN + "z1,1;", "v0,0;" + TOWN + "z",
            "v3,1;v4,1;v5,1;t2,1,1,1,1;t2,1,1,1,1;t0,0,9,1,0;m2,1,1;m0,1,1;z2,1;z1,1;v24,0;",
            "v3,1;v4,1;v5,1;t2,1,1,1,1;t2,1,1,1,1;t0,0,9,1,0;m2,1,1;m0,1,1;z2,1;z3,1;", LONGEST + "v"};
        for (String text : texts) {
            NoTrace.due("lay() of " + text, () -> inUse(text), HungInStorm::lay, NO);
            Check.dueThat("fault() is NONE or tells a place", inUse(text).fault() == NONE || inUse(text).fault() >= 0);
        }
        // Looking for a fault lays nothing either.
        NoTrace.due("fault()", () -> inUse("v3,1;t0,1,1,1,1;"), HungInStorm::fault, NONE);
        NoTrace.due("fault()", () -> inUse("v3,1;t0,1,1,1,1;v"), HungInStorm::fault, 16);
    }

    private static void newObject() {
        Check.sentence("(at first v2,0;v5,1;t0,0,20,2,0;t1,6,20,3,0;) [..] THE TEXT is empty");
        HungInStorm x = new HungInStorm();
        HungInStorm laid = Check.laid("v2,0;v5,1;t0,0,20,2,0;t1,6,20,3,0;");
        for (int i = 0; i < 2; i++) {
            for (int t = 0; t <= 60; t++) {
                Check.dueTown(x, i, t, laid.town(i, t, 0), laid.town(i, t, 1), laid.town(i, t, 2));
            }
        }
        // Weights 2 and 3, kinds plain and plain: by an errand up of each, at a wet level.
        x.fill(0, 2);
        x.fill(1, 3);
        x.errand(0, 1, true);
        x.errand(1, 1, false);
        x.errand(1, 2, true);
        Check.dueTown(x, 0, 1, 0, 2, 0);
        Check.dueTown(x, 1, 1, 0, 8, 2);
        Check.dueTown(x, 1, 2, 0, 10, 1);
        int[] counts = {2, 2, 3, 0, 5, 0, 0};
        for (int what = 0; what < counts.length; what++) {
            Check.due("count(" + what + ")", x.count(what), counts[what]);
        }
    }

    private static void callsUpTo512() {
        Check.sentence("An object is used for at most 512 calls");
        HungInStorm x = new HungInStorm();
        for (int k = 1; k <= 510; k++) {
            x.fill(k % 2, k % 61);
        }
        Check.due("call 511: count(4)", x.count(4), 8);
        Check.due("call 512: undo()", x.undo(), 7);
        HungInStorm y = new HungInStorm();
        for (int k = 1; k <= 510; k++) {
            y.write(8, 0);
        }
        Check.due("call 511: wipe()", y.wipe(), 296);
        Check.due("call 512: write(1, 0)", y.write(1, 0), 1);
    }
}
