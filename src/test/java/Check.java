/** What the tests share: an answer that is due, and texts written byte by byte. */
final class Check {
    private static int checked = 0;
    private static int wrong = 0;
    private static String sentence = "";

    private Check() {
    }

    /** The document's sentence that the answers behind it are asked for; it is told with each wrong one. */
    static void sentence(String words) {
        sentence = "\"" + words + "\": ";
    }

    static void due(String call, long got, long want) {
        checked++;
        if (got != want) {
            wrong++;
            System.out.println(sentence + call + " answered " + got + ", due is " + want);
        }
    }

    static void dueThat(String what, boolean holds) {
        checked++;
        if (!holds) {
            wrong++;
            System.out.println(sentence + "not so: " + what);
        }
    }

    /** The bytes of a part of a text as the number that write takes. */
    static long packed(String part) {
        long v = 0;
        for (int k = 0; k < part.length(); k++) {
            v = v << 8 | part.charAt(k) & 255;
        }
        return v;
    }

    /** Writes a text into an object whose text is empty. */
    static void write(HungInStorm x, String text) {
        writeMore(x, 0, text);
    }

    /** Writes more behind the bytes that are there. */
    static void writeMore(HungInStorm x, int bytes, String more) {
        for (int k = 0; k < more.length(); k += 8) {
            String part = more.substring(k, Math.min(k + 8, more.length()));
            due("write(\"" + part + "\")", x.write(part.length(), packed(part)), bytes + k + part.length());
        }
    }

    /** A new object in which the text is laid. */
    static HungInStorm laid(String text) {
        HungInStorm x = new HungInStorm();
        write(x, text);
        dueThat("it can be laid: " + text, x.lay() > 0);
        return x;
    }

    /** Level, place and gas of a town behind a day. */
    static void dueTown(HungInStorm x, int i, int t, int level, int place, int gas) {
        due("town(" + i + ", " + t + ", 0)", x.town(i, t, 0), level);
        due("town(" + i + ", " + t + ", 1)", x.town(i, t, 1), place);
        due("town(" + i + ", " + t + ", 2)", x.town(i, t, 2), gas);
    }

    static void end() {
        System.out.println(checked + " answers looked at, " + wrong + " wrong");
        if (wrong != 0 || checked == 0) {
            System.exit(1);
        }
    }
}
