import java.lang.reflect.Constructor;
import java.lang.reflect.Field;
import java.lang.reflect.Method;
import java.lang.reflect.Modifier;
import java.nio.file.Files;
import java.nio.file.Path;
import java.util.Arrays;
import java.util.Set;
import java.util.TreeSet;
import java.util.regex.Matcher;
import java.util.regex.Pattern;

/** The face of the class, the rules of LANGUAGE.md that a text can be searched for, and that calls make no objects. */
public final class FaceTest {

    private static final String[] CALLS = {
        "int write(int, long)", "int wipe()", "int fault()", "int lay()", "int level(int, int)",
        "int town(int, int, int)", "int lost(int)", "int meet(int, int)", "int markets(int)",
        "int stay(int, int, int)", "int catches(int, int, int)", "int keeps(int, int, int)",
        "int trades(int, int, int)", "int dropped(int, int, int, int)", "int seen(int, int, int)",
        "int seenTwice(int, int, int, int, int)", "long gusts(int, int, int, int, int)",
        "int errand(int, int, boolean)", "int fill(int, int)", "int undo()", "int year(int, int)",
        "int keep()", "int back()", "int count(int)",
    };

    public static void main(String[] args) throws Exception {
        face();
        insideClasses();
        noForbiddenWords();
        callsMakeNothing();
        Check.end();
    }

    private static void face() {
        int modifiers = HungInStorm.class.getModifiers();
        Check.dueThat("public and final", Modifier.isPublic(modifiers) && Modifier.isFinal(modifiers));
        Set<String> methods = new TreeSet<>();
        for (Method m : HungInStorm.class.getDeclaredMethods()) {
            if (!Modifier.isPrivate(m.getModifiers())) {
                Check.dueThat(m + " is public and no more", m.getModifiers() == Modifier.PUBLIC || m.isSynthetic());
                methods.add(told(m));
            }
        }
        Check.dueThat("the methods: " + methods, methods.equals(new TreeSet<>(Arrays.asList(CALLS))));
        Set<String> fields = new TreeSet<>();
        for (Field f : HungInStorm.class.getDeclaredFields()) {
            if (!Modifier.isPrivate(f.getModifiers())) {
                Check.dueThat(f + " is a constant", f.getType() == int.class
                    && f.getModifiers() == (Modifier.PUBLIC | Modifier.STATIC | Modifier.FINAL));
                fields.add(f.getName());
            }
        }
        Check.dueThat("the constants: " + fields, fields.equals(Set.of("BAD", "NO", "FULL", "NONE")));
        Check.due("BAD", HungInStorm.BAD, -1);
        Check.due("NO", HungInStorm.NO, -2);
        Check.due("FULL", HungInStorm.FULL, -3);
        Check.due("NONE", HungInStorm.NONE, -4);
        Constructor<?>[] made = HungInStorm.class.getDeclaredConstructors();
        Check.due("constructors", made.length, 1);
        Check.dueThat("a public one without arguments",
            made[0].getParameterCount() == 0 && Modifier.isPublic(made[0].getModifiers()));
    }

    private static String told(Method m) {
        StringBuilder s = new StringBuilder(m.getReturnType().getName()).append(" ").append(m.getName()).append("(");
        for (Class<?> c : m.getParameterTypes()) {
            s.append(s.charAt(s.length() - 1) == '(' ? "" : ", ").append(c.getName());
        }
        return s.append(")").toString();
    }

    private static void insideClasses() {
        Class<?>[] inside = HungInStorm.class.getDeclaredClasses();
        Check.dueThat("some twelve classes at most", inside.length <= 12);
        Set<String> publicNames = new TreeSet<>();
        for (String call : CALLS) {
            publicNames.add(call.substring(call.indexOf(' ') + 1, call.indexOf('(')));
        }
        for (Class<?> c : inside) {
            Check.dueThat(c + " is private and static",
                Modifier.isPrivate(c.getModifiers()) && Modifier.isStatic(c.getModifiers()));
            int fields = 0;
            for (Field f : c.getDeclaredFields()) {
                fields += Modifier.isStatic(f.getModifiers()) ? 0 : 1;
            }
            Check.dueThat(c + " has some twenty fields at most", fields <= 20);
            for (Method m : c.getDeclaredMethods()) {
                Check.dueThat(m + " bears no name of a public call", !publicNames.contains(m.getName()));
                Check.dueThat(m + " takes seven at most", m.getParameterCount() <= 7);
            }
        }
    }

    private static void noForbiddenWords() throws Exception {
        String source = Files.readString(Path.of("src/main/java/HungInStorm.java"));
        String code = source.replaceAll("(?s)/\\*.*?\\*/", "").replaceAll("//[^\n]*", "").replaceAll("\"[^\"]*\"", "\"\"");
        String words = "\\b(import|package|throw|throws|try|catch|synchronized|assert|native|volatile|transient"
            + "|System|Object|hashCode|toString|equals|protected|double|float)\\b|->|::|\"\"\\s*\\+|\\+\\s*\"\"|@";
        Matcher found = Pattern.compile(words).matcher(code);
        Check.dueThat("nothing that LANGUAGE.md leaves out", !found.find());
        Check.dueThat("signs of 1 to 127 alone", source.chars().allMatch(c -> c > 0 && c < 128));
        // All that is made is made in fields' initialisers and in the constructors of Fleet and Shelf.
        Matcher made = Pattern.compile("(?m)^(?!.*(private|courses\\[i\\] =|kept\\[k\\] =)).*\\bnew\\b.*$").matcher(code);
        Check.dueThat("nothing is made in a call", !made.find());
    }

    private static long made() {
        return ((com.sun.management.ThreadMXBean) java.lang.management.ManagementFactory.getThreadMXBean())
            .getThreadAllocatedBytes(Thread.currentThread().getId());
    }

    private static long callAll(HungInStorm x, int k) {
        long sum = x.write(8, k) + x.wipe() + x.fault() + x.lay() + x.level(0, 0) + x.town(0, 60, 2) + x.lost(0);
        sum += x.meet(0, 1) + x.markets(60) + x.stay(0, 1, 0) + x.catches(0, 1, 0);
        sum += x.keeps(0, 60, 0) + x.trades(0, 60, 0);
        sum += x.dropped(1, 0, 60, 1) + x.seen(0, 1, 2) + x.seenTwice(0, 1, 2, 3, 4) + x.gusts(0, 1, 5, 9, 0);
        sum += x.errand(0, 1, true) + x.fill(0, k % 61) + x.year(k, 0) + x.keep() + x.back() + x.undo() + x.count(0);
        return sum;
    }

    private static void callsMakeNothing() {
        HungInStorm x = new HungInStorm();
        made();
        callAll(x, 0);
        long before = made();
        for (int k = 0; k < 20; k++) {
            callAll(x, k);
        }
        long bytes = made() - before;
        Check.dueThat("480 calls make next to nothing: " + bytes + " bytes", bytes < 20000);
        before = made();
        new HungInStorm();
        bytes = made() - before;
        Check.dueThat("an object is small: " + bytes + " bytes", bytes < 30000);
    }
}
