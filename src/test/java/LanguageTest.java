import java.io.IOException;
import java.lang.management.ManagementFactory;
import java.lang.reflect.Constructor;
import java.lang.reflect.Field;
import java.lang.reflect.Method;
import java.lang.reflect.Modifier;
import java.nio.file.Files;
import java.nio.file.Path;
import java.util.Arrays;
import java.util.Set;
import java.util.TreeSet;
import java.util.regex.Matcher;
import java.util.regex.Pattern;

/** The face, the words that LANGUAGE.md leaves out, and the room that calls take. */
public final class LanguageTest {
    private static final String FACE = "day1 rule2 stake4 work2 nick3 give2 view4 sell5 dig4 withdraw1 fact2 owner4 "
            + "claim4 of4 share4 feet3 contested3 dug3 due3 changed3 many1 keep0 back0";
    private static final String[] WORDS_LEFT_OUT = {"throw", "throws", "try", "catch", "synchronized", "assert",
        "import", "package", "native", "volatile", "Exception", "Object", "hashCode", "System\\.(?!arraycopy)",
        "->", "::", "\\w+Exact"};

    private static int wrong = 0;

    private static void must(boolean holds, String what) {
        if (!holds) {
            wrong++;
            System.out.println("not so: " + what);
        }
    }

    public static void main(String[] args) throws IOException {
        face();
        words();
        room();
        System.out.println(wrong == 0 ? "language: as it must be" : "language: " + wrong + " wrong");
        if (wrong != 0) {
            System.exit(1);
        }
    }

    private static void face() {
        Class<?> c = VeinCourt.class;
        must(Modifier.isPublic(c.getModifiers()) && Modifier.isFinal(c.getModifiers()), "the class is public, final");
        Set<String> open = new TreeSet<>();
        Set<String> openNames = new TreeSet<>();
        for (Method m : c.getDeclaredMethods()) {
            if (!Modifier.isPrivate(m.getModifiers())) {
                open.add(m.getName() + m.getParameterCount());
                openNames.add(m.getName());
                must(m.getReturnType() == int.class && !Modifier.isStatic(m.getModifiers()), m + " answers an int");
                must(Arrays.stream(m.getParameterTypes()).allMatch(p -> p == int.class), m + " takes ints");
            }
        }
        must(open.equals(new TreeSet<>(Arrays.asList(FACE.split(" ")))), "the methods are the document's: " + open);
        for (Class<?> k : allClasses(c)) {
            for (Method m : k.getDeclaredMethods()) {
                boolean openHere = k == c && !Modifier.isPrivate(m.getModifiers());
                must(openHere || !openNames.contains(m.getName()), m + " bears a public one's name");
                must(m.getParameterCount() <= 7, m + " takes at most seven");
            }
        }
        Constructor<?>[] made = c.getDeclaredConstructors();
        must(made.length == 1 && made[0].getParameterCount() == 0, "one constructor, without arguments");
        fields(c);
    }

    private static void fields(Class<?> c) {
        Set<String> open = new TreeSet<>();
        for (Field f : c.getDeclaredFields()) {
            if (!Modifier.isPrivate(f.getModifiers())) {
                open.add(f.getName());
            }
            must(!Modifier.isStatic(f.getModifiers()) || Modifier.isFinal(f.getModifiers()), f + " is final");
        }
        must(open.equals(Set.of("NUMBER", "FULL", "KIND", "NONE", "TWICE")), "the constants are the document's: " + open);
        for (Class<?> k : c.getDeclaredClasses()) {
            must(Modifier.isStatic(k.getModifiers()), k + " is static");
        }
    }

    private static Set<Class<?>> allClasses(Class<?> c) {
        Set<Class<?>> all = new java.util.LinkedHashSet<>(Arrays.asList(c.getDeclaredClasses()));
        all.add(c);
        return all;
    }

    private static void words() throws IOException {
        String source = Files.readString(Path.of("src/main/java/VeinCourt.java"));
        must(source.chars().allMatch(ch -> ch < 128), "the file has signs up to 127 alone");
        String bare = source.replaceAll("(?s)/\\*.*?\\*/", "").replaceAll("//[^\n]*", "");
        for (String word : WORDS_LEFT_OUT) {
            String whole = Character.isLetter(word.charAt(0)) ? "\\b" + word : word;
            Matcher found = Pattern.compile(Character.isLetter(word.charAt(word.length() - 1)) ? whole + "\\b" : whole)
                    .matcher(bare);
            must(!found.find(), "'" + word + "' stands in the source");
        }
    }

    /** A call that makes objects would fill the one room that all calls of a run live in. */
    private static void room() {
        var threads = (com.sun.management.ThreadMXBean) ManagementFactory.getThreadMXBean();
        long self = Thread.currentThread().getId();
        useAll(20);
        long start = threads.getThreadAllocatedBytes(self);
        VeinCourt x = new VeinCourt();
        long made = threads.getThreadAllocatedBytes(self);
        useAll(x, 20);
        long used = threads.getThreadAllocatedBytes(self);
        must(made - start < 20_000, "an object takes less than 20,000 bytes: " + (made - start));
        must(used - made < 1_000, "its calls make nothing: " + (used - made));
    }

    private static void useAll(int rounds) {
        useAll(new VeinCourt(), rounds);
    }

    private static void useAll(VeinCourt x, int rounds) {
        for (int i = 0; i < rounds; i++) {
            x.day(3);
            x.rule(1, 2);
            x.stake(i, 0, i, i % 10);
            x.work(i, 0);
            x.nick(i, 0, 3);
            x.view(i, 0, 1, 40);
            x.sell(i, 0, 0, 1, 1);
            x.dig(i, 0, 20, 5);
            x.withdraw(i);
            x.keep();
            x.back();
            x.give(i, 7);
            x.fact(0, 0);
            x.owner(0, 3, i, i);
            x.claim(0, 3, i, i);
            x.of(0, 6, i, i);
            x.share(0, 0, i, i);
            x.feet(0, i, i);
            x.contested(0, i, i);
            x.dug(0, i, i);
            x.due(0, i, i);
            x.changed(i, i, 999);
            x.many(2);
        }
    }
}
