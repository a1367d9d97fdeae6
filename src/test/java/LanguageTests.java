import java.lang.reflect.Constructor;
import java.lang.reflect.Field;
import java.lang.reflect.Member;
import java.lang.reflect.Method;
import java.lang.reflect.Modifier;
import java.nio.file.Files;
import java.nio.file.Path;
import java.util.ArrayList;
import java.util.Arrays;
import java.util.HashMap;
import java.util.HashSet;
import java.util.List;
import java.util.Map;
import java.util.Random;
import java.util.Set;
import java.util.TreeSet;
import java.util.regex.Matcher;
import java.util.regex.Pattern;

/** The face, the rules of LANGUAGE.md that a test can look at, and calls with any arguments, none of which throws. */
public final class LanguageTests {
    private static final Check CHECK = new Check();

    private static final String FACE = "type(2) wipe(1) undo(1) fault(1) boy(2) seat(2) masters(1) change(3) back(0)"
            + " read(1) at(3) knows(3) sits(2) ghost(1) master(1) best(0) form(0) idle(0) sit(2) trade(2) rush(1)"
            + " table(1) spare(1) seen(4) forget(0) never(0) sort(1) first(2) ask(2) luck(3) years(3) sheet(3) lose(1)"
            + " put(4) get(3) copy(5) write(2) count(1) digest(0)";

    private static final String[] FORBIDDEN = {"\\bthrow\\b", "\\btry\\b", "\\bcatch\\b", "\\bsynchronized\\b",
        "\\bassert\\b", "->", "::", "\\bpackage\\b", "\\bThread\\b", "\\bRandom\\b", "currentTimeMillis", "nanoTime",
        "\\bhashCode\\b", "\\btoString\\b", "\\bequals\\b", "Exact\\b", "\\bprotected\\b", "\\bString\\b",
        "while \\(true\\)", "for \\(;;\\)"};

    private static final Set<String> LIBRARY = Set.of("System.arraycopy", "Arrays.fill", "Math.min", "Math.max",
            "Integer.bitCount");

    public static void main(String[] args) throws Exception {
        face();
        namesOfPrivateMethods();
        fieldsAndParameters();
        String code = Files.readString(Path.of("src/main/java/MarkedByNext.java"));
        String bare = code.replaceAll("(?s)/\\*.*?\\*/", "").replaceAll("//[^\n]*", "");
        source(code, bare);
        library(bare);
        madeWithTheObject(bare);
        depthOfCalls(bare);
        anyArguments();
        CHECK.end();
    }

    private static void face() {
        TreeSet<String> got = new TreeSet<>();
        for (Method m : MarkedByNext.class.getDeclaredMethods()) {
            if (!Modifier.isPrivate(m.getModifiers())) {
                CHECK.holds(m + " is public", Modifier.isPublic(m.getModifiers()));
                got.add(m.getName() + "(" + m.getParameterCount() + ")");
                boolean isLong = m.getName().equals("luck") || m.getName().equals("digest");
                CHECK.holds(m + " answers as told", m.getReturnType() == (isLong ? long.class : int.class));
                CHECK.holds(m + " takes ints", Arrays.stream(m.getParameterTypes()).allMatch(t -> t == int.class));
            }
        }
        CHECK.holds("the face is the document's: " + got, got.equals(new TreeSet<>(Arrays.asList(FACE.split(" ")))));
        TreeSet<String> open = new TreeSet<>();
        for (Field f : MarkedByNext.class.getDeclaredFields()) {
            if (!Modifier.isPrivate(f.getModifiers())) {
                open.add(f.getName());
            }
        }
        CHECK.holds("the constants: " + open, open.equals(new TreeSet<>(Arrays.asList("NONE", "BAD", "NOT", "FULL"))));
        CHECK.holds("final", Modifier.isFinal(MarkedByNext.class.getModifiers()));
        CHECK.due("constructors", MarkedByNext.class.getDeclaredConstructors().length, 1);
    }

    private static void namesOfPrivateMethods() {
        TreeSet<String> told = new TreeSet<>();
        for (String s : FACE.split(" ")) {
            told.add(s.substring(0, s.indexOf('(')));
        }
        for (Method m : MarkedByNext.class.getDeclaredMethods()) {
            CHECK.holds(m + ": its own name", Modifier.isPublic(m.getModifiers()) || !told.contains(m.getName()));
        }
        for (Class<?> inside : MarkedByNext.class.getDeclaredClasses()) {
            CHECK.holds(inside + " is static", Modifier.isStatic(inside.getModifiers()));
            for (Method m : inside.getDeclaredMethods()) {
                CHECK.holds(m + ": its own name", !told.contains(m.getName()));
            }
        }
    }

    private static void fieldsAndParameters() {
        CHECK.holds("twelve classes at most", MarkedByNext.class.getDeclaredClasses().length <= 11);
        looseFields(MarkedByNext.class);
        for (Class<?> inside : MarkedByNext.class.getDeclaredClasses()) {
            looseFields(inside);
            for (Method m : inside.getDeclaredMethods()) {
                CHECK.holds(m + ": seven parameters at most", m.getParameterCount() <= 7);
            }
            for (Constructor<?> c : inside.getDeclaredConstructors()) {
                CHECK.holds(c + ": seven parameters at most", c.getParameterCount() <= 7);
            }
        }
    }

    private static void looseFields(Class<?> owner) {
        long own = Arrays.stream(owner.getDeclaredFields()).map(Member::getModifiers)
                .filter(m -> !Modifier.isStatic(m)).count();
        CHECK.holds(owner + ": twenty fields at most", own <= 20);
        for (Field f : owner.getDeclaredFields()) {
            boolean isFixed = !Modifier.isStatic(f.getModifiers()) || Modifier.isFinal(f.getModifiers());
            CHECK.holds(f + ": static, so final", isFixed);
        }
    }

    private static void source(String code, String bare) {
        for (String word : FORBIDDEN) {
            CHECK.holds("no " + word, !Pattern.compile(word).matcher(bare).find());
        }
        CHECK.holds("one import", bare.split("\\bimport\\b").length == 2 && bare.contains("import java.util.Arrays;"));
        CHECK.holds("characters 1 to 127", code.chars().allMatch(ch -> ch > 0 && ch < 128));
        int longest = 0;
        for (Body body : bodies(bare)) {
            longest = Math.max(longest, body.lines().size() + 2);
        }
        CHECK.holds("methods of some sixty lines at most: " + longest, longest > 20 && longest <= 60);
    }

    /** A method or constructor and the lines inside it. */
    private record Body(String name, List<String> lines) {
    }

    /** A method ends with the brace that stands as far in as its first line: blocks inside it stand farther in. */
    private static List<Body> bodies(String bare) {
        Pattern head = Pattern.compile("( {4}(?: {4})?)[A-Za-z](?:[\\w\\[\\] ]* )?(\\w+)\\(.*\\) \\{");
        List<Body> all = new ArrayList<>();
        Body open = null;
        String end = "";
        for (String line : bare.split("\n")) {
            Matcher m = head.matcher(line);
            if (open == null && m.matches()) {
                open = new Body(line.trim().replaceAll("(.* )?(\\w+)\\(.*", "$2"), new ArrayList<>());
                end = m.group(1) + "}";
            } else if (open != null && line.equals(end)) {
                all.add(open);
                open = null;
            } else if (open != null) {
                open.lines().add(line);
            }
        }
        return all;
    }

    /** Rule 4: no other function of the library is called. */
    private static void library(String bare) {
        Matcher calls = Pattern.compile("\\b([A-Z]\\w*)\\.(\\w+)\\(").matcher(bare);
        Set<String> used = new TreeSet<>();
        while (calls.find()) {
            used.add(calls.group(1) + "." + calls.group(2));
        }
        CHECK.holds("the library's functions: " + used, LIBRARY.containsAll(used));
    }

    /** Rule 12: what is made is made in a field's first value or in a constructor, so that no call makes anything. */
    private static void madeWithTheObject(String bare) {
        for (Body body : bodies(bare)) {
            boolean isConstructor = Character.isUpperCase(body.name().charAt(0));
            for (String line : body.lines()) {
                boolean isMade = Pattern.compile("\\bnew\\b|\\bclone\\b").matcher(line).find();
                CHECK.holds(body.name() + " makes nothing: " + line.trim(), !isMade || isConstructor);
            }
        }
    }

    /** Rules 8 and 11: no method calls itself, and calls go eight deep at most, the library's counted too. */
    private static void depthOfCalls(String bare) {
        Map<String, Set<String>> called = new HashMap<>();
        for (Body body : bodies(bare)) {
            Set<String> names = called.computeIfAbsent(body.name(), n -> new HashSet<>());
            for (String line : body.lines()) {
                Matcher call = Pattern.compile("([\\w.]*\\.)?\\b(\\w+)\\(").matcher(line);
                while (call.find()) {
                    boolean isLibrary = call.group(1) != null && call.group(1).matches("[A-Z].*");
                    names.add((isLibrary ? call.group(1) : "") + call.group(2));
                }
            }
        }
        CHECK.holds("methods were found: " + called.size(), called.size() > 100);
        for (String method : called.keySet()) {
            int depth = depthOf(method, called, 0);
            CHECK.holds(method + " goes eight deep at most: " + depth, depth <= 8);
        }
    }

    /** Methods of one name in several classes count as one here, so what it answers is never too small. */
    private static int depthOf(String method, Map<String, Set<String>> called, int open) {
        int deepest = 0;
        for (String next : called.getOrDefault(method, Set.of())) {
            boolean isCall = called.containsKey(next) || LIBRARY.contains(next);
            if (isCall && open < 20) {
                deepest = Math.max(deepest, depthOf(next, called, open + 1));
            }
        }
        return open >= 20 ? 100 : 1 + deepest;
    }

    private static final int[] ODD = {Integer.MIN_VALUE, Integer.MIN_VALUE + 1, -31, -16, -3, -2, -1, 0, 1, 2, 3, 4, 5,
        7, 8, 9, 15, 16, 17, 18, 29, 30, 31, 39, 59, 60, 61, 255, 256, Integer.MAX_VALUE - 1, Integer.MAX_VALUE};

    private static void anyArguments() {
        Random dice = new Random(40);
        Method[] all = MarkedByNext.class.getDeclaredMethods();
        Arrays.sort(all, (a, b) -> a.getName().compareTo(b.getName()));
        for (int run = 0; run < 200; run++) {
            MarkedByNext x = run % 2 == 0 ? new MarkedByNext()
                    : Check.school("c159;d267;b048;d753;c391;b826;d914;c000", "abcd;efgh;....;...");
            for (int i = 0; i < 400; i++) {
                Method m = all[dice.nextInt(all.length)];
                if (Modifier.isPublic(m.getModifiers()) && (!m.getName().equals("digest") || i % 40 == 0)) {
                    callAny(x, m, dice);
                }
            }
        }
    }

    private static void callAny(MarkedByNext x, Method m, Random dice) {
        Object[] args = new Object[m.getParameterCount()];
        for (int k = 0; k < args.length; k++) {
            args[k] = dice.nextInt(3) == 0 ? ODD[dice.nextInt(ODD.length)] : dice.nextInt(6);
        }
        try {
            m.invoke(x, args);
        } catch (ReflectiveOperationException e) {
            CHECK.holds(m.getName() + Arrays.toString(args) + " threw " + e.getCause(), false);
        }
    }
}
