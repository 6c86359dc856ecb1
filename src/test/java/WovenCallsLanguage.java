import java.lang.reflect.Constructor;
import java.lang.reflect.Field;
import java.lang.reflect.Method;
import java.lang.reflect.Modifier;
import java.nio.file.Files;
import java.nio.file.Path;
import java.util.HashSet;
import java.util.List;
import java.util.Map;
import java.util.Set;
import java.util.TreeMap;
import java.util.TreeSet;
import java.util.regex.Matcher;
import java.util.regex.Pattern;

/** What of LANGUAGE.md can be seen from outside or by words: the face, the names, what may not be written. */
public final class WovenCallsLanguage {
    private static final String SOURCE = "src/main/java/WovenCalls.java";
    private static final List<String> FACE = List.of("row:3", "set:3", "copy:5", "drop:1", "feed:1", "weave:0", "fault:0",
        "change:3", "become:2", "swap:2", "state:4", "belong:2", "undo:0", "method:2", "advice:2", "ahead:2", "run:3",
        "least:1", "needed:2", "fits:5", "drawn:3", "image:1", "restore:1", "kind:1", "as:2", "ask:2", "trace:1",
        "count:1", "status:0");
    private static final List<String> FORBIDDEN = List.of("\\bthrow\\b", "\\bthrows\\b", "\\btry\\b", "\\bcatch\\b",
        "\\bsynchronized\\b", "\\bassert\\b", "->", "::", "\\bimport\\b", "\\bpackage\\b", "\\bstatic\\s*\\{", "Exact\\b",
        "\\bThread\\b", "\\bObject\\b", "\\bhashCode\\b", "\\btoString\\b", "System\\.(?!arraycopy)");

    private static int wrong = 0;

    private static void hold(boolean is, String what) {
        if (!is) {
            wrong++;
            System.out.println("not so: " + what);
        }
    }

    private static void checkFace() {
        Class<WovenCalls> c = WovenCalls.class;
        hold(Modifier.isPublic(c.getModifiers()) && Modifier.isFinal(c.getModifiers()), "the class is public and final");
        Set<String> seen = new TreeSet<>();
        Set<String> names = new HashSet<>();
        for (Method m : c.getDeclaredMethods()) {
            if (Modifier.isPrivate(m.getModifiers()) || m.isSynthetic()) continue;
            hold(Modifier.isPublic(m.getModifiers()) && m.getReturnType() == int.class, m.getName() + " is public and gives an int");
            for (Class<?> p : m.getParameterTypes()) hold(p == int.class, m.getName() + " takes ints");
            seen.add(m.getName() + ":" + m.getParameterCount());
            names.add(m.getName());
        }
        hold(seen.equals(new TreeSet<>(FACE)), "the face is that of the document, but is " + seen);
        Constructor<?>[] made = c.getDeclaredConstructors();
        hold(made.length == 1 && Modifier.isPublic(made[0].getModifiers()) && made[0].getParameterCount() == 0, "one public constructor");
        Set<String> constants = new TreeSet<>();
        for (Field f : c.getDeclaredFields()) if (!Modifier.isPrivate(f.getModifiers())) constants.add(f.getName());
        hold(constants.equals(new TreeSet<>(List.of("NONE", "BAD", "STATE", "FULL"))), "four constants, but " + constants);
        checkInside(c, names);
    }

    private static void checkInside(Class<?> c, Set<String> names) {
        hold(c.getDeclaredClasses().length <= 11, "some twelve classes");
        for (Method m : c.getDeclaredMethods()) {
            hold(!Modifier.isPrivate(m.getModifiers()) || !names.contains(m.getName()), "no private method is named " + m.getName());
        }
        for (Class<?> inside : c.getDeclaredClasses()) {
            hold(Modifier.isStatic(inside.getModifiers()), inside + " is static");
            for (Method m : inside.getDeclaredMethods()) {
                hold(!names.contains(m.getName()), "no method inside is named " + m.getName());
                hold(m.getParameterCount() <= 7, m.getName() + " has at most seven parameters");
            }
            for (Field f : inside.getDeclaredFields()) {
                hold(!Modifier.isStatic(f.getModifiers()) || Modifier.isFinal(f.getModifiers()), f + " is final");
            }
        }
    }

    private static String withoutComments(String source) {
        return source.replaceAll("(?s)/\\*.*?\\*/", "").replaceAll("//[^\n]*", "");
    }

    private static void checkWords() throws java.io.IOException {
        String source = Files.readString(Path.of(SOURCE));
        hold(source.chars().allMatch(ch -> ch < 128), "plain signs alone");
        String code = withoutComments(source);
        for (String word : FORBIDDEN) {
            Matcher found = Pattern.compile(word).matcher(code);
            hold(!found.find(), "no " + word);
        }
        // every object and array is made as an object of the class is made, so that calls make none
        Pattern make = Pattern.compile("\\bnew\\b");
        for (String line : code.split("\n")) {
            if (!make.matcher(line).find()) continue;
            boolean held = line.matches("\\s*private final .*") || line.matches("\\s*(rows|images)\\[i\\] = new .*");
            hold(held, "made in a constructor: " + line.trim());
        }
        checkLengths(code);
        checkDepth(callsByName(code));
    }

    /** From a method's first line to the brace that ends it, told by how far it stands in. */
    private static void checkLengths(String code) {
        String[] lines = code.split("\n");
        for (int i = 0; i < lines.length; i++) {
            Matcher head = Pattern.compile("^(    |        )(?! )(?!.*\\bclass\\b).*\\) \\{$").matcher(lines[i]);
            if (!head.matches()) continue;
            int end = i;
            while (end < lines.length && !lines[end].equals(head.group(1) + "}")) end++;
            hold(end - i <= 60, "at most sixty lines: " + lines[i].trim());
        }
    }

    /** Of each method's name the names that are called in it; methods of one name in two classes count as one. */
    private static Map<String, Set<String>> callsByName(String code) {
        Map<String, Set<String>> calls = new TreeMap<>();
        String name = null;
        for (String line : code.split("\n")) {
            Matcher head = Pattern.compile("^(?:    |        )(?! )(?!.*\\bclass\\b)(?!if|for|while|switch|}).*?(\\w+)\\(.*\\) \\{$").matcher(line);
            if (head.matches()) {
                name = head.group(1);
                calls.putIfAbsent(name, new TreeSet<>());
                continue;
            }
            Matcher call = Pattern.compile("(\\w+)\\(").matcher(line);
            while (name != null && call.find()) calls.get(name).add(call.group(1));
        }
        for (Set<String> called : calls.values()) called.retainAll(calls.keySet());
        return calls;
    }

    private static Set<String> within(Map<String, Set<String>> calls, String name) {
        Set<String> seen = new TreeSet<>(calls.get(name));
        int before = -1;
        while (before != seen.size()) {
            before = seen.size();
            for (String s : List.copyOf(seen)) seen.addAll(calls.get(s));
        }
        return seen;
    }

    /** Methods that call one another in a circle count once, as the rule leaves recursion out. */
    private static int depth(Map<String, Set<String>> calls, String name) {
        Set<String> circle = new TreeSet<>(Set.of(name));
        for (String s : within(calls, name)) if (within(calls, s).contains(name)) circle.add(s);
        int most = 0;
        for (String s : circle) {
            for (String called : calls.get(s)) if (!circle.contains(called)) most = Math.max(most, depth(calls, called));
        }
        return 1 + most;
    }

    private static void checkDepth(Map<String, Set<String>> calls) {
        hold(calls.size() > FACE.size(), "the methods are found");
        for (String name : calls.keySet()) {
            int depth = depth(calls, name);
            hold(depth <= 8, name + " goes at most eight calls deep, but " + depth);
        }
    }

    public static void main(String[] args) throws java.io.IOException {
        checkFace();
        checkWords();
        System.out.println(wrong == 0 ? "the rules hold that can be seen here" : wrong + " rules do not hold");
        if (wrong != 0) System.exit(1);
    }
}
