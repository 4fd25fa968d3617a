import java.io.IOException;
import java.lang.reflect.Array;
import java.lang.reflect.Constructor;
import java.lang.reflect.Field;
import java.lang.reflect.Method;
import java.lang.reflect.Modifier;
import java.nio.charset.StandardCharsets;
import java.nio.file.Files;
import java.nio.file.Path;
import java.util.ArrayDeque;
import java.util.Arrays;
import java.util.HashMap;
import java.util.IdentityHashMap;
import java.util.List;
import java.util.Map;
import java.util.Set;
import java.util.TreeMap;
import java.util.TreeSet;
import java.util.regex.Matcher;
import java.util.regex.Pattern;

/** What ../shared/LANGUAGE.md asks of the source, as far as a test can see it; run from the project's directory. */
public final class RulesTest {
    private static final Due due = new Due();
    private static final List<String> FACE = List.of("sort", "parent", "type", "parameter", "method", "value", "either",
            "as", "call", "many", "depth", "isSame", "isUnder", "road", "join", "line", "seen", "taking", "chosen", "own",
            "faults", "ofFault", "isFaulty", "flaws", "ofFlaw", "wouldChoose", "faultsWithout", "faultsWith", "flawsWith",
            "meanDepth", "digest");

    public static void main(String[] args) throws IOException {
        String source = Files.readString(Path.of("src/main/java/Hornbook.java"), StandardCharsets.UTF_8);
        String code = source.replaceAll("(?s)/\\*.*?\\*/", " ").replaceAll("//[^\n]*", " ");
        String bare = code.replaceAll("\"[^\"\n]*\"", "\"\"");
        face();
        inside();
        words(source, bare);
        exceptions(bare);
        methods(bare);
        calls(bare);
        longPlaces();
        due.end();
    }

    private static void face() {
        due.part("rule 1, the face");
        TreeSet<String> names = new TreeSet<>();
        for (Method m : Hornbook.class.getDeclaredMethods()) {
            if (m.isSynthetic()) continue;
            if (Modifier.isPublic(m.getModifiers())) {
                names.add(m.getName());
                continue;
            }
            due.is(m.getName() + " is private", Modifier.isPrivate(m.getModifiers()), true);
            due.is(m.getName() + " bears a public name", FACE.contains(m.getName()), false);
        }
        due.is("the public methods " + names, names.equals(new TreeSet<>(FACE)), true);
        for (Field f : Hornbook.class.getDeclaredFields()) {
            due.is(f.getName() + " is private", Modifier.isPrivate(f.getModifiers()), true);
        }
        Constructor<?>[] made = Hornbook.class.getDeclaredConstructors();
        due.is("constructors", made.length, 1);
        due.is("Hornbook is final", Modifier.isFinal(Hornbook.class.getModifiers()), true);
    }

    private static void inside() {
        due.part("rules 1, 5 and 11, the classes inside");
        Class<?>[] inner = Hornbook.class.getDeclaredClasses();
        due.is("at most twelve classes", inner.length < 12, true);
        for (Class<?> c : inner) {
            due.is(c + " is static", Modifier.isStatic(c.getModifiers()), true);
            due.is(c + " is public or protected", (c.getModifiers() & (Modifier.PUBLIC | Modifier.PROTECTED)) != 0, false);
            due.is(c + " has at most twenty fields", c.getDeclaredFields().length <= 20, true);
            for (Method m : c.getDeclaredMethods()) {
                due.is(c + "." + m.getName() + " bears a public name", FACE.contains(m.getName()), false);
                due.is(c + "." + m.getName() + " has at most seven parameters", m.getParameterCount() <= 7, true);
            }
        }
        Class<?>[] all = Arrays.copyOf(inner, inner.length + 1);
        all[inner.length] = Hornbook.class;
        for (Class<?> c : all) {
            for (Field f : c.getDeclaredFields()) {
                if (!Modifier.isStatic(f.getModifiers())) continue;
                due.is(c + "." + f.getName() + " is a final constant",
                        Modifier.isFinal(f.getModifiers()) && f.getType().isPrimitive(), true);
            }
        }
    }

    private static void words(String source, String bare) {
        due.part("rules 2 to 6, words");
        due.is("only signs of ASCII", source.chars().allMatch(c -> c == '\n' || c >= 32 && c < 127), true);
        Matcher imports = Pattern.compile("\\bimport\\s+([^;]+);").matcher(bare);
        while (imports.find()) due.is("import " + imports.group(1), List.of("java.util.ArrayList", "java.util.Arrays").contains(imports.group(1)), true);
        String[] barred = {"->", "::", "\\bsynchronized\\b", "\\bassert\\b", "\\bfinally\\b", "\\btry\\b", "\\bcatch\\b",
            "\\bSystem\\b", "\\bThread\\b", "\\bprotected\\b", "\\bstatic\\s*\\{", "Exact\\b", "\\bhashCode\\b",
            "\\btoString\\b", "\\bfloat\\b", "\\bObject\\b", "\\binstanceof\\b", "\\bpackage\\b", "\\bInteger\\b",
            "\\bString\\b", "@", "\\bvar\\b", "\\bvolatile\\b", "\\bnative\\b", "\"\" *\\+", "\\+ *\"\""};
        for (String b : barred) due.is(b + " is in it", Pattern.compile(b).matcher(bare).find(), false);
    }

    private static void exceptions(String bare) {
        due.part("rule 6, exceptions");
        Matcher thrown = Pattern.compile("\\bthrow\\b([^;]*);").matcher(bare);
        Pattern form = Pattern.compile("\\s+new (IllegalState|IllegalArgument|IndexOutOfBounds)Exception\\(\"\"\\)");
        int count = 0;
        while (thrown.find()) {
            count++;
            due.is("throw" + thrown.group(1) + " has its form", form.matcher(thrown.group(1)).matches(), true);
        }
        due.is("there are some", count > 10, true);
    }

    private static void methods(String bare) {
        due.part("rule 11, short methods");
        int level = 0;
        int begun = 0;
        String[] lines = bare.split("\n");
        for (int i = 0; i < lines.length; i++) {
            boolean isHead = lines[i].matches("\\s+((private |public |static |final )*[\\w<>\\[\\]]+ )?\\w+\\(.*\\{")
                    && !lines[i].contains("return ") && !lines[i].contains("else ") && !lines[i].contains(" = ");
            if (isHead) begun = i;
            for (char c : lines[i].toCharArray()) level += c == '{' ? 1 : c == '}' ? -1 : 0;
            due.is("line " + (i + 1) + " is within sixty lines of its method", i - begun > 60 && level > 2, false);
        }
        due.is("what is opened is closed", level, 0);
    }

    private static void longPlaces() {
        due.part("rule 12, a far place of a LINE makes no row");
        int[] places = {1023, 1024, 131071, 131072, Integer.MAX_VALUE};
        Hornbook least = new Hornbook();
        due.is("value(0)", least.value(0), 0);
        long none = elements(least);
        due.is("a new one has " + none + " elements", none < 6000, true);
        due.is("line(0, 1024)", least.line(0, 1024), -9);
        due.is("elements after line(0, 1024)", elements(least), none);
        Hornbook x = new Hornbook();
        int top = x.type(x.sort(0, 0, 0), -1, -1);
        int box = x.sort(2, 1, 1);
        int in = top;
        for (int i = 0; i < 4; i++) in = x.type(box, in, in);
        x.parent(box, top);
        x.method(box, 0, 2, -1, 2, true);
        int deep = x.value(in);
        int either = x.either(deep, x.value(x.type(box, top, 0)));
        int call = x.call(deep, 0, deep, -1);
        for (int k = 0; k < 32; k++) due.is("line(0, " + k + ")", x.line(deep, k) == -9, k == 31);
        due.is("own, 31 places", x.own(call, 30), 0);
        due.is("join", x.join(in, top, 0), 0);
        due.is("road", x.road(in, 1, 0), 0);
        due.is("line of a JOIN", x.line(either, 0), 1);
        long before = elements(x);
        for (int i = 0; i < 80; i++) {
            int k = places[i % places.length];
            due.is("line, k " + k, x.line(i % 5 == 0 ? either : deep, k), -9);
            due.is("own, k " + k, x.own(call, k), -9);
            due.is("join, k " + k, x.join(in, i % 2 == 0 ? top : in, k), -9);
            due.is("road, k " + k, x.road(in, i % 2, k), -9);
        }
        due.is("elements after far places", elements(x), before);
    }

    /** How many elements there are in all arrays that an object leads to. */
    private static long elements(Object from) {
        Map<Object, Boolean> met = new IdentityHashMap<>();
        ArrayDeque<Object> open = new ArrayDeque<>();
        open.push(from);
        long sum = 0;
        while (!open.isEmpty()) {
            Object at = open.pop();
            if (met.put(at, true) != null) continue;
            if (at instanceof List<?> list) {
                for (Object o : list) open.push(o);
            } else if (at.getClass().isArray()) {
                sum += Array.getLength(at);
                if (at instanceof Object[] row) for (Object o : row) if (o != null) open.push(o);
            } else if (at.getClass().getName().startsWith("Hornbook")) {
                for (Field f : at.getClass().getDeclaredFields()) pushWhatIsIn(f, at, open);
            }
        }
        return sum;
    }

    private static void pushWhatIsIn(Field f, Object owner, ArrayDeque<Object> open) {
        if (Modifier.isStatic(f.getModifiers()) || f.getType().isPrimitive()) return;
        f.setAccessible(true);
        try {
            Object o = f.get(owner);
            if (o != null) open.push(o);
        } catch (IllegalAccessException e) {
            due.is(f + " can be looked at", false, true);
        }
    }

    /** Each method's name, as Class.name, and its text. */
    private static Map<String, String> bodies(String bare) {
        Map<String, String> bodies = new TreeMap<>();
        Pattern part = Pattern.compile("class\\s+(\\w+)[^{;]*\\{|(\\w+)\\s*\\([^(){};]*\\)\\s*(?:throws[\\w\\s,]+)?\\{|\\{|\\}");
        Matcher at = part.matcher(bare);
        ArrayDeque<String> open = new ArrayDeque<>();
        ArrayDeque<Integer> begun = new ArrayDeque<>();
        String inside = "";
        while (at.find()) {
            if (at.group().equals("}")) {
                String name = open.pop();
                int from = begun.pop();
                if (name.contains(".")) bodies.merge(name, bare.substring(from, at.start()), String::concat);
                continue;
            }
            boolean isMethod = at.group(2) != null && !at.group(2).matches("if|for|while|switch");
            if (at.group(1) != null) inside = at.group(1);
            open.push(isMethod ? inside + "." + at.group(2) : "");
            begun.push(at.end());
        }
        return bodies;
    }

    /** The methods that one calls; those of a list have names of their own. */
    private static TreeSet<String> called(String from, String body, Set<String> all) {
        TreeSet<String> called = new TreeSet<>();
        String own = from.substring(0, from.indexOf('.') + 1);
        Matcher at = Pattern.compile("(\\w+\\)*\\.)?(\\w+)\\s*\\(").matcher(body);
        while (at.find()) {
            String name = at.group(2);
            if (at.group(1) == null && all.contains(own + name)) called.add(own + name);
            if (at.group(1) == null) continue;
            for (String other : all) if (other.endsWith("." + name) && !other.startsWith(own)) called.add(other);
        }
        called.remove(from);
        return called;
    }

    private static void calls(String bare) {
        due.part("rule 11, calls that go at most eight deep");
        Map<String, String> bodies = bodies(bare);
        Map<String, Integer> depths = new HashMap<>();
        Map<String, TreeSet<String>> graph = new TreeMap<>();
        for (String name : bodies.keySet()) graph.put(name, called(name, bodies.get(name), bodies.keySet()));
        due.is("most methods are seen", graph.size() > 150, true);
        int deepest = 0;
        for (String name : graph.keySet()) deepest = Math.max(deepest, depth(name, graph, depths, 0));
        due.is("the deepest is " + deepest, deepest <= 8, true);
        due.is("the deepest is more than five", deepest > 5, true);
    }

    private static int depth(String name, Map<String, TreeSet<String>> graph, Map<String, Integer> depths, int level) {
        if (level > 60) return 1000;
        Integer known = depths.get(name);
        if (known != null) return known;
        int deepest = 0;
        for (String other : graph.get(name)) deepest = Math.max(deepest, depth(other, graph, depths, level + 1));
        depths.put(name, deepest + 1);
        return deepest + 1;
    }
}
