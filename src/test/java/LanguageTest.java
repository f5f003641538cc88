import java.lang.reflect.Constructor;
import java.lang.reflect.Field;
import java.lang.reflect.Method;
import java.lang.reflect.Modifier;
import java.nio.file.Files;
import java.nio.file.Path;
import java.util.Arrays;
import java.util.IdentityHashMap;
import java.util.List;
import java.util.Map;
import java.util.Set;
import java.util.TreeSet;
import java.util.stream.Collectors;

/** The face of the document, and those rules of LANGUAGE.md that a program can look at. */
public final class LanguageTest {
    private static final String SOURCE = "src/main/java/ShadeGrid.java";
    private static final int MOST_ELEMENTS = 10_000;
    private static final int MOST_DEEP = 8;
    private static final int MOST_LINES = 60;
    /** What the class uses of what rule 4 allows: one more of that may be added here. */
    private static final Set<String> LIBRARY = Set.of("java/lang/Object.<init>", "java/lang/Math.abs",
            "java/lang/Math.min", "java/lang/Math.max", "java/lang/Long.bitCount", "java/lang/System.arraycopy",
            "java/util/Arrays.fill", "java/util/NoSuchElementException.<init>");
    private static int wrong = 0;

    private static void must(boolean holds, String what) {
        if (!holds) {
            wrong++;
            System.out.println("not so: " + what);
        }
    }

    /** The public lines of a Java text, as they stand there, without what ends each of them. */
    private static List<String> publicLines(String java) {
        return java.lines().filter(line -> line.matches("( {4})?public .*"))
                .map(line -> line.replaceAll("(;| \\{)$", "")).toList();
    }

    private static void faceIsThatOfTheDocument() throws Exception {
        String document = Files.readString(Path.of("..", "shared", "DOC.md"));
        int from = document.indexOf("```java");
        List<String> due = publicLines(document.substring(from, document.indexOf("```", from + 3)));
        List<String> got = publicLines(Files.readString(Path.of(SOURCE)));
        must(due.size() == 51, "the document has a class, a constant, a constructor and 48 methods: " + due);
        for (String line : due) {
            must(got.contains(line), "the class has " + line);
        }
        for (String line : got) {
            must(due.contains(line), "the document has " + line);
        }
    }

    private static void membersAreAsRuled() {
        for (Method m : ShadeGrid.class.getDeclaredMethods()) {
            if (Modifier.isPublic(m.getModifiers())) {
                must(!Modifier.isStatic(m.getModifiers()), m.getName() + " is of an object");
            } else {
                must(Modifier.isPrivate(m.getModifiers()) || m.isSynthetic(), m.getName() + " is private");
            }
        }
        must(Modifier.isFinal(ShadeGrid.class.getModifiers()) && Modifier.isPublic(ShadeGrid.class.getModifiers()),
                "the class is public and final");
        Constructor<?>[] made = ShadeGrid.class.getDeclaredConstructors();
        must(made.length == 1 && made[0].getParameterCount() == 0 && Modifier.isPublic(made[0].getModifiers()),
                "one public constructor");
    }

    private static void fieldsAreAsRuled() {
        for (Field f : ShadeGrid.class.getDeclaredFields()) {
            boolean constant = f.getName().equals("NONE");
            must(constant == Modifier.isPublic(f.getModifiers()), f + " is private, but for NONE");
            must(constant || Modifier.isPrivate(f.getModifiers()), f + " is private");
        }
        must(ShadeGrid.NONE == -1, "NONE is -1");
        for (Class<?> c : classes()) {
            int own = 0;
            for (Field f : c.getDeclaredFields()) {
                boolean shared = Modifier.isStatic(f.getModifiers());
                must(!shared || Modifier.isFinal(f.getModifiers()), f + " is final");
                own += shared ? 0 : 1;
            }
            must(own <= 20, c + " has " + own + " fields");
        }
    }

    private static List<Class<?>> classes() {
        List<Class<?>> all = new java.util.ArrayList<>(List.of(ShadeGrid.class.getDeclaredClasses()));
        all.add(ShadeGrid.class);
        return all;
    }

    private static void classesAreAsRuled() {
        must(classes().size() <= 12, "at most twelve classes");
        TreeSet<String> face = Arrays.stream(ShadeGrid.class.getDeclaredMethods())
                .filter(m -> Modifier.isPublic(m.getModifiers())).map(Method::getName)
                .collect(Collectors.toCollection(TreeSet::new));
        for (Class<?> c : ShadeGrid.class.getDeclaredClasses()) {
            must(Modifier.isPrivate(c.getModifiers()) && Modifier.isStatic(c.getModifiers()), c + " is private and static");
            for (Method m : c.getDeclaredMethods()) {
                must(!face.contains(m.getName()), c + " has a method with the face's name " + m.getName());
                must(m.getParameterCount() <= 7, m + " takes seven at most");
            }
        }
    }

    private static void sourceIsAsRuled() throws Exception {
        String source = Files.readString(Path.of(SOURCE))
                .replaceAll("(?s)/\\*.*?\\*/", "").replaceAll("//[^\n]*", "");
        for (String word : List.of("try", "catch", "finally", "synchronized", "assert", "package", "native", "volatile")) {
            must(!source.matches("(?s).*\\b" + word + "\\b.*"), "no " + word);
        }
        must(!source.contains("->") && !source.contains("::"), "no lambda, no method reference");
        for (String line : source.split("\n")) {
            if (line.startsWith("import")) {
                must(line.equals("import java.util.Arrays;") || line.equals("import java.util.NoSuchElementException;"), line);
            }
            // what is made is made with the object, so that no call takes more of the room
            if (line.contains("new ") && !line.contains("throw new ") && !line.contains("private final ")) {
                must(line.matches("\\s+(pictures|before)\\[[pa]\\] = new Picture\\(\\);"), line);
            }
            must(line.chars().allMatch(ch -> ch >= 32 && ch < 127), line);
        }
    }

    private static void methodsAreShort() throws Exception {
        String head = "";
        int lines = 0;
        for (String line : Files.readAllLines(Path.of(SOURCE))) {
            boolean opens = line.matches("( {4}| {8})[a-zA-Z].*\\) (throws \\w+ )?\\{")
                    && !line.matches(" +(if|for|while|switch) .*");
            boolean ends = line.matches("( {4}| {8})\\}");
            head = opens ? line.trim() : head;
            lines = opens ? 0 : lines + 1;
            must(!ends || lines <= MOST_LINES, head + " is longer than " + MOST_LINES + " lines");
            lines = ends ? 0 : lines;
        }
    }

    private static void callsAreAsRuled() {
        List<String> names = classes().stream().map(Class::getName).toList();
        CallGraph calls = CallGraph.of(names);
        if (calls == null) {
            System.out.println("there is no javap here: the depth of calls and the library are not looked at");
            return;
        }
        must(calls.methods().contains("ShadeGrid.trouble") && calls.outside().equals(LIBRARY),
                "javap tells the methods and what they use: " + calls.outside());
        for (String method : calls.methods()) {
            List<String> deepest = calls.deepestFrom(method, MOST_DEEP + 1);
            must(deepest.size() <= MOST_DEEP, "calls within " + MOST_DEEP + " levels, without recursion: " + deepest);
        }
    }

    private static long elementsOf(Object o, Map<Object, Boolean> seen) throws Exception {
        if (o == null || seen.put(o, true) != null) {
            return 0;
        }
        if (o.getClass().isArray()) {
            long all = java.lang.reflect.Array.getLength(o);
            if (o instanceof Object[] many) {
                for (Object one : many) {
                    all += elementsOf(one, seen);
                }
            }
            return all;
        }
        long all = 0;
        for (Field f : o.getClass().getDeclaredFields()) {
            if (!Modifier.isStatic(f.getModifiers())) {
                f.setAccessible(true);
                all++;
                all += f.getType().isPrimitive() ? 0 : elementsOf(f.get(o), seen);
            }
        }
        return all;
    }

    private static void anObjectIsSmall() throws Exception {
        Map<Object, Boolean> seen = new IdentityHashMap<>();
        long all = elementsOf(new ShadeGrid(), seen);
        must(all <= MOST_ELEMENTS, "fields and elements of an object: " + all);
        must(seen.size() <= 200, "objects and arrays of an object: " + seen.size());
    }

    public static void main(String[] args) throws Exception {
        faceIsThatOfTheDocument();
        membersAreAsRuled();
        fieldsAreAsRuled();
        classesAreAsRuled();
        sourceIsAsRuled();
        methodsAreShort();
        callsAreAsRuled();
        anObjectIsSmall();
        System.out.println(wrong == 0 ? "the face and the rules are kept" : wrong + " rules are not kept");
        if (wrong != 0) {
            System.exit(1);
        }
    }
}
