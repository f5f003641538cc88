import java.lang.reflect.Constructor;
import java.lang.reflect.Field;
import java.lang.reflect.Method;
import java.lang.reflect.Modifier;
import java.nio.file.Files;
import java.nio.file.Path;
import java.util.Arrays;
import java.util.IdentityHashMap;
import java.util.List;
import java.util.Map;
import java.util.TreeSet;
import java.util.stream.Collectors;

/** The face of the document, and those rules of LANGUAGE.md that a program can look at. */
public final class LanguageTest {
    private static final String FACE = """
        feed 5 int, text 1 int, fault 0 int, where 0 int, about 2 int, dot 3 int, often 2 int, set 4 int,
        fill 4 boolean, turn 3 boolean, part 6 boolean, noise 3 int, grid 4 int, gridded 1 int, node 4 long,
        nth 2 int, total 1 long, blur 1 int, read 4 long, readShade 2 int, smooth 6 int, box 3 int, median 3 int,
        mix 4 boolean, above 3 int, levels 3 int, stretch 2 int, larger 3 boolean, smaller 3 boolean, rests 4 int,
        edges 2 int, kept 6 int, flat 4 int, apart 3 int, regions 2 int, region 4 int, regionAt 4 int, steep 2 int,
        ranked 2 int, line 3 int, pairs 1 int, pair 2 int, undo 0 int, write 1 int, octet 1 int, letter 2 int,
        bytes 0 int, trouble 0 int
        """;
    private static final int MOST_ELEMENTS = 10_000;
    private static int wrong = 0;

    private static void must(boolean holds, String what) {
        if (!holds) {
            wrong++;
            System.out.println("not so: " + what);
        }
    }

    private static void faceIsThatOfTheDocument() {
        TreeSet<String> due = new TreeSet<>(List.of(FACE.trim().split(",\\s+")));
        TreeSet<String> got = new TreeSet<>();
        for (Method m : ShadeGrid.class.getDeclaredMethods()) {
            if (Modifier.isPublic(m.getModifiers())) {
                got.add(m.getName() + " " + m.getParameterCount() + " " + m.getReturnType());
                must(!Modifier.isStatic(m.getModifiers()), m.getName() + " is of an object");
                must(Arrays.stream(m.getParameterTypes()).allMatch(t -> t == int.class), m.getName() + " takes int alone");
            } else {
                must(Modifier.isPrivate(m.getModifiers()) || m.isSynthetic(), m.getName() + " is private");
            }
        }
        must(due.equals(got), "the methods are " + due + " but " + got);
        must(Modifier.isFinal(ShadeGrid.class.getModifiers()) && Modifier.isPublic(ShadeGrid.class.getModifiers()),
                "the class is public and final");
        Constructor<?>[] made = ShadeGrid.class.getDeclaredConstructors();
        must(made.length == 1 && made[0].getParameterCount() == 0 && Modifier.isPublic(made[0].getModifiers()),
                "one public constructor");
    }

    private static void fieldsAreAsRuled() {
        for (Field f : ShadeGrid.class.getDeclaredFields()) {
            boolean constant = f.getName().equals("NONE");
            must(constant == Modifier.isPublic(f.getModifiers()), f + " is private, but for NONE");
            must(constant || Modifier.isPrivate(f.getModifiers()), f + " is private");
        }
        must(ShadeGrid.NONE == -1, "NONE is -1");
        for (Class<?> c : classes()) {
            int own = 0;
            for (Field f : c.getDeclaredFields()) {
                boolean shared = Modifier.isStatic(f.getModifiers());
                must(!shared || Modifier.isFinal(f.getModifiers()), f + " is final");
                own += shared ? 0 : 1;
            }
            must(own <= 20, c + " has " + own + " fields");
        }
    }

    private static List<Class<?>> classes() {
        List<Class<?>> all = new java.util.ArrayList<>(List.of(ShadeGrid.class.getDeclaredClasses()));
        all.add(ShadeGrid.class);
        return all;
    }

    private static void classesAreAsRuled() {
        must(classes().size() <= 12, "at most twelve classes");
        TreeSet<String> face = Arrays.stream(ShadeGrid.class.getDeclaredMethods())
                .filter(m -> Modifier.isPublic(m.getModifiers())).map(Method::getName)
                .collect(Collectors.toCollection(TreeSet::new));
        for (Class<?> c : ShadeGrid.class.getDeclaredClasses()) {
            must(Modifier.isPrivate(c.getModifiers()) && Modifier.isStatic(c.getModifiers()), c + " is private and static");
            for (Method m : c.getDeclaredMethods()) {
                must(!face.contains(m.getName()), c + " has a method with the face's name " + m.getName());
                must(m.getParameterCount() <= 7, m + " takes seven at most");
            }
        }
    }

    private static void sourceIsAsRuled() throws Exception {
        String source = Files.readString(Path.of("src/main/java/ShadeGrid.java"))
                .replaceAll("(?s)/\\*.*?\\*/", "").replaceAll("//[^\n]*", "");
        for (String word : List.of("try", "catch", "finally", "synchronized", "assert", "package", "native", "volatile")) {
            must(!source.matches("(?s).*\\b" + word + "\\b.*"), "no " + word);
        }
        must(!source.contains("->") && !source.contains("::"), "no lambda, no method reference");
        for (String line : source.split("\n")) {
            if (line.startsWith("import")) {
                must(line.equals("import java.util.Arrays;") || line.equals("import java.util.NoSuchElementException;"), line);
            }
            // what is made is made with the object, so that no call takes more of the room
            if (line.contains("new ") && !line.contains("throw new ") && !line.contains("private final ")) {
                must(line.matches("\\s+(pictures|before)\\[[pa]\\] = new Picture\\(\\);"), line);
            }
            must(line.chars().allMatch(ch -> ch >= 32 && ch < 127), line);
        }
    }

    private static long elementsOf(Object o, Map<Object, Boolean> seen) throws Exception {
        if (o == null || seen.put(o, true) != null) {
            return 0;
        }
        if (o.getClass().isArray()) {
            long all = java.lang.reflect.Array.getLength(o);
            if (o instanceof Object[] many) {
                for (Object one : many) {
                    all += elementsOf(one, seen);
                }
            }
            return all;
        }
        long all = 0;
        for (Field f : o.getClass().getDeclaredFields()) {
            if (!Modifier.isStatic(f.getModifiers())) {
                f.setAccessible(true);
                all++;
                all += f.getType().isPrimitive() ? 0 : elementsOf(f.get(o), seen);
            }
        }
        return all;
    }

    private static void anObjectIsSmall() throws Exception {
        Map<Object, Boolean> seen = new IdentityHashMap<>();
        long all = elementsOf(new ShadeGrid(), seen);
        must(all <= MOST_ELEMENTS, "fields and elements of an object: " + all);
        must(seen.size() <= 200, "objects and arrays of an object: " + seen.size());
    }

    public static void main(String[] args) throws Exception {
        faceIsThatOfTheDocument();
        fieldsAreAsRuled();
        classesAreAsRuled();
        sourceIsAsRuled();
        anObjectIsSmall();
        System.out.println(wrong == 0 ? "the face and the rules are kept" : wrong + " rules are not kept");
        if (wrong != 0) {
            System.exit(1);
        }
    }
}
