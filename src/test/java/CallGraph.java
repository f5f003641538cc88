import java.io.PrintWriter;
import java.io.StringWriter;
import java.util.ArrayList;
import java.util.List;
import java.util.Map;
import java.util.Optional;
import java.util.Set;
import java.util.TreeMap;
import java.util.TreeSet;
import java.util.regex.Matcher;
import java.util.regex.Pattern;
import java.util.spi.ToolProvider;

/** Which methods of some classes call which, as their compiled form has it. Methods of one name are taken as one. */
final class CallGraph {
    private static final Pattern CLASS = Pattern.compile("(?:(?:public|private|static|final) )*class (\\S+).*");
    private static final Pattern METHOD = Pattern.compile("  [^ ].*?([\\w$]+)\\(.*\\)(?: throws .*)?;");
    private static final Pattern CALL = Pattern.compile(".*: invoke\\w+ .*// (?:Interface)?Method ([^:]+):.*");

    private final Map<String, Set<String>> calls = new TreeMap<>();
    private final Set<String> outside = new TreeSet<>();

    private CallGraph() {
    }

    /** Null where this Java has no javap. */
    static CallGraph of(List<String> classes) {
        Optional<ToolProvider> javap = ToolProvider.findFirst("javap");
        if (javap.isEmpty()) {
            return null;
        }
        List<String> arguments = new ArrayList<>(List.of("-c", "-p", "-cp", System.getProperty("java.class.path")));
        arguments.addAll(classes);
        StringWriter told = new StringWriter();
        PrintWriter out = new PrintWriter(told);
        int code = javap.get().run(out, out, arguments.toArray(new String[0]));
        if (code != 0) {
            throw new IllegalStateException("javap: " + told);
        }
        CallGraph graph = new CallGraph();
        graph.take(told.toString());
        return graph;
    }

    private void take(String listing) {
        String owner = "";
        String method = "";
        for (String line : listing.lines().toList()) {
            Matcher head = CLASS.matcher(line);
            Matcher member = METHOD.matcher(line);
            Matcher call = CALL.matcher(line);
            if (head.matches()) {
                owner = head.group(1);
            } else if (member.matches()) {
                method = owner + "." + member.group(1);
                calls.putIfAbsent(method, new TreeSet<>());
            } else if (call.matches()) {
                add(owner, method, call.group(1).replace("\"", ""));
            }
        }
    }

    private void add(String owner, String method, String called) {
        if (called.startsWith("java/")) {
            outside.add(called);
            return;
        }
        String whole = called.contains(".") ? called : owner + "." + called;
        String made = whole.substring(0, whole.indexOf('.'));
        calls.get(method).add(whole.endsWith(".<init>") ? made + "." + made : whole);
    }

    Set<String> methods() {
        return calls.keySet();
    }

    Set<String> outside() {
        return outside;
    }

    /** The longest chain of calls that begins with a method, cut off behind so many: recursion has no end. */
    List<String> deepestFrom(String method, int most) {
        List<String> longest = List.of();
        if (most > 1) {
            for (String called : calls.getOrDefault(method, Set.of())) {
                List<String> chain = deepestFrom(called, most - 1);
                longest = chain.size() > longest.size() ? chain : longest;
            }
        }
        List<String> all = new ArrayList<>(List.of(method));
        all.addAll(longest);
        return all;
    }
}
