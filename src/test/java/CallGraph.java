import java.io.PrintWriter;
import java.io.StringWriter;
import java.util.ArrayDeque;
import java.util.ArrayList;
import java.util.Deque;
import java.util.HashMap;
import java.util.HashSet;
import java.util.List;
import java.util.Map;
import java.util.Set;
import java.util.TreeMap;
import java.util.TreeSet;
import java.util.regex.Matcher;
import java.util.regex.Pattern;
import java.util.spi.ToolProvider;

/** Who calls whom in the compiled class, by what the machine will do: methods that call one another count as one. */
final class CallGraph {
    private static final Pattern CLASS = Pattern.compile("^(?:[a-z]+ )*class (\\S+).*$");
    private static final Pattern METHOD = Pattern.compile("^  (?:[a-z]+ )*?(?:[\\w.$\\[\\]]+ )?([\\w$.]+)\\(.*\\);$");
    private static final Pattern INVOKED = Pattern.compile("// (?:Interface)?Method ([^:]+):(\\S+)");

    final Set<String> library = new TreeSet<>();
    private final Map<String, Set<String>> calls = new TreeMap<>();
    private final Map<String, Integer> found = new HashMap<>();
    private final Map<String, Integer> lowest = new HashMap<>();
    private final Map<String, Set<String>> together = new HashMap<>();
    private final Deque<String> standing = new ArrayDeque<>();
    private final Map<Set<String>, Integer> depths = new HashMap<>();

    private CallGraph() {
    }

    /** Null where this Java has no javap of its own. */
    static CallGraph of(Class<?> outer) {
        ToolProvider javap = ToolProvider.findFirst("javap").orElse(null);
        if (javap == null) {
            return null;
        }
        List<String> arguments = new ArrayList<>(List.of("-c", "-p", "-cp", System.getProperty("java.class.path")));
        arguments.add(outer.getName());
        for (Class<?> inside : outer.getDeclaredClasses()) {
            arguments.add(inside.getName());
        }
        StringWriter text = new StringWriter();
        PrintWriter out = new PrintWriter(text);
        javap.run(out, out, arguments.toArray(new String[0]));
        CallGraph graph = new CallGraph();
        graph.read(text.toString());
        return graph;
    }

    private void read(String text) {
        String name = "";
        String method = "";
        for (String line : text.lines().toList()) {
            Matcher type = CLASS.matcher(line);
            Matcher declared = METHOD.matcher(line);
            Matcher invoked = INVOKED.matcher(line);
            if (type.matches()) {
                name = type.group(1);
            } else if (declared.matches()) {
                method = name + "." + (declared.group(1).equals(name) ? "\"<init>\"" : declared.group(1));
                calls.computeIfAbsent(method, none -> new TreeSet<>());
            } else if (invoked.find()) {
                String called = invoked.group(1);
                if (called.startsWith("java/")) {
                    library.add(called + invoked.group(2));
                } else {
                    calls.get(method).add(called.contains(".") ? called : name + "." + called);
                }
            } else if (line.contains("// InvokeDynamic")) {
                library.add(line.strip());
            }
        }
        for (String one : calls.keySet()) {
            if (!found.containsKey(one)) {
                join(one);
            }
        }
    }

    int methods() {
        return calls.size();
    }

    /** Tarjan's way to find the methods that call one another. */
    private void join(String method) {
        found.put(method, found.size());
        lowest.put(method, found.get(method));
        standing.push(method);
        for (String called : calls.getOrDefault(method, Set.of())) {
            if (!found.containsKey(called)) {
                join(called);
                lowest.merge(method, lowest.get(called), Math::min);
            } else if (!together.containsKey(called)) {
                lowest.merge(method, found.get(called), Math::min);
            }
        }
        if (lowest.get(method).equals(found.get(method))) {
            Set<String> group = new HashSet<>();
            String one;
            do {
                one = standing.pop();
                group.add(one);
                together.put(one, group);
            } while (!one.equals(method));
        }
    }

    /** How many calls can stand open at once from a method on, itself too. */
    int depth(String method) {
        return depth(together.get(method));
    }

    private int depth(Set<String> group) {
        if (group == null) {
            return 0;
        }
        Integer known = depths.get(group);
        if (known != null) {
            return known;
        }
        int deepest = 0;
        for (String method : group) {
            for (String called : calls.getOrDefault(method, Set.of())) {
                if (together.get(called) != group) {
                    deepest = Math.max(deepest, depth(together.get(called)));
                }
            }
        }
        depths.put(group, deepest + 1);
        return deepest + 1;
    }

    Set<String> all() {
        return calls.keySet();
    }

    /** Methods of the classes inside and private ones that nothing calls. */
    Set<String> idle(Set<String> face) {
        Set<String> idle = new TreeSet<>(calls.keySet());
        for (Set<String> called : calls.values()) {
            idle.removeAll(called);
        }
        idle.removeAll(face);
        return idle;
    }
}
