import java.io.ByteArrayOutputStream;
import java.io.PrintStream;
import java.util.ArrayList;
import java.util.HashMap;
import java.util.List;
import java.util.Map;
import java.util.Optional;
import java.util.TreeSet;
import java.util.regex.Matcher;
import java.util.regex.Pattern;
import java.util.spi.ToolProvider;

/**
 * Rules of LANGUAGE.md, as the compiled class keeps to them: 8 and 11, no recursion, and calls go at most eight deep; 4,
 * only what it lists of the library; 2, 6 and 10, nothing thrown, cast, locked or made by the machine's own hand.
 */
public final class DepthTests {
    private static final Check CHECK = new Check();
    private static final int MOST = 8;
    private static final Pattern HEAD = Pattern.compile("^(?:\\w+ )*class (\\S+).*\\{$");
    private static final Pattern METHOD = Pattern.compile("^  (?:[\\w\\[\\]$. ]+ )?([\\w$.]+)\\([^)]*\\);$");
    private static final Pattern CALL = Pattern.compile("invoke\\w+ .*// (?:Interface)?Method ([^:]*):");

    private static final Pattern INSTRUCTION = Pattern.compile("^ +\\d+: ([a-z_0-9]+)\\b.*");
    // Of what rule 4 lists, what a class without texts and lists of its own can need.
    private static final Pattern LIBRARY = Pattern.compile("java\\.lang\\.(Object\\.<init>|String\\.(length|charAt)"
        + "|Math\\.(max|min)|Integer\\.compare|System\\.arraycopy)|java\\.util\\.Arrays\\.(copyOf|copyOfRange|fill)");
    private static final List<String> BANNED = List.of("athrow", "checkcast", "instanceof", "monitorenter", "monitorexit",
        "invokedynamic", "multianewarray", "jsr");

    private static final Map<String, TreeSet<String>> CALLS = new HashMap<>();

    public static void main(String[] args) {
        Optional<ToolProvider> javap = ToolProvider.findFirst("javap");
        CHECK.due("classes of the file", LitmusHall.class.getDeclaredClasses().length < 12, true);
        if (javap.isPresent()) {
            readCalls(javap.get());
            CHECK.due("calls are seen", CALLS.containsKey("LitmusHall.read"), true);
            for (String method : CALLS.keySet()) {
                int depth = depth(method, new ArrayList<>());
                library(method);
                CHECK.due("depth of " + method + " is " + depth + ", at most " + MOST, depth <= MOST, true);
            }
        } else {
            System.out.println("no javap here: depths are not looked at");
        }
        CHECK.end();
    }

    private static void readCalls(ToolProvider javap) {
        List<String> names = new ArrayList<>(List.of("-p", "-c", "-classpath", System.getProperty("java.class.path"), "LitmusHall"));
        for (Class<?> inside : LitmusHall.class.getDeclaredClasses()) {
            names.add(inside.getName());
        }
        ByteArrayOutputStream out = new ByteArrayOutputStream();
        javap.run(new PrintStream(out), System.err, names.toArray(new String[0]));
        String type = "";
        String method = "";
        for (String line : out.toString().split("\\R")) {
            Matcher head = HEAD.matcher(line);
            Matcher declared = METHOD.matcher(line);
            Matcher call = CALL.matcher(line);
            Matcher instruction = INSTRUCTION.matcher(line);
            if (instruction.matches()) {
                CHECK.due(method + " has " + instruction.group(1), BANNED.contains(instruction.group(1)), false);
            }
            CHECK.due(method + " has a row of catches", line.contains("Exception table:"), false);
            if (head.matches()) {
                type = head.group(1);
            } else if (declared.matches()) {
                method = type + "." + (declared.group(1).equals(type) ? "<init>" : declared.group(1));
                CALLS.putIfAbsent(method, new TreeSet<>());
            } else if (call.find()) {
                String target = call.group(1).replace("\"", "").replace('/', '.');
                CALLS.get(method).add(target.contains(".") ? target : type + "." + target);
            }
        }
    }

    private static void library(String method) {
        for (String called : CALLS.get(method)) {
            boolean own = called.startsWith("LitmusHall");
            CHECK.due(method + " calls " + called, own || LIBRARY.matcher(called).matches(), true);
        }
    }

    private static int depth(String method, List<String> open) {
        if (open.contains(method)) {
            CHECK.due("recursion of " + method, true, false);
            return 1;
        }
        open.add(method);
        int deepest = 0;
        for (String called : CALLS.getOrDefault(method, new TreeSet<>())) {
            deepest = Math.max(deepest, depth(called, open));
        }
        open.remove(method);
        return deepest + 1;
    }
}
