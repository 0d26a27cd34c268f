import java.io.ByteArrayOutputStream;
import java.io.PrintStream;
import java.util.ArrayList;
import java.util.HashMap;
import java.util.List;
import java.util.Map;
import java.util.Optional;
import java.util.TreeSet;
import java.util.regex.Matcher;
import java.util.regex.Pattern;
import java.util.spi.ToolProvider;

/** Rules 8 and 11 of LANGUAGE.md: no recursion, and calls go at most eight deep, as the compiled class has them. */
public final class DepthTests {
    private static final Check CHECK = new Check();
    private static final int MOST = 8;
    private static final Pattern HEAD = Pattern.compile("^(?:\\w+ )*class (\\S+).*\\{$");
    private static final Pattern METHOD = Pattern.compile("^  (?:[\\w\\[\\]$. ]+ )?([\\w$.]+)\\([^)]*\\);$");
    private static final Pattern CALL = Pattern.compile("invoke\\w+ .*// (?:Interface)?Method ([^:]*):");

    private static final Map<String, TreeSet<String>> CALLS = new HashMap<>();

    public static void main(String[] args) {
        Optional<ToolProvider> javap = ToolProvider.findFirst("javap");
        CHECK.due("classes of the file", LitmusHall.class.getDeclaredClasses().length < 12, true);
        if (javap.isPresent()) {
            readCalls(javap.get());
            CHECK.due("calls are seen", CALLS.containsKey("LitmusHall.read"), true);
            for (String method : CALLS.keySet()) {
                int depth = depth(method, new ArrayList<>());
                CHECK.due("depth of " + method + " is " + depth + ", at most " + MOST, depth <= MOST, true);
            }
        } else {
            System.out.println("no javap here: depths are not looked at");
        }
        CHECK.end();
    }

    private static void readCalls(ToolProvider javap) {
        List<String> names = new ArrayList<>(List.of("-p", "-c", "-classpath", System.getProperty("java.class.path"), "LitmusHall"));
        for (Class<?> inside : LitmusHall.class.getDeclaredClasses()) {
            names.add(inside.getName());
        }
        ByteArrayOutputStream out = new ByteArrayOutputStream();
        javap.run(new PrintStream(out), System.err, names.toArray(new String[0]));
        String type = "";
        String method = "";
        for (String line : out.toString().split("\\R")) {
            Matcher head = HEAD.matcher(line);
            Matcher declared = METHOD.matcher(line);
            Matcher call = CALL.matcher(line);
            if (head.matches()) {
                type = head.group(1);
            } else if (declared.matches()) {
                method = type + "." + (declared.group(1).equals(type) ? "<init>" : declared.group(1));
                CALLS.putIfAbsent(method, new TreeSet<>());
            } else if (call.find()) {
                String target = call.group(1).replace("\"", "").replace('/', '.');
                CALLS.get(method).add(target.contains(".") ? target : type + "." + target);
            }
        }
    }

    private static int depth(String method, List<String> open) {
        if (open.contains(method)) {
            CHECK.due("recursion of " + method, true, false);
            return 1;
        }
        open.add(method);
        int deepest = 0;
        for (String called : CALLS.getOrDefault(method, new TreeSet<>())) {
            deepest = Math.max(deepest, depth(called, open));
        }
        open.remove(method);
        return deepest + 1;
    }
}
