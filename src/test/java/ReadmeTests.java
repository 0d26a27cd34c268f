import java.io.IOException;
import java.lang.reflect.Method;
import java.lang.reflect.Modifier;
import java.net.URL;
import java.net.URLClassLoader;
import java.nio.file.Files;
import java.nio.file.Path;
import java.util.ArrayList;
import java.util.List;
import java.util.TreeSet;
import java.util.regex.Matcher;
import java.util.regex.Pattern;
import java.util.stream.Stream;
import javax.tools.JavaCompiler;
import javax.tools.ToolProvider;

/** README.md: what it shows of the use of the class is compiled and run, what it tells of the tests is done. */
public final class ReadmeTests {
    private static final Check CHECK = new Check();
    private static final Path OUT = Path.of("build/readme");
    private static final Pattern CALL = Pattern.compile("(hall\\.(\\w+)\\(.*?\\)); *// (-?\\d+|NONE|true|false)\\b(.*)");
    private static final Pattern FEED = Pattern.compile("hall\\.feed\\((.*)\\)");
    private static final Pattern QUOTED = Pattern.compile(" \"(.*)\"");

    private static final StringBuilder MEMBERS = new StringBuilder();
    private static final StringBuilder SHOWN = new StringBuilder();
    private static final StringBuilder TOLD = new StringBuilder();
    private static final List<String> CALLS = new ArrayList<>();
    private static final List<String> DUE = new ArrayList<>();
    private static final TreeSet<String> NAMES = new TreeSet<>();

    public static void main(String[] args) throws Exception {
        String readme = Files.readString(Path.of("README.md"));
        Files.createDirectories(OUT);
        for (String block : blocks(readme, "java")) {
            readShown(block);
        }
        shownIsJava();
        answersAreAsTold();
        eachMethodIsShown();
        testsAreNamed(readme);
        commandsDoIt(readme);
        CHECK.end();
    }

    private static List<String> blocks(String readme, String language) {
        List<String> blocks = new ArrayList<>();
        Matcher block = Pattern.compile("(?ms)^```" + language + "\n(.*?)^```$").matcher(readme);
        while (block.find()) {
            blocks.add(block.group(1));
        }
        CHECK.due("there are blocks of " + language, blocks.isEmpty(), false);
        return blocks;
    }

    private static void readShown(String block) {
        if (block.startsWith("static ")) {
            MEMBERS.append(block);
            return;
        }
        for (String line : block.split("\n")) {
            SHOWN.append(line).append('\n');
            Matcher call = CALL.matcher(line);
            if (call.matches()) {
                CALLS.add(call.group(1));
                NAMES.add(call.group(2));
                DUE.add(call.group(3).equals("NONE") ? "-1" : call.group(3));
                TOLD.append("answers.add(String.valueOf(").append(call.group(1)).append("));\n");
                fedTextIsAsQuoted(call.group(1), call.group(4));
            } else {
                // A call whose line tells no answer would be shown, and not tested.
                boolean known = line.startsWith("put(hall, \"") || line.equals("LitmusHall hall = new LitmusHall();");
                CHECK.due("the line '" + line + "' tells an answer", known, true);
                TOLD.append(line).append('\n');
            }
        }
    }

    private static void fedTextIsAsQuoted(String call, String comment) {
        Matcher feed = FEED.matcher(call);
        Matcher quoted = QUOTED.matcher(comment);
        if (!feed.matches()) {
            return;
        }
        CHECK.due(call + " quotes its text", quoted.matches() && quoted.group(1).length() == 20, true);
        String[] words = feed.group(1).split(", ");
        for (int i = 0; i < words.length && quoted.matches(); i++) {
            CHECK.due("word " + i + " of " + call, Long.decode(words[i]).intValue(), Check.word(quoted.group(1), 4 * i));
        }
    }

    private static void compile(String name, String body) throws IOException {
        Path file = OUT.resolve(name + ".java");
        Files.writeString(file, "import java.util.*;\npublic final class " + name + " {\n" + MEMBERS + body + "}\n");
        JavaCompiler javac = ToolProvider.getSystemJavaCompiler();
        CHECK.due("there is a javac", javac != null, true);
        int answer = javac.run(null, null, null, "-Xlint:all", "-Werror", "-cp", System.getProperty("java.class.path"),
            "-d", OUT.toString(), file.toString());
        CHECK.due("javac of " + name, answer, 0);
    }

    /** As it stands, so that who copies it can compile it. */
    private static void shownIsJava() throws IOException {
        compile("ReadmeShown", "public static void shown() {\n" + SHOWN + "}\n");
    }

    private static void answersAreAsTold() throws Exception {
        compile("ReadmeTold", "public static List<String> told() {\nList<String> answers = new ArrayList<>();\n" + TOLD
            + "return answers;\n}\n");
        try (URLClassLoader loader = new URLClassLoader(new URL[] {OUT.toUri().toURL()})) {
            List<?> answers = (List<?>) loader.loadClass("ReadmeTold").getMethod("told").invoke(null);
            CHECK.due("answers", answers.size(), DUE.size());
            for (int i = 0; i < answers.size(); i++) {
                CHECK.due("line " + i + ", " + CALLS.get(i) + ",", answers.get(i).toString(), DUE.get(i));
            }
        }
    }

    private static void eachMethodIsShown() {
        for (Method method : LitmusHall.class.getDeclaredMethods()) {
            if (Modifier.isPublic(method.getModifiers())) {
                CHECK.due(method.getName() + " is shown", NAMES.contains(method.getName()), true);
            }
        }
    }

    private static void testsAreNamed(String readme) throws IOException {
        TreeSet<String> named = new TreeSet<>();
        Matcher name = Pattern.compile("`(\\w+Tests)`").matcher(readme);
        while (name.find()) {
            named.add(name.group(1));
        }
        TreeSet<String> there = new TreeSet<>();
        try (Stream<Path> files = Files.list(Path.of("src/test/java"))) {
            files.forEach(file -> there.add(file.getFileName().toString().replace(".java", "")));
        }
        CHECK.due("tests that are named", named.toString(), there.toString());
    }

    private static void commandsDoIt(String readme) throws Exception {
        List<String> commands = blocks(readme, "sh");
        // Not run here: it runs this very test. CiTests tries it on a small project.
        CHECK.due("first command", commands.remove(0), ".ci/run\n");
        CHECK.due(".ci/run can be run", Files.isExecutable(Path.of(".ci/run")), true);
        CHECK.due("there are commands for one test", commands.size(), 1);
        for (String command : commands) {
            Process process = new ProcessBuilder("sh", "-e", "-c", command).redirectErrorStream(true).start();
            String output = new String(process.getInputStream().readAllBytes());
            CHECK.due(command + output, process.waitFor(), 0);
            CHECK.due("last line of\n" + command + output, output.contains("\n0 of ") || output.startsWith("0 of "), true);
        }
    }
}
