import java.io.IOException;
import java.lang.reflect.Constructor;
import java.lang.reflect.Field;
import java.lang.reflect.Method;
import java.lang.reflect.Modifier;
import java.nio.file.Files;
import java.nio.file.Path;
import java.util.ArrayList;
import java.util.Collections;
import java.util.HashMap;
import java.util.List;
import java.util.Map;
import java.util.TreeSet;
import java.util.regex.Matcher;
import java.util.regex.Pattern;

/** The public face of the document, and rules of LANGUAGE.md that can be seen from outside or in the source. */
public final class FaceTests {
    private static final Check CHECK = new Check();
    private static final List<String> FACE = List.of("int feed(int,int,int,int,int)", "int back(int)", "int read()",
        "int place()", "int ins(int,int,int)", "boolean begin(int)", "boolean step(int)", "boolean undo()",
        "int register(int,int)", "int memory(int)", "int next(int)", "int store(int,int,int)", "int outcomes(int)",
        "int outcome(int,int,int)", "int schedule(int,int,int)", "int more(int)", "int race()", "int racer(int)",
        "int cure(int)", "int cured(int)", "int count(int)");

    private static final List<Class<?>> CONSTANTS = List.of(int.class, long.class, boolean.class, char.class, String.class,
        int[].class, long[].class, char[].class, byte[].class);

    public static void main(String[] args) throws IOException {
        face();
        classesInside();
        String source = Files.readString(Path.of("src/main/java/LitmusHall.java"));
        words(source);
        shortMethods(source);
        CHECK.end();
    }

    private static void face() {
        int mods = LitmusHall.class.getModifiers();
        CHECK.due("public and final", Modifier.isPublic(mods) && Modifier.isFinal(mods), true);
        List<String> methods = new ArrayList<>();
        TreeSet<String> publicNames = new TreeSet<>();
        TreeSet<String> privateNames = new TreeSet<>();
        for (Method method : LitmusHall.class.getDeclaredMethods()) {
            if (Modifier.isPrivate(method.getModifiers()) || method.isSynthetic()) {
                privateNames.add(method.getName());
            } else {
                publicNames.add(method.getName());
                CHECK.due(method.getName() + " is public", Modifier.isPublic(method.getModifiers()), true);
                CHECK.due(method.getName() + " is of the object", Modifier.isStatic(method.getModifiers()), false);
                methods.add(signature(method));
            }
        }
        List<String> want = new ArrayList<>(FACE);
        Collections.sort(methods);
        Collections.sort(want);
        CHECK.due("methods " + methods, methods.equals(want), true);
        publicNames.retainAll(privateNames);
        CHECK.due("private ones with public names " + publicNames, publicNames.isEmpty(), true);
        Constructor<?>[] constructors = LitmusHall.class.getDeclaredConstructors();
        CHECK.due("constructors", constructors.length, 1);
        CHECK.due("its parameters", constructors[0].getParameterCount(), 0);
        CHECK.due("constructor is public", Modifier.isPublic(constructors[0].getModifiers()), true);
        for (Field field : LitmusHall.class.getDeclaredFields()) {
            CHECK.due(field.getName() + " is private", Modifier.isPrivate(field.getModifiers()),
                !field.getName().equals("NONE"));
        }
        CHECK.due("NONE", LitmusHall.NONE, -1);
    }

    private static String signature(Method method) {
        StringBuilder text = new StringBuilder(method.getReturnType().getSimpleName() + " " + method.getName() + "(");
        for (Class<?> type : method.getParameterTypes()) {
            text.append(text.charAt(text.length() - 1) == '(' ? "" : ",").append(type.getSimpleName());
        }
        return text.append(')').toString();
    }

    private static boolean isListed(Class<?> type, Map<String, Class<?>> own) {
        Class<?> part = type.isArray() ? type.getComponentType() : type;
        return part.isPrimitive() || part == String.class || own.containsValue(part);
    }

    private static void classesInside() {
        TreeSet<String> names = new TreeSet<>();
        for (String signature : FACE) {
            names.add(signature.substring(signature.indexOf(' ') + 1, signature.indexOf('(')));
        }
        Class<?>[] inside = LitmusHall.class.getDeclaredClasses();
        CHECK.due("at most twelve classes", inside.length < 12, true);
        Map<String, Class<?>> all = new HashMap<>();
        all.put("LitmusHall", LitmusHall.class);
        for (Class<?> type : inside) {
            CHECK.due(type + " is static", Modifier.isStatic(type.getModifiers()), true);
            CHECK.due(type + " is not public", Modifier.isPublic(type.getModifiers()), false);
            all.put(type.getSimpleName(), type);
        }
        for (Class<?> type : all.values()) {
            int fields = 0;
            for (Field field : type.getDeclaredFields()) {
                boolean constant = Modifier.isStatic(field.getModifiers());
                fields += constant ? 0 : 1;
                CHECK.due(field + " is final if static", !constant || Modifier.isFinal(field.getModifiers()), true);
                CHECK.due(field + " is a constant if static", !constant || CONSTANTS.contains(field.getType()), true);
                CHECK.due(field + " is of a type that rule 3 lists", isListed(field.getType(), all), true);
            }
            CHECK.due(type + " has at most twenty fields", fields <= 20, true);
            for (Method method : type.getDeclaredMethods()) {
                CHECK.due(method + " takes at most seven", method.getParameterCount() <= 7, true);
                boolean nested = type != LitmusHall.class && !method.isSynthetic();
                CHECK.due(method + " has a name of its own", nested && names.contains(method.getName()), false);
            }
        }
    }

    private static void words(String source) {
        String bare = source.replaceAll("(?s)/\\*.*?\\*/", " ").replaceAll("//[^\n]*", " ").replaceAll("\"[^\"]*\"", "TEXT");
        String[] banned = {"\\bthrow\\b", "\\bthrows\\b", "\\btry\\b", "\\bcatch\\b", "\\bsynchronized\\b", "\\bassert\\b",
            "\\bpackage\\b", "->", "::", "\\bObject\\b", "\\bRandom\\b", "\\bnanoTime\\b", "\\bcurrentTimeMillis\\b",
            "\\bhashCode\\b", "\\btoString\\b", "\\bprotected\\b", "\\bwhile \\(true\\)", "for \\(;", "Exact\\b",
            "TEXT\\s*\\+", "\\+\\s*TEXT"};
        for (String word : banned) {
            CHECK.due("source has " + word, Pattern.compile(word).matcher(bare).find(), false);
        }
        Matcher imports = Pattern.compile("import ([^;]*);").matcher(bare);
        while (imports.find()) {
            CHECK.due("import " + imports.group(1), imports.group(1).matches("java\\.util\\.(Arrays|ArrayList|List|Iterator)"), true);
        }
        Matcher calls = Pattern.compile("\\b(System|Arrays)\\.(\\w+)").matcher(bare);
        while (calls.find()) {
            CHECK.due("call of " + calls.group(), calls.group(2).matches("arraycopy|copyOf|copyOfRange|fill"), true);
        }
    }

    private static void shortMethods(String source) {
        int start = 0;
        String[] lines = source.split("\n");
        for (int n = 0; n < lines.length; n++) {
            if (lines[n].matches(" {4,8}[\\w\\[\\] ]+\\(.*\\) \\{")) {
                start = n;
            }
            if (lines[n].matches(" {4,8}\\}")) {
                CHECK.due("lines of " + lines[start].trim(), n - start <= 60 || lines[start].contains("class"), true);
                start = n;
            }
        }
    }
}
