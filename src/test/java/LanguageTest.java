import java.lang.reflect.Field;
import java.lang.reflect.Method;
import java.lang.reflect.Modifier;
import java.nio.file.Files;
import java.nio.file.Path;
import java.util.ArrayList;
import java.util.List;
import java.util.Map;
import java.util.TreeMap;
import java.util.TreeSet;
import java.util.regex.Matcher;
import java.util.regex.Pattern;

/** The document's face, and those rules of LANGUAGE.md that a look at the class and its text can tell. */
public final class LanguageTest {
    private static final Check CHECK = new Check("LanguageTest");

    private static final String FACE = "int feed(int,int,int,int,int);int end(int);int river();int rule();int force(int);"
            + "int bind(int,int);int law(int,int);int bend(int,int);int village(int,int);int log(int,int);"
            + "int notch(int,int);int cut(int,int);int cutOver(int,int,int);int undo();int launch(int);"
            + "boolean land(int,int);int burn(int);int saw(int,int);int ahead(int,int);int dam(int);int appeal(int);"
            + "int votes(int,int);int flood(int);int elected(int);int wedding(int);int winter(int);int days(int);"
            + "int floats(int,int);int letAhead(int,int);int kin(int,int);int kinOf(int);int was(int,int);"
            + "int wereAt(int,int,int);int likely(int,int,int,int,int);int sight(int,int,int);int parted(int,int,int);"
            + "int owes(int,int);int payments();int repaid(int,int,int);int seed(int);int drawn(int,int,int,int);"
            + "int count(int);int image(int);int back(int)";

    public static void main(String[] args) throws Exception {
        face();
        classes();
        text(Files.readString(Path.of("src/main/java/RaftForest.java")));
        CHECK.end();
    }

    private static String signature(Method method) {
        StringBuilder types = new StringBuilder();
        for (Class<?> type : method.getParameterTypes()) {
            types.append(types.length() > 0 ? "," : "").append(type.getName());
        }
        return method.getReturnType().getName() + " " + method.getName() + "(" + types + ")";
    }

    private static void face() throws Exception {
        Class<?> it = RaftForest.class;
        CHECK.holds("public and final", Modifier.isPublic(it.getModifiers()) && Modifier.isFinal(it.getModifiers()));
        CHECK.same("one constructor", it.getDeclaredConstructors().length, 1);
        CHECK.holds("it is public", Modifier.isPublic(it.getDeclaredConstructor().getModifiers()));
        TreeSet<String> due = new TreeSet<>(List.of(FACE.split(";")));
        TreeSet<String> got = new TreeSet<>();
        TreeSet<String> names = new TreeSet<>();
        for (Method method : it.getDeclaredMethods()) {
            if (!Modifier.isPrivate(method.getModifiers())) {
                CHECK.holds(method + " is public and not static", method.getModifiers() == Modifier.PUBLIC);
                got.add(signature(method));
                names.add(method.getName());
            }
        }
        CHECK.holds("the methods are those of the document: " + got, got.equals(due));
        for (Field field : it.getDeclaredFields()) {
            CHECK.holds(field + " is private", Modifier.isPrivate(field.getModifiers()) || field.getName().equals("NONE"));
        }
        List<Class<?>> all = new ArrayList<>(List.of(it.getDeclaredClasses()));
        all.add(it);
        for (Class<?> one : all) {
            for (Method method : one.getDeclaredMethods()) {
                if (one != it || Modifier.isPrivate(method.getModifiers())) {
                    CHECK.holds(method + " has no name of the face", !names.contains(method.getName()));
                }
            }
        }
    }

    private static void classes() {
        Class<?>[] inside = RaftForest.class.getDeclaredClasses();
        CHECK.holds("some twelve classes at most", inside.length + 1 <= 12);
        List<Class<?>> all = new ArrayList<>(List.of(inside));
        all.add(RaftForest.class);
        for (Class<?> one : all) {
            if (one != RaftForest.class) {
                CHECK.holds(one + " is static", Modifier.isStatic(one.getModifiers()));
                CHECK.holds(one + " is not public",
                        !Modifier.isPublic(one.getModifiers()) && !Modifier.isProtected(one.getModifiers()));
                CHECK.holds(one + " has no class inside", one.getDeclaredClasses().length == 0);
            }
            int fields = 0;
            for (Field field : one.getDeclaredFields()) {
                if (Modifier.isStatic(field.getModifiers())) {
                    CHECK.holds(field + " is a constant", Modifier.isFinal(field.getModifiers())
                            && (field.getType().isPrimitive() || field.getType() == String.class));
                } else {
                    fields++;
                }
            }
            CHECK.holds(one + " has some twenty fields at most: " + fields, fields <= 20);
            for (Method method : one.getDeclaredMethods()) {
                CHECK.holds(method + " takes seven at most", method.getParameterCount() <= 7);
                CHECK.holds(method + " is none of Object's",
                        !List.of("equals", "hashCode", "toString").contains(method.getName()));
            }
        }
    }

    private static void text(String text) {
        CHECK.holds("signs 1 to 127 alone", text.chars().allMatch(sign -> sign == '\n' || sign >= 32 && sign < 127));
        List<String> imports = new ArrayList<>();
        Matcher lines = Pattern.compile("(?m)^import (.*);$").matcher(text);
        while (lines.find()) {
            imports.add(lines.group(1));
        }
        CHECK.holds("what is imported: " + imports, imports.equals(List.of("java.util.Arrays")));
        String code = text.replaceAll("(?s)/\\*.*?\\*/", "").replaceAll("//[^\n]*", "")
                .replaceAll("'[^'\\\\]'", "0").replaceAll("\"[^\"]*\"", "TEXT");
        String banned = "\\b(throw|throws|try|catch|synchronized|assert|package|native|volatile|transient|strictfp|"
                + "instanceof|record|double|float|var|goto|yield|null|Object|Thread|Runtime|Exception|Error)\\b";
        Matcher words = Pattern.compile(banned).matcher(code);
        while (words.find()) {
            CHECK.holds("there is no " + words.group(), false);
        }
        CHECK.holds("no lambda, no arrow", !code.contains("->"));
        CHECK.holds("no method reference", !code.contains("::"));
        CHECK.holds("no static block", !Pattern.compile("static\\s*\\{").matcher(code).find());
        CHECK.holds("no text is joined by +", !code.contains("TEXT +") && !code.contains("+ TEXT"));
        CHECK.holds("no loop without a condition", !Pattern.compile("while \\(true\\)|for \\(;;").matcher(code).find());
        Matcher calls = Pattern.compile("\\b(System|Math|Integer|Long|Arrays)\\.(\\w+)").matcher(code);
        TreeSet<String> used = new TreeSet<>();
        while (calls.find()) {
            used.add(calls.group());
        }
        // constants of the library are none of what rule 4 lists
        TreeSet<String> allowed = new TreeSet<>(List.of("Arrays.fill", "Integer.bitCount", "Math.floorMod", "Math.max",
                "Math.min", "System.arraycopy"));
        CHECK.holds("what is used of the library: " + used, allowed.containsAll(used));
        // an object is made by a constructor or where a class begins alone: what the calls of a run make is nothing
        int made = 0;
        for (String line : code.split("\n")) {
            if (line.contains(" new ")) {
                made++;
                boolean inClass = line.matches(" {8}(private )?final .* = new .*;");
                boolean inConstructor = code.indexOf(line) > code.indexOf("public RaftForest()")
                        && code.indexOf(line) < code.indexOf("public int feed(");
                CHECK.holds("made by a constructor: " + line.trim(), inClass || inConstructor);
            }
        }
        CHECK.holds("there are some", made > 10);
        Map<String, String> bodies = methods(code);
        CHECK.holds("methods are found: " + bodies.size(), bodies.size() > 100);
        callsDeep(bodies);
    }

    /** Bodies of methods by names; a method begins at four or eight blanks and ends with the next brace there. */
    private static Map<String, String> methods(String code) {
        Map<String, String> bodies = new TreeMap<>();
        String[] lines = code.split("\n");
        for (int i = 0; i < lines.length; i++) {
            Matcher head = Pattern.compile("^( {4}| {8})(?! |if |for |while |switch )[\\w\\[\\] ]*?(\\w+)\\(.*\\{$")
                    .matcher(lines[i]);
            if (head.matches()) {
                int end = i + 1;
                StringBuilder body = new StringBuilder();
                while (!lines[end].equals(head.group(1) + "}")) {
                    body.append(lines[end]).append('\n');
                    end++;
                }
                CHECK.holds("some sixty lines at most: " + lines[i].trim() + " has " + (end - i + 1), end - i + 1 <= 60);
                // those of one name count as one that calls what any of them calls
                bodies.merge(head.group(2), body.toString(), String::concat);
            }
        }
        return bodies;
    }

    /** Rule 11: calls go at most eight deep, a call of the library counted, too; recursion as one turn of it. */
    private static void callsDeep(Map<String, String> bodies) {
        Map<String, TreeSet<String>> called = new TreeMap<>();
        bodies.forEach((name, body) -> {
            TreeSet<String> names = new TreeSet<>();
            Matcher calls = Pattern.compile("(?<!new )\\b(?!if\\b|for\\b|while\\b|switch\\b)(\\w+)\\(").matcher(body);
            while (calls.find()) {
                names.add(calls.group(1));
            }
            called.put(name, names);
        });
        for (String signature : FACE.split(";")) {
            String name = signature.replaceAll("^\\w+ |\\(.*", "");
            List<String> deepest = deepest(name, called, List.of());
            CHECK.holds("eight deep at most: " + deepest, deepest.size() <= 8);
            CHECK.holds(name + " is found", called.containsKey(name));
        }
    }

    private static List<String> deepest(String name, Map<String, TreeSet<String>> called, List<String> open) {
        List<String> here = new ArrayList<>(open);
        here.add(name);
        List<String> deepest = here;
        for (String next : called.getOrDefault(name, new TreeSet<>())) {
            if (!open.contains(next) && !next.equals(name)) {
                List<String> one = deepest(next, called, here);
                deepest = one.size() > deepest.size() ? one : deepest;
            }
        }
        return deepest;
    }
}
