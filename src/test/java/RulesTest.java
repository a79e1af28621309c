import java.io.IOException;
import java.lang.reflect.Constructor;
import java.lang.reflect.Field;
import java.lang.reflect.Method;
import java.lang.reflect.Modifier;
import java.nio.file.Files;
import java.nio.file.Path;
import java.util.Arrays;
import java.util.List;
import java.util.Map;
import java.util.Set;
import java.util.TreeMap;
import java.util.TreeSet;
import java.util.regex.Matcher;
import java.util.regex.Pattern;

/** What can be seen of LANGUAGE.md, and of the document's face, from the source and the compiled class. */
public final class RulesTest {
    private static final Path SOURCE = Path.of("src/main/java/TrueMaps.java");
    private static final List<String> FACE = List.of(
        "int draw(int,int,int)", "int cell(int,int)", "long cells(int)", "int income(int)", "int mender(int,int)",
        "int of(int,int)", "int set(int,int,int)", "int turn(int,int)", "int as(int,int)", "int cost(int,int)",
        "int mend(int,int)", "int years(int)", "int now(int)", "int on(int,int,int)", "int wrong(int)", "int done()",
        "int when(int)", "int cheapest(int)", "int best(int)", "int two(int)", "int left(int)", "int kind(int,int)",
        "int purse(int,int)", "int needed(int)", "int way(int,int,int)", "int feed(int,int)", "int wipe()",
        "int map()", "int sheet(int,int,int)", "long write(int,int,long)", "int copy(int,int,int,int,int)",
        "int lays(int)", "int book(int)", "int read(int,int)", "int image()", "int undo()", "int tear()",
        "int count(int)", "int status(int)");
    private static final List<String> NOT_ALLOWED = List.of(
        "import", "package", "throw", "throws", "try", "catch", "synchronized", "assert", "Exact", "Object", "var",
        "protected", "volatile", "transient", "native", "System.out", "System.exit", "hashCode", "toString", "->", "::");
    private static final Due due = new Due("RulesTest");

    private RulesTest() {
    }

    public static void main(String[] args) throws IOException {
        face();
        names();
        fields();
        source();
        depth();
        due.end();
    }

    private static String told(Method m) {
        StringBuilder types = new StringBuilder();
        for (Class<?> type : m.getParameterTypes()) {
            types.append(types.length() > 0 ? "," : "").append(type.getName());
        }
        return m.getReturnType().getName() + " " + m.getName() + "(" + types + ")";
    }

    private static void face() {
        due.holds("public and final", Modifier.isPublic(TrueMaps.class.getModifiers())
            && Modifier.isFinal(TrueMaps.class.getModifiers()));
        Set<String> found = new TreeSet<>();
        for (Method m : TrueMaps.class.getDeclaredMethods()) {
            if (Modifier.isPublic(m.getModifiers())) {
                due.holds(m.getName() + " is of an object", !Modifier.isStatic(m.getModifiers()));
                found.add(told(m));
            } else {
                due.holds(m.getName() + " is private", Modifier.isPrivate(m.getModifiers()));
            }
        }
        due.holds("the face is the document's: " + found, found.equals(new TreeSet<>(FACE)));
        Constructor<?>[] makers = TrueMaps.class.getDeclaredConstructors();
        due.holds("one constructor", makers.length == 1 && Modifier.isPublic(makers[0].getModifiers())
            && makers[0].getParameterCount() == 0);
    }

    private static void names() {
        Set<String> faceNames = new TreeSet<>();
        for (String method : FACE) {
            faceNames.add(method.substring(method.indexOf(' ') + 1, method.indexOf('(')));
        }
        Class<?>[] inside = TrueMaps.class.getDeclaredClasses();
        due.holds("at most twelve classes", inside.length <= 12);
        for (Class<?> type : inside) {
            due.holds(type + " is static", Modifier.isStatic(type.getModifiers()));
            due.holds(type + " is not public", !Modifier.isPublic(type.getModifiers()));
            for (Method m : type.getDeclaredMethods()) {
                due.holds(m + " bears no name of the face", !faceNames.contains(m.getName()));
                due.holds(m + " takes at most seven", m.getParameterCount() <= 7);
            }
        }
        for (Method m : TrueMaps.class.getDeclaredMethods()) {
            due.holds(m + " bears no name of the face",
                Modifier.isPublic(m.getModifiers()) || !faceNames.contains(m.getName()));
            due.holds(m + " takes at most seven", m.getParameterCount() <= 7);
        }
    }

    private static void fields() {
        Class<?>[] inside = TrueMaps.class.getDeclaredClasses();
        Class<?>[] all = Arrays.copyOf(inside, inside.length + 1);
        all[inside.length] = TrueMaps.class;
        for (Class<?> type : all) {
            int own = 0;
            for (Field f : type.getDeclaredFields()) {
                if (Modifier.isStatic(f.getModifiers())) {
                    due.holds(f + " is final", Modifier.isFinal(f.getModifiers()));
                    due.holds(f + " is a number", f.getType() == int.class || f.getType() == long.class);
                } else {
                    own++;
                }
                due.holds(f + " is hidden", type != TrueMaps.class || Modifier.isPrivate(f.getModifiers()));
            }
            due.holds(type + " has at most twenty fields", own <= 20);
        }
    }

    private static void source() throws IOException {
        List<String> lines = Files.readAllLines(SOURCE);
        int begin = -1;
        for (int i = 0; i < lines.size(); i++) {
            String line = lines.get(i).replaceAll("//.*|/\\*\\*.*\\*/", "").replaceAll("\"[^\"]*\"", "\"\"");
            for (String word : NOT_ALLOWED) {
                boolean letters = Character.isLetter(word.charAt(0));
                String form = ".*" + (letters ? "\\b" : "") + Pattern.quote(word)
                    + (letters ? "\\b" : "") + ".*";
                due.holds("no " + word + " in line " + (i + 1), !line.matches(form));
            }
            due.holds("signs below 128 in line " + (i + 1), lines.get(i).chars().allMatch(c -> c < 128));
            if (line.matches("(    |        )[a-z].*\\) \\{") && !line.contains(" if ")) {
                begin = i;
            }
            if (line.matches("(    |        )\\}") && begin >= 0) {
                due.holds("the method of line " + (begin + 1) + " is short", i - begin <= 60);
                begin = -1;
            }
        }
    }

    /** Names of methods are told apart by no class here, which can only make the depth look greater. */
    private static void depth() throws IOException {
        Map<String, Set<String>> calls = new TreeMap<>();
        Pattern head = Pattern.compile("(?:    |        )(?:[a-z]+ )*[A-Za-z\\[\\]]+ ([a-zA-Z]+)\\(.*\\) \\{");
        Pattern call = Pattern.compile("(new )?\\b([a-zA-Z]+)\\(");
        String method = "";
        for (String line : Files.readAllLines(SOURCE)) {
            Matcher begins = head.matcher(line);
            if (begins.matches()) {
                method = begins.group(1);
                due.holds("one method is named " + method, calls.put(method, new TreeSet<>()) == null);
            } else if (calls.containsKey(method)) {
                Matcher called = call.matcher(line);
                while (called.find()) {
                    calls.get(method).add(called.group(1) == null ? called.group(2) : "");
                }
            }
        }
        due.holds("all methods are seen", calls.size() > FACE.size() + 30);
        for (String name : calls.keySet()) {
            due.holds("calls from " + name + " go at most eight deep", depthOf(name, calls, 0) <= 8);
        }
    }

    private static int depthOf(String name, Map<String, Set<String>> calls, int open) {
        int most = 0;
        if (!calls.containsKey(name) || open > 20) {
            return calls.containsKey(name) ? 1000 : 0;
        }
        for (String called : calls.get(name)) {
            most = Math.max(most, depthOf(called, calls, open + 1));
        }
        return most + 1;
    }
}
