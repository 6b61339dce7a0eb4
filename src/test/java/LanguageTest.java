import java.io.IOException;
import java.lang.reflect.Constructor;
import java.lang.reflect.Field;
import java.lang.reflect.Member;
import java.lang.reflect.Method;
import java.lang.reflect.Modifier;
import java.nio.charset.StandardCharsets;
import java.nio.file.Files;
import java.nio.file.Paths;
import java.util.Arrays;
import java.util.HashSet;
import java.util.List;
import java.util.Set;
import java.util.TreeSet;
import java.util.regex.Matcher;
import java.util.regex.Pattern;

/** The public face, and what LANGUAGE.md leaves of Java, as far as it can be seen from outside. */
public final class LanguageTest {
    private static final Check check = new Check();

    private static final String[] FACE = {"int feed(int,int,int,int,int)", "int back(int)", "int read()", "int place()",
        "int road(int,int)", "int goer(int,int)", "int gained(int)", "int want(int,int)", "int crowds(int,int,int)",
        "boolean flap(int,int)", "boolean turn(int,int)", "boolean wish(int,int,int)", "int days(int)", "boolean undo()",
        "int plan(int,int)", "int rests()", "int bestRest(int)", "int bestGiving(int)", "int settles()", "int oneEach(int)",
        "int closing()", "int search(int,int)", "int bar(int,int)", "int enough(int,int)", "int open(int)",
        "int crowded(int)", "int same(int)", "int then(int,int,int)", "int gainedIn(int,int)", "int year(int,int,int,int)",
        "int tell(int,int,boolean)", "int forget()", "int who(int,int)", "int look(int,int)", "boolean hold(int)",
        "boolean restore(int)", "int count(int)"};

    public static void main(String[] args) throws IOException {
        face();
        classes();
        source();
        check.end();
    }

    private static void face() {
        check.about("rule 1, the face");
        Set<String> due = new TreeSet<>(Arrays.asList(FACE));
        Set<String> got = new TreeSet<>();
        Set<String> names = new HashSet<>();
        for (Method m : BlinkerCross.class.getDeclaredMethods()) {
            if (open(m)) {
                StringBuilder types = new StringBuilder();
                for (Class<?> type : m.getParameterTypes()) {
                    types.append(types.length() > 0 ? "," : "").append(type);
                }
                got.add(m.getReturnType() + " " + m.getName() + "(" + types + ")");
                names.add(m.getName());
                check.due(m.getName() + " is public and of an object", m.getModifiers(), Modifier.PUBLIC);
            }
        }
        check.due("methods " + got, got.equals(due), true);
        for (Method m : BlinkerCross.class.getDeclaredMethods()) {
            check.due("a private method " + m.getName(), !open(m) && names.contains(m.getName()), false);
        }
        for (Field f : BlinkerCross.class.getDeclaredFields()) {
            check.due("the field " + f.getName(), open(f), f.getName().equals("NONE"));
        }
        Constructor<?>[] made = BlinkerCross.class.getDeclaredConstructors();
        check.due("constructors", made.length, 1);
        check.due("public", made[0].getModifiers(), Modifier.PUBLIC);
        check.due("its numbers", made[0].getParameterCount(), 0);
        check.due("NONE", BlinkerCross.NONE, -1);
    }

    private static boolean open(Member m) {
        return !Modifier.isPrivate(m.getModifiers());
    }

    private static void classes() {
        check.about("rules 1, 2, 5 and 11, the classes");
        Class<?>[] inside = BlinkerCross.class.getDeclaredClasses();
        check.due("no more than twelve classes", inside.length < 12, true);
        check.due("the class", BlinkerCross.class.getModifiers(), Modifier.PUBLIC | Modifier.FINAL);
        fields(BlinkerCross.class);
        for (Class<?> c : inside) {
            check.due(c.getName() + " is static", Modifier.isStatic(c.getModifiers()), true);
            check.due(c.getName() + " is hidden", Modifier.isPublic(c.getModifiers()) || Modifier.isProtected(c.getModifiers()),
                    false);
            fields(c);
            for (Method m : c.getDeclaredMethods()) {
                check.due(m.getName() + ": at most seven parameters", m.getParameterCount() <= 7, true);
            }
        }
    }

    private static void fields(Class<?> c) {
        int own = 0;
        for (Field f : c.getDeclaredFields()) {
            boolean isStatic = Modifier.isStatic(f.getModifiers());
            own += isStatic ? 0 : 1;
            check.due(c.getName() + "." + f.getName() + ": a static field is final",
                    isStatic && !Modifier.isFinal(f.getModifiers()), false);
        }
        check.due(c.getName() + ": some twenty fields", own <= 20, true);
    }

    private static void source() throws IOException {
        String text = new String(Files.readAllBytes(Paths.get("src/main/java/BlinkerCross.java")), StandardCharsets.ISO_8859_1);
        check.about("rule 3, signs of the source");
        check.due("signs from 1 to 127", text.chars().allMatch(c -> c > 0 && c < 128), true);
        String code = text.replaceAll("(?s)/\\*.*?\\*/", " ").replaceAll("//[^\n]*", " ")
                .replaceAll("\"([^\"\\\\]|\\\\.)*\"", " ").replaceAll("'([^'\\\\]|\\\\.)'", " ");
        check.about("rules 2, 4, 6, 9 and 13, words of the source");
        List<String> barred = Arrays.asList("throw", "throws", "try", "catch", "finally", "synchronized", "assert", "import",
                "package", "native", "volatile", "transient", "this$0", "float", "double", "Object", "hashCode", "equals",
                "toString", "java", "javax");
        Set<String> own = new HashSet<>(Arrays.asList("BlinkerCross", "String", "Integer", "Math", "System"));
        for (Class<?> c : BlinkerCross.class.getDeclaredClasses()) {
            own.add(c.getSimpleName());
        }
        Matcher word = Pattern.compile("[A-Za-z_$][A-Za-z0-9_$]*").matcher(code);
        while (word.find()) {
            String w = word.group();
            check.due("the word " + w, barred.contains(w), false);
            if (w.matches("[A-Z].*[a-z].*")) {
                check.due("the class " + w, own.contains(w), true);
            }
        }
        check.due("no lambda, no method reference, no annotation", code.matches("(?s).*(->|::|@).*"), false);
        Matcher call = Pattern.compile("\\b(Integer|Math|System)\\s*\\.\\s*(\\w+)").matcher(code);
        List<String> library = Arrays.asList("Integer.bitCount", "Math.max", "Math.min", "System.arraycopy");
        while (call.find()) {
            String c = call.group(1) + "." + call.group(2);
            check.due("the library's " + c, library.contains(c), true);
        }
        check.about("rule 11, short methods");
        Matcher method = Pattern.compile("(?m)^( {4}| {8})[^ }\n][^\n;=]*\\) \\{\n(.*\n)*?\\1\\}\n").matcher(code);
        while (method.find()) {
            int lines = method.group().split("\n").length;
            check.due(method.group().split("\n")[0].trim() + ": " + lines + " lines, some sixty at most", lines <= 60, true);
        }
    }
}
