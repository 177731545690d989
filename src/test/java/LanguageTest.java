import java.io.IOException;
import java.lang.reflect.Constructor;
import java.lang.reflect.Field;
import java.lang.reflect.Method;
import java.lang.reflect.Modifier;
import java.nio.file.Files;
import java.nio.file.Path;
import java.util.ArrayList;
import java.util.List;
import java.util.Set;
import java.util.TreeSet;
import java.util.regex.Matcher;
import java.util.regex.Pattern;

/** What can be told by a program of LANGUAGE.md's rules, and the public face. Run it at the root. */
public final class LanguageTest {
    private static final Due DUE = new Due("LanguageTest");

    private static final String[] FACE = {
        "int point(int,int,int,int)", "int move(int,int,int,int)", "int sure(int,boolean)",
        "int put(int,boolean)", "int of(int,int)", "long bend(int,int)",
        "long carry(int,int,int,int)", "long off(int,int,int)", "long miss(int,int)",
        "int beyond(int)", "int lying(int)", "int drop(int)", "int rule(int,int)",
        "int triangle(int,int,int)", "int state(int)", "int within(int,int,int)",
        "long carried(int,int,int,int,int)", "int meet(int,int,int)", "int area(int,int)",
        "int thing(int,int,int,int)", "int sweep(int)", "int match(int,int)", "int cost(int)",
        "int left(int)", "int many(int)", "int keep()", "int back()"};

    /** Of what rule 4 names the class uses no more than this. */
    private static final Set<String> LIBRARY = Set.of("java.lang.Integer.bitCount(int)",
            "java.lang.Math.abs(int)", "java.lang.Math.abs(long)",
            "java.lang.Math.floorDiv(long,long)", "java.lang.Math.min(int,int)",
            "java.lang.System.arraycopy(java.lang.Object,int,java.lang.Object,int,int)");

    private LanguageTest() {
    }

    public static void main(String[] args) throws IOException {
        face();
        insideClasses();
        Path file = Path.of("src/main/java/OldMap.java");
        callsOf(new SourceCalls(file));
        String source = Files.readString(file);
        words(withoutTexts(source));
        objects(withoutTexts(source));
        lengths(source);
        DUE.end();
    }

    private static String shape(Method m) {
        StringBuilder s = new StringBuilder(m.getReturnType().getSimpleName() + " " + m.getName());
        List<String> types = new ArrayList<>();
        for (Class<?> type : m.getParameterTypes()) {
            types.add(type.getSimpleName());
        }
        return s + "(" + String.join(",", types) + ")";
    }

    private static void face() {
        DUE.part("rule 1");
        Set<String> due = new TreeSet<>(List.of(FACE));
        Set<String> open = new TreeSet<>();
        for (Method m : OldMap.class.getDeclaredMethods()) {
            if (!Modifier.isPrivate(m.getModifiers())) {
                DUE.holds(m + " is public, of the object", m.getModifiers() == Modifier.PUBLIC);
                open.add(shape(m));
            }
        }
        DUE.holds("the methods are " + due + ", found " + open, due.equals(open));
        Constructor<?>[] made = OldMap.class.getDeclaredConstructors();
        DUE.holds("one constructor, public, without parameters", made.length == 1
                && made[0].getParameterCount() == 0 && Modifier.isPublic(made[0].getModifiers()));
        DUE.holds("the class is public and final",
                OldMap.class.getModifiers() == (Modifier.PUBLIC | Modifier.FINAL));
        Set<String> constants = new TreeSet<>();
        for (Field f : OldMap.class.getDeclaredFields()) {
            if (!Modifier.isPrivate(f.getModifiers())) {
                constants.add(f.getType() + " " + f.getName());
            }
        }
        DUE.holds("the constants, found " + constants, constants.equals(new TreeSet<>(List.of(
                "int NUMBER", "int FULL", "int FEW", "int FLAT", "int NONE", "long NOTHING"))));
    }

    private static void insideClasses() {
        DUE.part("rules 1, 2, 5, 11");
        List<Class<?>> all = new ArrayList<>(List.of(OldMap.class.getDeclaredClasses()));
        DUE.holds("at most twelve classes", all.size() < 12);
        for (Class<?> inside : all) {
            DUE.holds(inside + " is static", Modifier.isStatic(inside.getModifiers()));
            DUE.holds(inside + " isn't public or protected",
                    (inside.getModifiers() & (Modifier.PUBLIC | Modifier.PROTECTED)) == 0);
        }
        all.add(OldMap.class);
        Set<String> names = new TreeSet<>();
        for (String method : FACE) {
            names.add(method.substring(method.indexOf(' ') + 1, method.indexOf('(')));
        }
        for (Class<?> each : all) {
            DUE.holds(each + " has few fields", each.getDeclaredFields().length <= 32);
            for (Field f : each.getDeclaredFields()) {
                DUE.holds(f + " is final if static", !Modifier.isStatic(f.getModifiers())
                        || Modifier.isFinal(f.getModifiers()));
            }
            for (Method m : each.getDeclaredMethods()) {
                DUE.holds(m + " has at most seven parameters", m.getParameterCount() <= 7);
                DUE.holds(m + " has no public one's name", Modifier.isPublic(m.getModifiers())
                        || !names.contains(m.getName()));
            }
        }
    }

    private static String withoutTexts(String source) {
        return source.replaceAll("(?s)/\\*.*?\\*/", " ").replaceAll("//[^\n]*", " ");
    }

    private static void words(String code) {
        DUE.part("rules 2, 3, 4, 6, 13");
        String[] never = {"throw", "throws", "try", "catch", "finally", "synchronized", "assert",
            "import", "package", "equals", "hashCode", "toString", "static\\s*\\{", "->", "::",
            "System\\.(?!arraycopy)", "\\w+Exact", "Math\\.(?!abs|min|max|floorDiv|floorMod)",
            "double", "float", "String", "Object", "while", "do", "\\[\\]\\[\\]\\[\\]", "protected"};
        for (String word : never) {
            String pattern = Character.isLetter(word.charAt(0)) ? "\\b" + word : word;
            pattern = Character.isLetter(word.charAt(word.length() - 1)) ? pattern + "\\b" : pattern;
            DUE.holds("no " + word, !Pattern.compile(pattern).matcher(code).find());
        }
        for (int i = 0; i < code.length(); i++) {
            if (code.charAt(i) > 126) {
                DUE.holds("no sign above 126", false);
            }
        }
    }

    /** All objects are made with the object: by a field's own line, or in the constructor. */
    private static void objects(String code) {
        DUE.part("rule 12");
        for (String line : code.split("\n")) {
            if (line.contains("new ")) {
                DUE.holds("made with the object: " + line.trim(),
                        line.matches(" +(private final \\S+ )?\\w+ = new .*;"));
            }
        }
    }

    private static void callsOf(SourceCalls source) {
        DUE.part("rule 4");
        Set<String> library = source.outside();
        library.removeAll(LIBRARY);
        DUE.holds("none of the library but a few numbers' functions and arraycopy: " + library,
                library.isEmpty());
        DUE.part("rules 8, 11");
        DUE.holds("methods found: " + source.calls.size(), source.calls.size() > 80);
        for (String method : source.calls.keySet()) {
            List<String> open = source.deepest(method);
            DUE.holds("at most eight deep: " + open, open.size() <= 8);
        }
    }

    private static void lengths(String source) {
        DUE.part("rule 11");
        Matcher m = Pattern.compile("(?ms)^( +)(?:public|private)[^;=]*?\\) \\{$(.*?)^\\1\\}$")
                .matcher(source);
        int found = 0;
        while (m.find()) {
            found++;
            DUE.holds("short: " + m.group().lines().findFirst().orElse(""),
                    m.group().lines().count() <= 60);
        }
        DUE.holds("methods found: " + found, found > 60);
    }
}
