import java.io.IOException;
import java.lang.reflect.Constructor;
import java.lang.reflect.Field;
import java.lang.reflect.Method;
import java.lang.reflect.Modifier;
import java.nio.file.Files;
import java.nio.file.Path;
import java.util.Set;
import java.util.TreeSet;
import java.util.regex.Matcher;
import java.util.regex.Pattern;

/** The public face, and those rules of LANGUAGE.md that can be seen from the class and its source. */
public final class FaceTest {
    private static final Check CHECK = new Check("FaceTest");
    private static final String SOURCE = "src/main/java/HermitDues.java";
    private static final String[] FACE = {
        "int type(int)", "int clear()", "int grotto()", "int turn(int,int)", "int family(int,int)", "int gives(int,int)",
        "int swaps(int,int)", "int year()", "int undo()", "int now(int)", "int most(int)", "int fair(int)", "int rather(int)",
        "int entry(int,int,int)", "long odds(int,int)", "int saw(int,int)", "int forget()", "int ways(int)", "int cheese(int)",
        "int free(int)", "int mark(int,int)", "int keep(int)", "int back(int)", "int count(int)", "long trace()",
    };
    private static final Set<String> FACE_NAMES = faceNames();
    private static final Set<String> CONSTANTS = Set.of("BAD", "STATE", "FULL", "NONE", "NO");

    public static void main(String[] args) throws IOException {
        members();
        nested();
        source();
        CHECK.end();
    }

    private static Set<String> faceNames() {
        Set<String> names = new TreeSet<>();
        for (String signature : FACE) {
            names.add(signature.substring(signature.indexOf(' ') + 1, signature.indexOf('(')));
        }
        return names;
    }

    private static void holds(String what, boolean so) {
        CHECK.same(what, so ? 1 : 0, 1);
    }

    private static void members() {
        Class<?> c = HermitDues.class;
        holds("public final", Modifier.isPublic(c.getModifiers()) && Modifier.isFinal(c.getModifiers()));
        Constructor<?>[] constructors = c.getDeclaredConstructors();
        holds("one constructor", constructors.length == 1 && Modifier.isPublic(constructors[0].getModifiers()));
        Set<String> open = new TreeSet<>();
        Set<String> names = new TreeSet<>();
        for (Method m : c.getDeclaredMethods()) {
            if (!Modifier.isPrivate(m.getModifiers())) {
                open.add(signature(m));
                names.add(m.getName());
                holds("public, not static: " + m, Modifier.isPublic(m.getModifiers()) && !Modifier.isStatic(m.getModifiers()));
            }
        }
        for (Method m : c.getDeclaredMethods()) {
            holds("own name: " + m, !Modifier.isPrivate(m.getModifiers()) || !names.contains(m.getName()));
        }
        holds("the document's methods and no other: " + open, open.equals(new TreeSet<>(Set.of(FACE))));
        for (Field f : c.getDeclaredFields()) {
            boolean isPublic = CONSTANTS.contains(f.getName());
            holds("field " + f, isPublic ? Modifier.isPublic(f.getModifiers()) : Modifier.isPrivate(f.getModifiers()));
            holds("static is final: " + f, !Modifier.isStatic(f.getModifiers()) || Modifier.isFinal(f.getModifiers()));
        }
    }

    private static String signature(Method m) {
        StringBuilder s = new StringBuilder(m.getReturnType().getName()).append(' ').append(m.getName()).append('(');
        for (int i = 0; i < m.getParameterCount(); i++) {
            s.append(i == 0 ? "" : ",").append(m.getParameterTypes()[i].getName());
        }
        return s.append(')').toString();
    }

    private static void nested() {
        Class<?>[] inside = HermitDues.class.getDeclaredClasses();
        holds("some twelve classes", inside.length < 12);
        for (Class<?> c : inside) {
            holds("static: " + c, Modifier.isStatic(c.getModifiers()) && !Modifier.isPublic(c.getModifiers()));
            int fields = 0;
            for (Field f : c.getDeclaredFields()) {
                fields += Modifier.isStatic(f.getModifiers()) ? 0 : 1;
            }
            holds("some twenty fields: " + c, fields <= 20);
            for (Method m : c.getDeclaredMethods()) {
                holds("seven parameters: " + m, m.getParameterCount() <= 7);
                holds("own name: " + m, !FACE_NAMES.contains(m.getName()));
            }
        }
    }

    private static void source() throws IOException {
        String code = Files.readString(Path.of(SOURCE));
        holds("signs 1 to 127", code.chars().allMatch(c -> c > 0 && c < 128));
        code = code.replaceAll("(?s)/\\*.*?\\*/", "").replaceAll("//[^\n]*", "");
        Matcher banned = Pattern.compile(
            "\\b(throw|throws|try|catch|synchronized|assert|package|double|float|Object|Exception|lambda)\\b|->|::|Exact\\b").matcher(code);
        holds("no word that is ruled out", !banned.find());
        Matcher imports = Pattern.compile("import ([^;]*);").matcher(code);
        while (imports.find()) {
            holds("import " + imports.group(1), imports.group(1).equals("java.util.Arrays"));
        }
        Matcher library = Pattern.compile("\\b(System|Arrays|Math|Integer)\\.(\\w+)").matcher(code);
        while (library.find()) {
            String use = library.group();
            holds("library: " + use, Set.of("System.arraycopy", "Arrays.fill", "Math.min", "Math.max", "Integer.bitCount").contains(use));
        }
        // Arrays.fill is for arrays of numbers alone, and a boolean is none
        Matcher booleans = Pattern.compile("boolean\\[\\] (\\w+)").matcher(code);
        while (booleans.find()) {
            String name = booleans.group(1);
            holds("fill of " + name, !Pattern.compile("Arrays\\.\\w+\\((\\w+\\.)?" + name + "\\b").matcher(code).find());
        }
        methods(code);
    }

    /** A method's first line is indented by 4 or 8 and ends with "{"; its last is the next "}" of the same indent. */
    private static void methods(String code) {
        Matcher m = Pattern.compile("(?ms)^( {4}| {8})(?! )([\\w\\[\\] ]+ )?(\\w+)\\([^)]*\\) \\{$(.*?)^\\1\\}$").matcher(code);
        int many = 0;
        while (m.find()) {
            if (Set.of("if", "for", "while", "switch").contains(m.group(3))) {
                continue;
            }
            many++;
            holds("some sixty lines: " + m.group(3), m.group(4).lines().count() <= 60);
            boolean callsItself = Pattern.compile("\\b" + m.group(3) + "\\(").matcher(m.group(4)).find();
            boolean carriesDepth = m.group(3).equals("tryFrom") && m.group(4).contains("> MAX_");
            holds("no recursion without a guard on the depth: " + m.group(3), !callsItself || carriesDepth);
        }
        holds("methods were found: " + many, many >= FACE.length);
    }
}
