import java.io.IOException;
import java.lang.reflect.Constructor;
import java.lang.reflect.Field;
import java.lang.reflect.Method;
import java.lang.reflect.Modifier;
import java.nio.file.Files;
import java.nio.file.Path;
import java.util.Arrays;
import java.util.HashSet;
import java.util.List;
import java.util.Set;
import java.util.TreeSet;
import java.util.regex.Matcher;
import java.util.regex.Pattern;

/** Looks whether the class keeps to the face of the document and to what LANGUAGE.md rules out by its words. */
public final class RulesTest {
    private static final String[] FACE = {
        "part(int,int,int,int)int", "value(int,int)boolean", "level(int,int,int)boolean",
        "times(int,int,int,int,int)boolean", "control(int,int,int)boolean", "method(int)boolean",
        "tolerance(int)boolean", "rest()int", "step()int", "run(int)int", "clear()int", "volt(int,int)int",
        "milli(int)int", "flow(int,int)int", "charge(int,int)int", "balance(int,int)int", "wave(int,int,int)int",
        "breaks(int,int)int", "told(int,int)int", "count(int)int", "entry(int,int,int)int", "pivot(int,int)int",
        "fills()int", "loop()int", "floating()int", "islands()int", "ahead(int,int,int,int)int", "shift(int,int)int",
        "steps(int,int)int"
    };
    private static final String[] BANNED = {
        "\\bDouble\\b", "\\bFloat\\b", "\\bObject\\b", "\\bsynchronized\\b", "\\bassert\\b", "\\bfinally\\b", "->", "::",
        "\\bcatch\\b", "\\btry\\b", "\\bSystem\\.(?!arraycopy)", "\\bMath\\.(?!max\\(|min\\()", "Exact\\(", "\\bThread\\b",
        "\\bprotected\\b", "static\\s*\\{", "static\\s+(final\\s+)?double\\s+\\w+\\s*=", "\\bvar\\b", "\\bimport static\\b"
    };
    private static int wrong = 0;

    private static void fault(String text) {
        wrong++;
        System.out.println(text);
    }

    public static void main(String[] args) throws IOException {
        lookAtFace();
        lookAtSource(Files.readString(Path.of("src/main/java/StampedWires.java")));
        System.out.println(wrong == 0 ? "the rules are kept" : wrong + " rules are broken");
        if (wrong != 0) System.exit(1);
    }

    private static void lookAtFace() {
        Class<?> type = StampedWires.class;
        if (!Modifier.isPublic(type.getModifiers()) || !Modifier.isFinal(type.getModifiers())) fault("the class is not public and final");
        Set<String> due = new TreeSet<>(Arrays.asList(FACE));
        Set<String> names = new HashSet<>();
        for (String f : FACE) names.add(f.substring(0, f.indexOf('(')));
        Set<String> there = new TreeSet<>();
        for (Method m : type.getDeclaredMethods()) {
            if (Modifier.isPublic(m.getModifiers())) there.add(sign(m));
            else if (!Modifier.isPrivate(m.getModifiers()) && !m.isSynthetic()) fault("visible member " + m);
            else if (names.contains(m.getName())) fault("a private method bears a public name: " + m);
        }
        if (!there.equals(due)) fault("the face is " + there + ", due is " + due);
        for (Constructor<?> c : type.getDeclaredConstructors()) {
            if (!Modifier.isPublic(c.getModifiers()) || c.getParameterCount() != 0) fault("constructor " + c);
        }
        for (Field f : type.getDeclaredFields()) lookAtField(f);
        for (Class<?> inner : type.getDeclaredClasses()) {
            if (!Modifier.isStatic(inner.getModifiers()) || Modifier.isPublic(inner.getModifiers())) fault("class inside " + inner);
            for (Method m : inner.getDeclaredMethods()) if (names.contains(m.getName())) fault("a method inside bears a public name: " + m);
            if (inner.getDeclaredFields().length > 20) fault("too many fields: " + inner);
            for (Field f : inner.getDeclaredFields()) if (Modifier.isStatic(f.getModifiers())) fault("static field inside: " + f);
        }
        if (type.getDeclaredClasses().length > 11) fault("too many classes");
    }

    private static void lookAtField(Field f) {
        boolean none = f.getName().equals("NONE");
        if (none != Modifier.isPublic(f.getModifiers()) || !none && !Modifier.isPrivate(f.getModifiers())) fault("field " + f);
        if (Modifier.isStatic(f.getModifiers()) && (!Modifier.isFinal(f.getModifiers()) || f.getType() != int.class)) fault("static field " + f);
    }

    private static String sign(Method m) {
        StringBuilder s = new StringBuilder(m.getName()).append('(');
        for (Class<?> p : m.getParameterTypes()) s.append(s.charAt(s.length() - 1) == '(' ? "" : ",").append(p.getSimpleName());
        return s.append(')').append(m.getReturnType().getSimpleName()).toString();
    }

    private static void lookAtSource(String source) {
        String bare = source.replaceAll("(?s)/\\*.*?\\*/", " ").replaceAll("//[^\n]*", " ");
        for (String b : BANNED) {
            Matcher m = Pattern.compile(b).matcher(bare);
            if (m.find()) fault("ruled out: " + m.group() + " (" + b + ")");
        }
        Matcher imports = Pattern.compile("import\\s+([\\w.]+);").matcher(bare);
        List<String> allowed = List.of("java.util.Arrays", "java.util.NoSuchElementException");
        while (imports.find()) if (!allowed.contains(imports.group(1))) fault("import " + imports.group(1));
        Matcher thrown = Pattern.compile("throw\\s+new\\s+(\\w+)").matcher(bare);
        while (thrown.find()) if (!thrown.group(1).equals("NoSuchElementException")) fault("throws " + thrown.group(1));
        for (char c : source.toCharArray()) if (c > 126) fault("a sign beyond 126: " + (int) c);
        lookAtLengths(source);
    }

    private static void lookAtLengths(String source) {
        String[] lines = source.split("\n");
        int from = -1;
        for (int i = 0; i < lines.length; i++) {
            String line = lines[i];
            if (line.matches(" {4}( {4})?\\S.*\\) (throws \\w+ )?\\{") && !line.contains(" class ")) from = i;
            if (line.matches(" {4}( {4})?\\}") && from >= 0) {
                if (i - from > 60) fault("a method of " + (i - from) + " lines from line " + (from + 1));
                from = -1;
            }
        }
    }

    private RulesTest() { }
}
