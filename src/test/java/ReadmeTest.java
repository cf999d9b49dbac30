import java.io.IOException;
import java.lang.reflect.InvocationTargetException;
import java.lang.reflect.Method;
import java.lang.reflect.Modifier;
import java.nio.file.Files;
import java.nio.file.Path;
import java.util.ArrayList;
import java.util.Arrays;
import java.util.HashMap;
import java.util.List;
import java.util.Map;
import java.util.TreeSet;
import java.util.regex.Matcher;
import java.util.regex.Pattern;
import java.util.stream.Stream;

/** Plays README.md's example and holds each call to the answer beside it; looks whether the page leaves anything out. */
public final class ReadmeTest extends Due {
    private static final Pattern CALL = Pattern.compile("(?:int (\\w+) = )?x\\.(\\w+)\\((.*?)\\); +// (-?\\w+)(?::.*)?");
    private static final Map<String, Integer> names = new HashMap<>();
    private static final StampedWires x = new StampedWires();
    private static String page = "";

    public static void main(String[] args) throws IOException, ReflectiveOperationException {
        page = Files.readString(Path.of("README.md"));
        names.put("NONE", StampedWires.NONE);
        names.put("true", 1);
        names.put("false", 0);
        playExample();
        namesEachCall();
        namesEachTest();
        end("README.md tells what is so");
    }

    private static void playExample() throws ReflectiveOperationException {
        String[] lines = blockOf("```java\n").split("\n");
        due(0, "how the example begins", lines[0].equals("StampedWires x = new StampedWires();"), true);
        for (int i = 1; i < lines.length; i++) playLine(lines[i]);
        due(0, "lines of the example", lines.length > 10, true);
    }

    private static void playLine(String line) throws ReflectiveOperationException {
        Matcher call = CALL.matcher(line);
        if (!call.matches()) {
            due(0, "a line that can be played: " + line, false, true);
            return;
        }
        if (call.group(2).equals("clear")) voltageAsDouble();
        int got = answer(call.group(2), call.group(3));
        due(0, line, got, number(call.group(4)));
        if (call.group(1) != null) names.put(call.group(1), got);
    }

    /** The line that makes a double of its BITS, as the page has it. */
    private static void voltageAsDouble() {
        String line = "Double.longBitsToDouble((long) x.volt(2, 0) << 32 | x.volt(2, 1) & 0xffffffffL)";
        double volts = Double.longBitsToDouble((long) x.volt(2, 0) << 32 | x.volt(2, 1) & 0xffffffffL);
        due(0, "the page has " + line, page.contains("\n" + line + "\n"), true);
        due(0, line, (long) (1000 * volts), x.milli(2));
    }

    private static int answer(String name, String told) throws ReflectiveOperationException {
        List<Object> arguments = new ArrayList<>();
        for (String word : told.split(", *")) if (!word.isEmpty()) arguments.add(number(word));
        Class<?>[] types = new Class<?>[arguments.size()];
        Arrays.fill(types, int.class);
        try {
            Object got = StampedWires.class.getMethod(name, types).invoke(x, arguments.toArray());
            return got instanceof Boolean truth ? truth ? 1 : 0 : (Integer) got;
        } catch (InvocationTargetException e) {
            due(0, name + "(" + told + ") throws " + e.getCause(), true, false);
            return NO_PART;
        }
    }

    private static int number(String word) {
        Integer known = names.get(word);
        return known != null ? known : Integer.parseInt(word);
    }

    private static String blockOf(String fence) {
        int from = page.indexOf(fence) + fence.length();
        return page.substring(from, page.indexOf("```", from));
    }

    private static void namesEachCall() {
        for (Method m : StampedWires.class.getDeclaredMethods()) {
            if (Modifier.isPublic(m.getModifiers())) due(0, "the page names " + m.getName(), page.contains("`" + m.getName() + "`"), true);
        }
    }

    private static void namesEachTest() throws IOException {
        TreeSet<String> there = new TreeSet<>();
        try (Stream<Path> files = Files.list(Path.of("src/test/java"))) {
            files.forEach(file -> there.add(file.getFileName().toString().replace(".java", "")));
        }
        TreeSet<String> named = new TreeSet<>();
        Matcher m = Pattern.compile("`(\\w+Test|Due|PlainWires)`").matcher(page);
        while (m.find()) named.add(m.group(1));
        due(0, "tests that the page names: " + named + ", those that are there: " + there, named.equals(there), true);
    }

    private ReadmeTest() { }
}
