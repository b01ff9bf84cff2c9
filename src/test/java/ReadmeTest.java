import java.io.File;
import java.io.IOException;
import java.lang.reflect.Method;
import java.lang.reflect.Modifier;
import java.nio.file.Files;
import java.nio.file.Path;
import java.util.List;
import java.util.Set;
import java.util.TreeSet;
import java.util.regex.Matcher;
import java.util.regex.Pattern;

/** README.md: its samples answer what stands behind them, and it names each call and each test there is. */
final class ReadmeTest {
    private static final Check CHECK = new Check("ReadmeTest");
    private static final String BEGIN = "```java";
    private static final String END = "```";
    private static final String NEW = "LendingDisk disk = new LendingDisk();";
    private static final Pattern CALL = Pattern.compile("(int file = )?disk\\.(\\w+)\\((.*)\\); +// (-?\\d+)(, .*)?");
    private static final Pattern ROW = Pattern.compile("\\| `(\\w+)\\((.*?)\\)` \\|.*");

    public static void main(String[] args) throws IOException {
        List<String> lines = Files.readAllLines(Path.of("README.md"));
        samples(lines);
        calls(lines);
        tests(lines);
        CHECK.end();
    }

    private static void holds(String what, boolean fact) {
        CHECK.due(what, 1, fact ? 1 : 0);
    }

    private static void samples(List<String> lines) {
        Told told = null;
        int samples = 0;
        for (String line : lines) {
            if (line.equals(BEGIN)) {
                samples++;
            } else if (line.equals(NEW)) {
                told = new Told();
            } else if (line.equals(END)) {
                told = null;
            } else if (told != null) {
                sampleLine(told, line);
            }
        }
        holds("there are samples", samples > 0);
    }

    /** The one file that a sample makes has the number 0, as its first line says. */
    private static void sampleLine(Told told, String line) {
        Matcher matcher = CALL.matcher(line);
        holds("is a call with its answer: " + line, matcher.matches());
        if (matcher.matches()) {
            StringBuilder call = new StringBuilder(matcher.group(2));
            for (String argument : arguments(matcher.group(3))) {
                call.append(' ').append(number(argument));
            }
            CHECK.due(line, Integer.parseInt(matcher.group(4)), told.answer(call.toString()));
        }
    }

    private static String[] arguments(String all) {
        return all.isEmpty() ? new String[0] : all.split(", ");
    }

    private static String number(String argument) {
        switch (argument) {
            case "file": return "0";
            case "LendingDisk.MOST": return String.valueOf(LendingDisk.MOST);
            case "LendingDisk.POLICY": return String.valueOf(LendingDisk.POLICY);
            default: return argument.startsWith("'") ? String.valueOf((int) argument.charAt(1)) : argument;
        }
    }

    /** Each method has one row, with as many parameters as it has. */
    private static void calls(List<String> lines) {
        Set<String> told = new TreeSet<>();
        for (String line : lines) {
            Matcher matcher = ROW.matcher(line);
            if (matcher.matches()) {
                String call = matcher.group(1) + "/" + arguments(matcher.group(2)).length;
                holds(call + " is told once", told.add(call));
            }
        }
        Set<String> due = new TreeSet<>();
        for (Method method : LendingDisk.class.getDeclaredMethods()) {
            if (Modifier.isPublic(method.getModifiers())) {
                due.add(method.getName() + "/" + method.getParameterCount());
            }
        }
        holds("the calls " + told + ", due are " + due, told.equals(due));
    }

    private static void tests(List<String> lines) {
        Set<String> told = new TreeSet<>();
        for (String line : lines) {
            if (line.matches("\\| `\\w+Test` \\| .+ \\|")) {
                told.add(line.substring(3, line.indexOf('`', 3)));
            }
        }
        Set<String> due = new TreeSet<>();
        String[] files = new File("src/test/java").list();
        for (String file : files == null ? new String[0] : files) {
            if (file.endsWith("Test.java")) {
                due.add(file.substring(0, file.indexOf('.')));
            }
        }
        holds("the tests " + told + ", due are " + due, told.equals(due));
    }
}
