import java.lang.reflect.Method;
import java.lang.reflect.Modifier;
import java.nio.file.Files;
import java.nio.file.Path;
import java.util.List;
import java.util.Set;
import java.util.TreeSet;
import java.util.regex.Matcher;
import java.util.regex.Pattern;

/** The example in README.md: each of its calls is made, and answers what the README says behind it. */
public final class ReadmeTest extends Probe {
    private static final Path README = Path.of("README.md");
    private static final Pattern CALL = Pattern.compile("x\\.(\\w+)\\((.*?)\\);\\s*// (-?\\d+), (.+)");

    public static void main(String[] args) throws Exception {
        about("README");
        Set<String> called = new TreeSet<>();
        EchoStudio x = null;
        boolean inExample = false;
        for (String line : Files.readAllLines(README)) {
            if (line.startsWith("```")) {
                inExample = line.equals("```java");
            } else if (inExample && line.equals("EchoStudio x = new EchoStudio();")) {
                x = new EchoStudio();
            } else if (inExample && !line.isBlank()) {
                called.add(call(x, line));
            }
        }
        due("calls of the face that the example leaves out: " + leftOut(called), leftOut(called).size(), 0);
        scoreIsTheOneThatIsFed();
        finish();
    }

    /** Makes the call of a line: its name. A line that can't be tested is a wrong one. */
    private static String call(EchoStudio x, String line) throws Exception {
        Matcher parts = CALL.matcher(line);
        if (x == null || !parts.matches()) {
            due("a call with its answer: " + line, 0, 1);
            return "";
        }
        String name = parts.group(1);
        String[] told = parts.group(2).isEmpty() ? new String[0] : parts.group(2).split(", ");
        Object[] values = new Object[told.length];
        Class<?>[] types = new Class<?>[told.length];
        for (int i = 0; i < told.length; i++) {
            values[i] = Integer.decode(told[i]);
            types[i] = int.class;
        }
        Number got = (Number) EchoStudio.class.getMethod(name, types).invoke(x, values);
        due(line, got.longValue(), Long.parseLong(parts.group(3)));
        if (name.equals("feed")) {
            due("the bytes as they are told: " + line, textOf(values).equals(parts.group(4)) ? 1 : 0, 1);
        }
        return name;
    }

    private static String textOf(Object[] words) {
        StringBuilder text = new StringBuilder("\"");
        for (Object word : words) {
            for (int shift = 24; shift >= 0; shift -= 8) {
                char c = (char) ((Integer) word >>> shift & 255);
                text.append(c == '\n' ? "\\n" : "" + c);
            }
        }
        return text.append("\"").toString();
    }

    private static List<String> leftOut(Set<String> called) {
        Set<String> face = new TreeSet<>();
        for (Method method : EchoStudio.class.getDeclaredMethods()) {
            if (Modifier.isPublic(method.getModifiers())) {
                face.add(method.getName());
            }
        }
        face.removeAll(called);
        return List.copyOf(face);
    }

    /** The score that is shown as a text is the one whose bytes the example feeds. */
    private static void scoreIsTheOneThatIsFed() throws Exception {
        String readme = Files.readString(README);
        int from = readme.indexOf("```text\n") + 8;
        String shown = readme.substring(from, readme.indexOf("```", from));
        StringBuilder fed = new StringBuilder();
        Matcher texts = Pattern.compile("// \\d+, \"(.*)\"").matcher(readme.substring(0, readme.indexOf("x.read()")));
        while (texts.find()) {
            fed.append(texts.group(1));
        }
        String text = fed.toString().replace("\\n", "\n").stripTrailing();
        due("the score that is shown is the one that is fed", text.equals(shown.stripTrailing()) ? 1 : 0, 1);
    }
}
