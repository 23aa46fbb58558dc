import java.lang.reflect.Field;
import java.lang.reflect.Method;
import java.lang.reflect.Modifier;
import java.nio.file.Files;
import java.nio.file.Path;
import java.util.List;
import java.util.regex.Matcher;
import java.util.regex.Pattern;

/** README.md's examples answer as it says, and it names every call and constant of the face. */
public final class ReadmeTest {
    private static final Pattern MAKES = Pattern.compile("PortraitYears x = new PortraitYears\\(\\);");
    private static final Pattern TEXT = Pattern.compile("String text = \"([^\"]*)\";");
    private static final Pattern FEEDS_TEXT = Pattern.compile("x\\.feed\\(text\\.charAt\\(i\\)\\);.*");
    private static final Pattern CALL = Pattern.compile("x\\.(\\w+)\\(([^)]*)\\);\\s*// (-?\\d+|[A-Z]+)\\b.*");
    private static final Pattern LOOP = Pattern.compile("for \\(int i = 0; i < text\\.length\\(\\); i\\+\\+\\) \\{|\\}");

    private static PortraitYears x = new PortraitYears();
    private static String text = "";

    public static void main(String[] args) throws Exception {
        List<String> lines = Files.readAllLines(Path.of("README.md"));
        int blocks = 0;
        boolean inside = false;
        for (String line : lines) {
            if (line.startsWith("```")) {
                inside = line.equals("```java");
                blocks += inside ? 1 : 0;
            } else if (inside) {
                play(line.trim());
            }
        }
        Check.due("blocks of examples", blocks, 2);
        namesTheFace(String.join("\n", lines));
        Check.end();
    }

    private static void play(String line) throws Exception {
        Matcher told = TEXT.matcher(line);
        Matcher call = CALL.matcher(line);
        if (MAKES.matcher(line).matches()) {
            x = new PortraitYears();
        } else if (told.matches()) {
            text = told.group(1);
        } else if (FEEDS_TEXT.matcher(line).matches()) {
            for (int i = 0; i < text.length(); i++) {
                Check.due("a byte of " + text, x.feed(text.charAt(i)), i + 1);
            }
        } else if (call.matches()) {
            Check.due(line, answer(call.group(1), call.group(2)), number(call.group(3)));
        } else {
            Check.holds("a line that can be played: " + line, LOOP.matcher(line).matches());
        }
    }

    private static int answer(String name, String told) throws Exception {
        String[] parts = told.isBlank() ? new String[0] : told.split(",\\s*");
        Class<?>[] types = new Class<?>[parts.length];
        Object[] numbers = new Object[parts.length];
        for (int k = 0; k < parts.length; k++) {
            types[k] = int.class;
            numbers[k] = parts[k].startsWith("'") ? parts[k].charAt(1) : Integer.parseInt(parts[k]);
            if (numbers[k] instanceof Character sign) {
                numbers[k] = (int) sign;
            }
        }
        return (Integer) PortraitYears.class.getMethod(name, types).invoke(x, numbers);
    }

    private static int number(String told) throws Exception {
        if (Character.isLetter(told.charAt(0))) {
            return PortraitYears.class.getField(told).getInt(null);
        }
        return Integer.parseInt(told);
    }

    private static void namesTheFace(String page) throws Exception {
        for (Method method : PortraitYears.class.getDeclaredMethods()) {
            if (Modifier.isPublic(method.getModifiers())) {
                int commas = Math.max(0, method.getParameterCount() - 1);
                String row = "(?m)^\\| `" + method.getName() + "\\([^,)]*(, [^,)]*){" + commas + "}\\)` \\|.*\\|$";
                Check.holds(method.getName() + " has a row", Pattern.compile(row).matcher(page).find());
            }
        }
        for (Field field : PortraitYears.class.getFields()) {
            String row = "| `" + field.getName() + "` " + field.getInt(null) + " |";
            Check.holds(field.getName() + " is told with its number", page.contains(row));
        }
    }
}
