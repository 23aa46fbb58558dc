import java.lang.reflect.Field;
import java.lang.reflect.Method;
import java.lang.reflect.Modifier;
import java.nio.file.Files;
import java.nio.file.Path;
import java.util.HashSet;
import java.util.Set;
import java.util.regex.Matcher;
import java.util.regex.Pattern;

/** The public face of the document, and rules of LANGUAGE.md that can be seen from outside. */
public final class FaceTest {
    private static final String[] FACE = {
        "row/3", "set/3", "copy/5", "drop/1", "feed/1", "house/0", "fault/0", "years/1", "deed/2", "restore/2",
        "hang/2", "undo/0", "picture/2", "wall/2", "remains/2", "lives/1", "dies/1", "first/1", "hanging/2", "save/2",
        "dark/2", "fits/5", "thieves/4", "drawn/3", "image/1", "recall/1", "kind/1", "as/2", "ask/2", "trace/1",
        "count/1", "status/0"};

    /** Words that LANGUAGE.md leaves out, and forms of what it leaves out. */
    private static final String[] LEFT_OUT = {
        "\\bthrows?\\b", "\\btry\\b", "\\bcatch\\b", "\\bfinally\\b", "\\bsynchronized\\b", "\\bassert\\b",
        "\\bprotected\\b", "->", "::", "\\bimport\\b", "\\bpackage\\b", "\\bvar\\b", "\\bSystem\\.(?!arraycopy\\b)",
        "Exact\\b", "\\bhashCode\\b", "\\btoString\\b"};

    /** The head of a method, or of a constructor. */
    private static final Pattern METHOD = Pattern.compile(
        "\\n(?<blanks> {4}| {8})(?<is>(?:(?:public|private|static) )*)(?:[\\w\\[\\]]+ )?(?<name>\\w+)\\([^)]*\\) \\{");

    public static void main(String[] args) throws Exception {
        theFace();
        theConstants();
        theMembers();
        theClassesInside();
        theSource(Files.readString(Path.of(args.length > 0 ? args[0] : "src/main/java/PortraitYears.java")));
        Check.end();
    }

    private static void theFace() {
        Class<?> face = PortraitYears.class;
        Check.holds("public and final", Modifier.isPublic(face.getModifiers()) && Modifier.isFinal(face.getModifiers()));
        Check.due("constructors", face.getDeclaredConstructors().length, 1);
        Check.due("public constructors", face.getConstructors().length, 1);
        Set<String> due = new HashSet<>(Set.of(FACE));
        for (Method method : face.getDeclaredMethods()) {
            if (Modifier.isPublic(method.getModifiers())) {
                String name = method.getName() + "/" + method.getParameterCount();
                Check.holds(name + " is of the face", due.remove(name));
                Check.holds(name + " answers an int", method.getReturnType() == int.class);
                Check.holds(name + " is no static one", !Modifier.isStatic(method.getModifiers()));
                for (Class<?> type : method.getParameterTypes()) {
                    Check.holds(name + " takes ints", type == int.class);
                }
            }
        }
        Check.holds("nothing of the face is left out: " + due, due.isEmpty());
    }

    private static void theConstants() {
        Check.due("NONE", PortraitYears.NONE, -1000000);
        Check.due("BAD", PortraitYears.BAD, -1000001);
        Check.due("STATE", PortraitYears.STATE, -1000002);
        Check.due("FULL", PortraitYears.FULL, -1000003);
        Check.due("public fields", PortraitYears.class.getFields().length, 4);
    }

    private static void theMembers() {
        Set<String> open = new HashSet<>();
        for (Method method : PortraitYears.class.getMethods()) {
            open.add(method.getName());
        }
        for (Method method : PortraitYears.class.getDeclaredMethods()) {
            int is = method.getModifiers();
            Check.holds(method + " is public or private", Modifier.isPublic(is) || Modifier.isPrivate(is));
            Check.holds(method + " has a name of its own", Modifier.isPublic(is) || !open.contains(method.getName()));
        }
        for (Field field : PortraitYears.class.getDeclaredFields()) {
            int is = field.getModifiers();
            Check.holds(field + " is public or private", Modifier.isPublic(is) || Modifier.isPrivate(is));
            Check.holds(field + " is final, if static", !Modifier.isStatic(is) || Modifier.isFinal(is));
        }
    }

    private static void theClassesInside() {
        Class<?>[] inside = PortraitYears.class.getDeclaredClasses();
        Check.holds("at most twelve classes", inside.length < 12);
        for (Class<?> one : inside) {
            Check.holds(one + " is static", Modifier.isStatic(one.getModifiers()));
            Check.holds(one + " is not public", !Modifier.isPublic(one.getModifiers()));
            int fields = 0;
            for (Field field : one.getDeclaredFields()) {
                int is = field.getModifiers();
                Check.holds(field + " is final, if static", !Modifier.isStatic(is) || Modifier.isFinal(is));
                fields += Modifier.isStatic(is) ? 0 : 1;
            }
            Check.holds(one + " has at most twenty fields", fields <= 20);
            for (Method method : one.getDeclaredMethods()) {
                Check.holds(method + " takes at most seven", method.getParameterCount() <= 7);
            }
        }
    }

    private static void theSource(String source) {
        String code = source.replaceAll("(?s)/\\*.*?\\*/", "").replaceAll("//[^\n]*", "");
        for (String word : LEFT_OUT) {
            Check.holds("the source is without " + word, !Pattern.compile(word).matcher(code).find());
        }
        String maker = code.substring(code.indexOf("public PortraitYears()"), code.indexOf("public int row("));
        Matcher made = Pattern.compile("\\bnew\\b").matcher(code.replace(maker, ""));
        while (made.find()) {
            int from = code.replace(maker, "").lastIndexOf('\n', made.start());
            String line = code.replace(maker, "").substring(from + 1, made.end());
            Check.holds("made once, with its object: " + line, line.trim().startsWith("final "));
        }
        Check.holds("signs 1 to 127", source.chars().allMatch(sign -> sign > 0 && sign < 128));
        theMethods(code);
    }

    /** Methods are short; one that calls itself is private; none inside bears the name of a public one. */
    private static void theMethods(String code) {
        Matcher method = METHOD.matcher(code);
        int methods = 0;
        while (method.find()) {
            methods++;
            String name = method.group("name");
            String body = code.substring(method.end(), code.indexOf("\n" + method.group("blanks") + "}", method.end()));
            boolean isOpen = method.group("is").contains("public");
            boolean callsItself = Pattern.compile("(?<![.\\w])" + name + "\\(").matcher(body).find();
            Check.holds(name + " has at most sixty lines", body.split("\n").length <= 60);
            Check.holds(name + " calls itself, and is private", !callsItself || method.group("is").contains("private"));
            for (String open : FACE) {
                Check.holds(name + " has a name of its own", isOpen || !open.startsWith(name + "/"));
            }
        }
        Check.holds("methods are found", methods > 100);
    }
}
