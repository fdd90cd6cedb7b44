import java.io.IOException;
import java.lang.reflect.Constructor;
import java.lang.reflect.Field;
import java.lang.reflect.Method;
import java.lang.reflect.Modifier;
import java.nio.file.Files;
import java.nio.file.Path;
import java.util.List;
import java.util.Map;
import java.util.TreeMap;
import java.util.regex.Matcher;
import java.util.regex.Pattern;

/** The public face by the document, and the rules of LANGUAGE.md that can be seen from outside or in the text. */
public final class FaceTest {
    private static final Map<String, Integer> FACE = new TreeMap<>(Map.ofEntries(
        Map.entry("hang", 3), Map.entry("strike", 2), Map.entry("share", 3), Map.entry("size", 2),
        Map.entry("get", 3), Map.entry("set", 4), Map.entry("patch", 5), Map.entry("ripple", 5),
        Map.entry("probe", 2), Map.entry("poke", 3), Map.entry("shown", 2), Map.entry("lit", 1),
        Map.entry("fade", 4), Map.entry("tick", 0), Map.entry("sheet", 2), Map.entry("cell", 2),
        Map.entry("tear", 2), Map.entry("draw", 2), Map.entry("status", 0), Map.entry("count", 1)));
    private static final String[] RULED_OUT = {
        "\\bimport\\b", "\\bpackage\\b", "->", "::", "\\btry\\b", "\\bcatch\\b", "\\bfinally\\b", "\\bthrow\\b",
        "\\bthrows\\b", "\\bsynchronized\\b", "\\bassert\\b", "\\bprotected\\b", "static\\s*\\{", "Exact\\(", "\\bSystem\\b",
        "\\bObject\\b", "\\bwhile\\s*\\(\\s*true", "java\\.",
    };

    private static final Path DOCUMENT = Path.of("../shared/DOC.md");
    private static final Pattern MEMBER = Pattern.compile("(?m)^    (public (?:int \\w+|LampLoft)\\([^)]*\\))");

    private static final Due due = new Due();

    public static void main(String[] args) throws IOException {
        members();
        String source = Files.readString(Path.of("src/main/java/LampLoft.java"));
        text(source);
        if (Files.isReadable(DOCUMENT)) {
            List<String> face = membersIn(Files.readString(DOCUMENT));
            due.is("members in the document's face", face.size(), FACE.size() + 1);
            due.is("the document has " + face + ", the class " + membersIn(source), face.equals(membersIn(source)) ? 1 : 0, 1);
        } else {
            System.out.println("NOT COMPARED with the face in " + DOCUMENT + ", which can't be read here");
        }
        due.finish();
    }

    /** As they are written, so that the names and the order of what they take are compared, too. */
    private static List<String> membersIn(String text) {
        return MEMBER.matcher(text).results().map(member -> member.group(1)).toList();
    }

    private static void members() {
        int modifiers = LampLoft.class.getModifiers();
        due.is("public final class", Modifier.isPublic(modifiers) && Modifier.isFinal(modifiers) ? 1 : 0, 1);
        Constructor<?>[] made = LampLoft.class.getDeclaredConstructors();
        due.is("constructors", made.length, 1);
        due.is("public LampLoft()", Modifier.isPublic(made[0].getModifiers()) ? made[0].getParameterCount() : -1, 0);
        Map<String, Integer> open = new TreeMap<>();
        for (Method method : LampLoft.class.getDeclaredMethods()) {
            if (Modifier.isPublic(method.getModifiers())) {
                due.is(method + " answers an int", method.getReturnType() == int.class ? 1 : 0, 1);
                due.is(method + " once", open.put(method.getName(), method.getParameterCount()) == null ? 1 : 0, 1);
                for (Class<?> type : method.getParameterTypes()) {
                    due.is(method + " takes ints", type == int.class ? 1 : 0, 1);
                }
            } else {
                due.is(method + " is private", Modifier.isPrivate(method.getModifiers()) ? 1 : 0, 1);
                due.is(method + " has a name of its own", FACE.containsKey(method.getName()) ? 0 : 1, 1);
            }
        }
        due.is("the face is " + FACE + ", not " + open, open.equals(FACE) ? 1 : 0, 1);
        for (Field field : LampLoft.class.getDeclaredFields()) {
            due.is(field + " is private", Modifier.isPrivate(field.getModifiers()) ? 1 : 0, 1);
            boolean isState = !Modifier.isStatic(field.getModifiers());
            due.is(field + " is final if static", isState || Modifier.isFinal(field.getModifiers()) ? 1 : 0, 1);
        }
        for (Class<?> inside : LampLoft.class.getDeclaredClasses()) {
            due.is(inside + " is static", Modifier.isStatic(inside.getModifiers()) ? 1 : 0, 1);
            due.is(inside + " is not public", Modifier.isPublic(inside.getModifiers()) ? 0 : 1, 1);
        }
    }

    private static void text(String source) {
        String code = source.replaceAll("(?s)/\\*.*?\\*/", " ").replaceAll("//[^\n]*", " ");
        for (String ruledOut : RULED_OUT) {
            Matcher found = Pattern.compile(ruledOut).matcher(code);
            due.is("LANGUAGE.md leaves no " + ruledOut, found.find() ? 1 : 0, 0);
        }
    }
}
