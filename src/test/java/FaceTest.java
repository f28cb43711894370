import java.io.IOException;
import java.lang.reflect.Field;
import java.lang.reflect.Method;
import java.lang.reflect.Modifier;
import java.nio.file.Files;
import java.nio.file.Path;
import java.util.ArrayList;
import java.util.Arrays;
import java.util.List;
import java.util.Set;
import java.util.TreeSet;
import java.util.regex.Pattern;

/** The public face of the document, and the rules of the language that a look at the class or its text shows. */
public final class FaceTest {
    private static final String[] FACE = {"letter 1", "river 0", "floe 2", "is 2", "bears 2", "pass 1", "next 1", "crowd 1",
        "soonest 2", "leaps 2", "reach 3", "await 2", "heaviest 1", "needed 2", "poles 2", "from 1", "byNow 3", "row 1",
        "fitting 1", "judge 2", "ends 2", "clear 0", "seeds 2", "image 0", "on 0", "count 1"};
    private static final String[] FORBIDDEN = {"\\bthrow\\b", "\\btry\\b", "\\bcatch\\b", "\\bassert\\b", "\\bsynchronized\\b",
        "\\bimport\\b", "\\bpackage\\b", "->", "::", "\\bequals\\(", "\\bhashCode\\b", "\\btoString\\b", "\\bprotected\\b",
        "[^\\x00-\\x7F]", "\\bSystem\\.", "\\bThread\\b", "\\bObject\\b"};

    public static void main(String[] args) throws IOException {
        face();
        members(FloeToFloe.class);
        for (Class<?> inside : FloeToFloe.class.getDeclaredClasses()) {
            Due.isTrue(inside + " is static", Modifier.isStatic(inside.getModifiers()));
            Due.isTrue(inside + " is not public", !Modifier.isPublic(inside.getModifiers()));
            members(inside);
        }
        text(Files.readAllLines(Path.of("src/main/java/FloeToFloe.java")));
        Due.end();
    }

    private static void face() {
        int modifiers = FloeToFloe.class.getModifiers();
        Due.isTrue("the class is public and final", Modifier.isPublic(modifiers) && Modifier.isFinal(modifiers));
        Due.is("constructors", FloeToFloe.class.getDeclaredConstructors().length, 1);
        Due.is("public constructors", FloeToFloe.class.getConstructors().length, 1);
        Due.is("fields that are not private",
                Arrays.stream(FloeToFloe.class.getDeclaredFields()).filter(f -> !Modifier.isPrivate(f.getModifiers())).count(), 0);
        Set<String> open = new TreeSet<>();
        Set<String> hidden = new TreeSet<>();
        for (Method method : FloeToFloe.class.getDeclaredMethods()) {
            if (Modifier.isPrivate(method.getModifiers())) {
                hidden.add(method.getName());
                continue;
            }
            boolean ints = method.getReturnType() == int.class
                    && Arrays.stream(method.getParameterTypes()).allMatch(type -> type == int.class);
            Due.isTrue(method + " is public, of an object and of ints",
                    Modifier.isPublic(method.getModifiers()) && !Modifier.isStatic(method.getModifiers()) && ints);
            open.add(method.getName() + " " + method.getParameterCount());
        }
        Due.isTrue("the face is the document's: " + open, open.equals(new TreeSet<>(Arrays.asList(FACE))));
        for (String name : FACE) {
            Due.isTrue("no private method bears the name " + name, !hidden.contains(name.substring(0, name.indexOf(' '))));
        }
    }

    private static void members(Class<?> type) {
        int own = 0;
        for (Field field : type.getDeclaredFields()) {
            boolean isStatic = Modifier.isStatic(field.getModifiers());
            Due.isTrue(field + " is final, if it is static", !isStatic || Modifier.isFinal(field.getModifiers()));
            own += isStatic ? 0 : 1;
        }
        Due.isTrue(type + " has twenty fields at most", own <= 20);
        for (Method method : type.getDeclaredMethods()) {
            Due.isTrue(method + " takes seven parameters at most", method.getParameterCount() <= 7);
            Due.isTrue(method + " is no lambda", !method.isSynthetic());
        }
    }

    private static void text(List<String> lines) {
        List<String> code = new ArrayList<>();
        for (String line : lines) {
            String bare = line.strip();
            if (!bare.startsWith("//") && !bare.startsWith("/*") && !bare.startsWith("*")) {
                code.add(line);
            }
        }
        for (String rule : FORBIDDEN) {
            Pattern pattern = Pattern.compile(rule);
            for (String line : code) {
                Due.isTrue("without " + rule + ": " + line, !pattern.matcher(line).find());
            }
        }
        for (String line : code) {
            // All calls of a run share one room, so whatever is made is made with the object.
            Due.isTrue("made in a call: " + line, !line.contains("new ") || line.strip().startsWith("private final "));
        }
    }
}
