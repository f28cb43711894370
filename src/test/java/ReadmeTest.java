import java.io.IOException;
import java.io.StringWriter;
import java.lang.reflect.Method;
import java.lang.reflect.Modifier;
import java.net.URI;
import java.nio.file.DirectoryStream;
import java.nio.file.Files;
import java.nio.file.Path;
import java.util.ArrayList;
import java.util.List;
import java.util.regex.Matcher;
import java.util.regex.Pattern;
import javax.tools.JavaCompiler;
import javax.tools.JavaFileObject;
import javax.tools.SimpleJavaFileObject;
import javax.tools.ToolProvider;

/** README.md: its Java blocks are compiled and run, and each call answers the number that stands behind it. */
public final class ReadmeTest {
    private static final Pattern BLOCK = Pattern.compile("```java\n(.*?)```", Pattern.DOTALL);
    private static final Pattern SHOWN = Pattern.compile("^((?:x\\.\\w+|tell)\\(.*\\));\\s*//\\s*(-?\\d+)\\b.*$");
    private static final Pattern ROW = Pattern.compile("^\\| `(\\w+)\\(([^)]*)\\)` \\|.*$", Pattern.MULTILINE);

    public static void main(String[] args) throws Exception {
        String page = Files.readString(Path.of("README.md"));
        run(programOf(page));
        everyCall(page);
        everyTest(page);
        Due.end();
    }

    /** A block of a method stays one; each other block is a use of its own, whose shown answers become due. */
    private static String programOf(String page) {
        StringBuilder methods = new StringBuilder();
        StringBuilder uses = new StringBuilder();
        int shown = 0;
        Matcher block = BLOCK.matcher(page);
        while (block.find()) {
            if (block.group(1).startsWith("static ")) {
                methods.append(block.group(1));
                continue;
            }
            uses.append("{\n");
            for (String line : block.group(1).split("\n")) {
                Matcher answer = SHOWN.matcher(line);
                boolean isShown = answer.matches();
                Due.isTrue("README shows what is due: " + line, isShown || line.equals("FloeToFloe x = new FloeToFloe();"));
                uses.append(isShown ? due(answer.group(1), answer.group(2)) : line).append('\n');
                shown += isShown ? 1 : 0;
            }
            uses.append("}\n");
        }
        Due.isTrue("README shows calls", shown > 0);
        return "public class Shown {\n" + methods + "public static void run() {\n" + uses + "}\n}\n";
    }

    private static String due(String call, String want) {
        return "Due.is(\"README: " + call.replace("\"", "\\\"") + "\", " + call + ", " + want + ");";
    }

    private static void run(String program) throws Exception {
        JavaCompiler compiler = ToolProvider.getSystemJavaCompiler();
        JavaFileObject source = new SimpleJavaFileObject(URI.create("string:///Shown.java"), JavaFileObject.Kind.SOURCE) {
            @Override
            public CharSequence getCharContent(boolean ignored) {
                return program;
            }
        };
        // The classes of this run are where the shown uses find the class and Due.
        Path classes = Path.of(System.getProperty("java.class.path"));
        StringWriter said = new StringWriter();
        List<String> options = List.of("-cp", classes.toString(), "-d", classes.toString(), "-proc:none");
        boolean compiled = compiler.getTask(said, null, null, options, null, List.of(source)).call();
        Due.isTrue("the uses that README shows compile: " + said, compiled);
        if (compiled) {
            Class.forName("Shown").getMethod("run").invoke(null);
        }
    }

    /** The table has each method of the face once, with as many arguments as it takes. */
    private static void everyCall(String page) {
        List<String> told = new ArrayList<>();
        Matcher row = ROW.matcher(page);
        while (row.find()) {
            told.add(row.group(1) + " " + (row.group(2).isEmpty() ? 0 : row.group(2).split(",").length));
        }
        int methods = 0;
        for (Method method : FloeToFloe.class.getDeclaredMethods()) {
            if (!Modifier.isPrivate(method.getModifiers())) {
                methods++;
                String call = method.getName() + " " + method.getParameterCount();
                Due.isTrue("README tells " + call, told.contains(call));
            }
        }
        Due.is("calls that README tells", told.size(), methods);
    }

    private static void everyTest(String page) throws IOException {
        try (DirectoryStream<Path> tests = Files.newDirectoryStream(Path.of("src", "test", "java"), "*Test.java")) {
            for (Path test : tests) {
                String name = test.getFileName().toString().replace(".java", "");
                Due.isTrue("README tells of " + name, page.contains("`" + name + "`"));
            }
        }
    }
}
