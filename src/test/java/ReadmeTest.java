import java.io.File;
import java.lang.reflect.Method;
import java.lang.reflect.Modifier;
import java.net.URL;
import java.net.URLClassLoader;
import java.nio.file.Files;
import java.nio.file.Path;
import java.util.ArrayList;
import java.util.List;
import java.util.regex.Matcher;
import java.util.regex.Pattern;
import javax.tools.ToolProvider;

/** README.md: its Java is compiled and run as it stands there, and each answer it tells is compared. */
public final class ReadmeTest {
    private static final Path README = Path.of("README.md");
    private static final Pattern TOLD = Pattern.compile("((?:x\\.\\w+|tell)\\(.*\\)); *// (-?\\d+|true|false)\\b.*");
    private static final int FEWEST_ANSWERS = 45;

    private ReadmeTest() {
    }

    public static void main(String[] args) throws Exception {
        List<String> lines = Files.readAllLines(README);
        checkTable(lines);
        Path made = Files.createTempDirectory("readme");
        try {
            runExamples(made, program(javaOf(lines)));
        } finally {
            clear(made);
        }
        Check.finish("ReadmeTest");
    }

    private static void checkTable(List<String> lines) {
        String all = String.join("\n", lines);
        String table = all.substring(all.indexOf("### All calls"), all.indexOf("## Tests"));
        for (Method m : LastHome.class.getDeclaredMethods()) {
            if (Modifier.isPublic(m.getModifiers())) {
                Check.same("README's table has " + m.getName(), table.split("`" + m.getName() + "`", -1).length, 2);
            }
        }
    }

    private static List<String> javaOf(List<String> lines) {
        List<String> java = new ArrayList<>();
        boolean inside = false;
        for (String line : lines) {
            if (line.startsWith("```")) {
                inside = line.equals("```java");
            } else if (inside) {
                java.add(line);
            }
        }
        return java;
    }

    /** The helper (its block ends with a } at the margin) is a method, all lines behind it are the run. */
    private static String program(List<String> java) {
        StringBuilder all = new StringBuilder("public final class ReadmeRun {\n");
        all.append("static String wrong = \"\";\n");
        all.append("static void due(String call, Object got, Object due) {\n");
        all.append("if (!got.equals(due)) { wrong += call + \" answers \" + got + \"; \"; } }\n");
        int answers = 0;
        boolean behindHelper = false;
        for (String line : java) {
            Matcher told = TOLD.matcher(line);
            if (behindHelper && told.matches()) {
                answers++;
                String shown = told.group(1).replace("\"", "'");
                all.append("due(\"" + shown + "\", " + told.group(1) + ", " + told.group(2) + ");\n");
            } else {
                all.append(line).append('\n');
            }
            if (line.equals("}")) {
                behindHelper = true;
                all.append("public static String run() {\n");
            }
        }
        Check.same("README tells some answers", answers >= FEWEST_ANSWERS, true);
        return all.append("return wrong;\n}\n}\n").toString();
    }

    private static void runExamples(Path made, String program) throws Exception {
        Path source = made.resolve("ReadmeRun.java");
        Files.writeString(source, program);
        int code = ToolProvider.getSystemJavaCompiler().run(null, null, null, "-cp",
            System.getProperty("java.class.path"), "-d", made.toString(), source.toString());
        Check.same("README's Java is compiled", code, 0);
        if (code == 0) {
            try (URLClassLoader loader = new URLClassLoader(new URL[] {made.toUri().toURL()})) {
                String wrong = (String) loader.loadClass("ReadmeRun").getMethod("run").invoke(null);
                Check.same("README: " + wrong + "all as told", wrong.isEmpty(), true);
            }
        }
    }

    private static void clear(Path made) {
        File[] files = made.toFile().listFiles();
        for (File f : files == null ? new File[0] : files) {
            f.delete();
        }
        made.toFile().delete();
    }
}
