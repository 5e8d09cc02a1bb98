import java.io.File;
import java.io.IOException;
import java.lang.reflect.Method;
import java.net.URL;
import java.net.URLClassLoader;
import java.nio.file.Files;
import java.nio.file.Path;
import java.util.ArrayList;
import java.util.List;
import java.util.regex.Matcher;
import java.util.regex.Pattern;
import javax.tools.ToolProvider;

/** That the example in README.md compiles, and that each line that ends with a number answers it; all calls are named there. */
public final class ReadmeTest {
    private static final Pattern LINE = Pattern.compile("(?:int (\\w+) = )?(t\\.\\w+\\(.*\\)); *// (.*)");
    private static final Pattern NUMBER_AT_THE_END = Pattern.compile("(?:.*: )?(?:treaty )?(-?\\d+)");

    private static String example(String readme, List<Integer> due) {
        String block = readme.substring(readme.indexOf("```java\n") + 8);
        StringBuilder code = new StringBuilder("public class Example { public static int[] run() { int[] got = new int[99]; int n = 0;\n");
        for (String line : block.substring(0, block.indexOf("```")).split("\n")) {
            Matcher m = LINE.matcher(line);
            if (!m.matches()) {
                code.append(line).append('\n');
                continue;
            }
            Matcher answer = NUMBER_AT_THE_END.matcher(m.group(3));
            due.add(answer.matches() ? Integer.valueOf(answer.group(1)) : null);
            code.append("got[n++] = ").append(m.group(2)).append(";\n");
            if (m.group(1) != null) {
                code.append("int ").append(m.group(1)).append(" = got[n - 1];\n");
            }
        }
        return code.append("return got; } }").toString();
    }

    private static int[] run(String code) throws IOException, ReflectiveOperationException {
        Path dir = Files.createTempDirectory("readme");
        Path source = dir.resolve("Example.java");
        try {
            Files.writeString(source, code);
            String classes = System.getProperty("java.class.path");
            if (ToolProvider.getSystemJavaCompiler().run(null, null, null, "-cp", classes, "-d", dir.toString(), source.toString()) != 0) {
                return new int[0];
            }
            try (URLClassLoader loader = new URLClassLoader(new URL[] {dir.toUri().toURL()})) {
                return (int[]) loader.loadClass("Example").getMethod("run").invoke(null);
            }
        } finally {
            for (File file : dir.toFile().listFiles()) {
                Files.delete(file.toPath());
            }
            Files.delete(dir);
        }
    }

    private static int wrongAnswers(List<Integer> due, int[] got) {
        int wrong = 0;
        for (int i = 0; i < due.size(); i++) {
            boolean isError = i >= got.length || got[i] <= -1000001;
            if (isError || due.get(i) != null && got[i] != due.get(i)) {
                System.out.println("call " + i + " of the example answered " + (i < got.length ? got[i] : "nothing") + ", due is " + due.get(i));
                wrong++;
            }
        }
        return wrong;
    }

    public static void main(String[] args) throws IOException, ReflectiveOperationException {
        String readme = Files.readString(Path.of("README.md"));
        List<Integer> due = new ArrayList<>();
        int wrong = wrongAnswers(due, run(example(readme, due)));
        for (Method m : KnockTable.class.getDeclaredMethods()) {
            boolean isAct = java.lang.reflect.Modifier.isPublic(m.getModifiers());
            if (isAct && !readme.contains("`" + m.getName() + "`")) {
                System.out.println("README.md doesn't name " + m.getName());
                wrong++;
            }
        }
        System.out.println("ReadmeTest: " + due.size() + " calls, " + wrong + " not as due");
        if (wrong != 0 || due.isEmpty()) {
            System.exit(1);
        }
    }
}
