import java.io.ByteArrayOutputStream;
import java.io.PrintStream;
import java.lang.reflect.Method;
import java.lang.reflect.Modifier;
import java.net.URL;
import java.net.URLClassLoader;
import java.nio.charset.StandardCharsets;
import java.nio.file.Files;
import java.nio.file.Path;
import java.util.Comparator;
import java.util.List;
import java.util.stream.Stream;
import javax.tools.JavaCompiler;
import javax.tools.ToolProvider;

/** README.md's program compiles with the class and prints what stands below it, and every call of the face is named there. */
public final class ReadmeTest extends Due {
    public static void main(String[] args) throws Exception {
        String readme = Files.readString(Path.of("README.md"));
        String program = blockOf(readme, "java");
        List<String> due = blockOf(readme, "text").lines().toList();
        List<String> printed = outputOf(program).lines().toList();
        check("README.md's program: lines printed", printed.size(), due.size());
        for (int i = 0; i < Math.min(printed.size(), due.size()); i++) {
            boolean like = printed.get(i).equals(due.get(i));
            check("README.md's program: '" + printed.get(i) + "' as '" + due.get(i) + "'", like ? 1 : 0, 1);
        }
        for (Method call : PathProber.class.getDeclaredMethods()) {
            if (Modifier.isPublic(call.getModifiers())) {
                boolean named = readme.contains("`" + call.getName() + "(") || readme.contains("`" + call.getName() + "`");
                check("README.md names " + call.getName(), named ? 1 : 0, 1);
            }
        }
        check("README.md tells how to run the tests", readme.contains("\nbash .ci/run\n") ? 1 : 0, 1);
        end();
    }

    /** The first block of that kind; empty without. */
    private static String blockOf(String readme, String kind) {
        String opening = "\n```" + kind + "\n";
        int start = readme.indexOf(opening);
        int end = readme.indexOf("\n```", start + opening.length() - 1);
        return start < 0 || end < 0 ? "" : readme.substring(start + opening.length(), end + 1);
    }

    private static String outputOf(String program) throws Exception {
        Path room = Files.createTempDirectory("readme");
        try {
            Path source = Files.writeString(room.resolve("Example.java"), program);
            JavaCompiler javac = ToolProvider.getSystemJavaCompiler();
            String classes = System.getProperty("java.class.path");
            int failed = javac.run(null, System.out, System.out, "-cp", classes, "-d", room.toString(), source.toString());
            return failed != 0 ? "" : runFrom(room);
        } finally {
            empty(room);
        }
    }

    private static String runFrom(Path room) throws Exception {
        PrintStream before = System.out;
        ByteArrayOutputStream taken = new ByteArrayOutputStream();
        try (URLClassLoader loader = new URLClassLoader(new URL[] {room.toUri().toURL()})) {
            System.setOut(new PrintStream(taken, true, StandardCharsets.UTF_8));
            Method main = loader.loadClass("Example").getMethod("main", String[].class);
            main.invoke(null, (Object) new String[0]);
        } finally {
            System.setOut(before);
        }
        return taken.toString(StandardCharsets.UTF_8);
    }

    private static void empty(Path room) throws Exception {
        try (Stream<Path> files = Files.walk(room)) {
            for (Path file : files.sorted(Comparator.reverseOrder()).toList()) {
                Files.delete(file);
            }
        }
    }
}
