import java.io.ByteArrayOutputStream;
import java.io.IOException;
import java.io.PrintStream;
import java.lang.reflect.Method;
import java.nio.charset.StandardCharsets;
import java.nio.file.Files;
import java.nio.file.Path;

/** The example of README.md compiles, and prints what README.md says. */
public final class ReadmeTest {
    private ReadmeTest() {
    }

    /** The first block of a kind. */
    private static String block(String text, String kind) {
        String opening = "\n```" + kind + "\n";
        int start = text.indexOf(opening);
        int end = text.indexOf("\n```", start + opening.length());
        if (start < 0 || end < 0) throw new IllegalStateException("README.md has no block of " + kind);
        return text.substring(start + opening.length(), end + 1);
    }

    private static String printed(Method main) throws ReflectiveOperationException {
        PrintStream out = System.out;
        ByteArrayOutputStream printed = new ByteArrayOutputStream();
        System.setOut(new PrintStream(printed, true, StandardCharsets.UTF_8));
        try {
            main.invoke(null, (Object) new String[0]);
        } finally {
            System.setOut(out);
        }
        return printed.toString(StandardCharsets.UTF_8).replace(System.lineSeparator(), "\n");
    }

    public static void main(String[] args) throws IOException, ReflectiveOperationException {
        String readme = Files.readString(Path.of("README.md"));
        try (Compiled example = new Compiled(Compiled.program(), new String[] {"Example.java", block(readme, "java")})) {
            String printed = printed(example.load("Example").getMethod("main", String[].class));
            boolean same = printed.equals(block(readme, "text"));
            if (!same) System.out.println("the example prints:\n" + printed);
            Check.due("the example prints what is told", same ? 1 : 0, 1);
        }
        Check.finish("ReadmeTest");
    }
}
