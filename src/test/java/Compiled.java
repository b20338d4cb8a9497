import java.io.IOException;
import java.net.URL;
import java.net.URLClassLoader;
import java.nio.file.Files;
import java.nio.file.Path;
import java.util.ArrayList;
import java.util.Arrays;
import java.util.Comparator;
import java.util.List;
import java.util.stream.Stream;
import javax.tools.ToolProvider;

/** Sources compiled apart from the tests, in a folder that goes when this is closed. */
final class Compiled implements AutoCloseable {
    static final Path PROGRAM = Path.of("src/main/java/GrownTown.java");
    private final Path folder;
    private final URLClassLoader loader;

    /** Each source is its file's name and its text. */
    Compiled(String[]... sources) throws IOException {
        folder = Files.createTempDirectory("compiled");
        List<String> args = new ArrayList<>(Arrays.asList("-encoding", "UTF-8", "-d", folder.toString()));
        for (String[] source : sources) args.add(Files.writeString(folder.resolve(source[0]), source[1]).toString());
        Check.due("javac", ToolProvider.getSystemJavaCompiler().run(null, null, null, args.toArray(new String[0])), 0);
        // the tests' own GrownTown must not be found ahead of the one that is compiled here
        loader = new URLClassLoader(new URL[] {folder.toUri().toURL()}, ClassLoader.getPlatformClassLoader());
    }

    static String[] program() throws IOException {
        return new String[] {"GrownTown.java", Files.readString(PROGRAM)};
    }

    Class<?> load(String name) throws ClassNotFoundException {
        return loader.loadClass(name);
    }

    @Override
    public void close() throws IOException {
        loader.close();
        List<Path> all;
        try (Stream<Path> walk = Files.walk(folder)) {
            all = walk.sorted(Comparator.reverseOrder()).toList();
        }
        for (Path path : all) Files.delete(path);
    }
}
