import java.io.IOException;
import java.net.URL;
import java.net.URLClassLoader;
import java.nio.file.Files;
import java.nio.file.Path;
import javax.tools.ToolProvider;

/** A class compiled from a text while the tests run; its folder is gone when it is closed. */
final class Compiled implements AutoCloseable {
    private final Path folder;
    private final URLClassLoader loader;
    /** Whether it could be compiled. */
    final boolean fine;

    /** Beside the tests' classes it sees them; else it sees the Java library alone, and may bear a name of theirs. */
    Compiled(String name, String source, boolean besideTheTests) throws IOException {
        folder = Files.createTempDirectory("compiled");
        Path file = folder.resolve(name + ".java");
        Files.writeString(file, source);
        String seen = besideTheTests ? System.getProperty("java.class.path") : folder.toString();
        fine = ToolProvider.getSystemJavaCompiler().run(null, null, null, "-d", folder.toString(), "-cp", seen, file.toString()) == 0;
        ClassLoader above = besideTheTests ? Compiled.class.getClassLoader() : ClassLoader.getPlatformClassLoader();
        loader = new URLClassLoader(new URL[] {folder.toUri().toURL()}, above);
    }

    Class<?> load(String name) throws ClassNotFoundException {
        return loader.loadClass(name);
    }

    @Override
    public void close() throws IOException {
        loader.close();
        try (var files = Files.list(folder)) {
            for (Path file : files.toList()) {
                Files.delete(file);
            }
        }
        Files.delete(folder);
    }
}
