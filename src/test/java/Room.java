import java.io.ByteArrayOutputStream;
import java.io.IOException;
import java.net.URL;
import java.net.URLClassLoader;
import java.nio.file.Files;
import java.nio.file.Path;
import javax.tools.JavaCompiler;
import javax.tools.ToolProvider;

/** A directory with a changed program, and the tests, loaded anew so that they meet that program. */
final class Room {
    private static final Path ROOMS = Path.of("build/rooms");

    /** What the compiler says, or null if it says nothing. */
    final String complaint;
    private final Path place;

    Room(String name, String source) throws IOException {
        place = ROOMS.resolve(name);
        Files.createDirectories(place);
        Path file = place.resolve("FlameGuards.java");
        Files.writeString(file, source);
        complaint = compile(file);
    }

    static String program() throws IOException {
        return Files.readString(Path.of("src/main/java/FlameGuards.java"));
    }

    URLClassLoader tests() throws IOException {
        URL tests = Path.of(System.getProperty("java.class.path")).toUri().toURL();
        return new URLClassLoader(new URL[] {place.toUri().toURL(), tests}, ClassLoader.getPlatformClassLoader());
    }

    private String compile(Path file) {
        JavaCompiler compiler = ToolProvider.getSystemJavaCompiler();
        if (compiler == null) {
            return "there is no compiler in this Java";
        }
        ByteArrayOutputStream words = new ByteArrayOutputStream();
        int answer = compiler.run(null, words, words, "-proc:none", "-d", place.toString(), file.toString());
        return answer == 0 ? null : words.toString();
    }
}
