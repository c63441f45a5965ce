import java.io.IOException;
import java.net.URL;
import java.net.URLClassLoader;
import java.nio.file.Files;
import java.nio.file.Path;
import java.util.regex.Pattern;
import javax.tools.ToolProvider;

/** A copy of the class with some pieces of its text altered, and tests that are asked of that copy. */
final class Altered {
  private static final Path SOURCE = Path.of("src/main/java/JointSigns.java");
  private static final Path CLASSES = Path.of(System.getProperty("java.class.path"));

  private final Path place;
  private String text;

  Altered(String name) throws IOException {
    place = CLASSES.resolve("altered").resolve(name);
    text = Files.readString(SOURCE);
  }

  /** Puts another piece in the place of one that stands in the text just once. */
  void alter(String piece, String other) {
    Check.due("places of " + piece, text.split(Pattern.quote(piece), -1).length - 1, 1);
    text = text.replace(piece, other);
  }

  /** Runs main of a class, with all classes that it needs, on the copy. */
  void ask(String test) throws IOException, ReflectiveOperationException {
    Files.createDirectories(place);
    Path copy = place.resolve("JointSigns.java");
    Files.writeString(copy, text);
    int failed = ToolProvider.getSystemJavaCompiler()
        .run(null, null, null, "-d", place.toString(), copy.toString());
    Check.due("compile the copy", failed, 0);
    URL[] places = {place.toUri().toURL(), CLASSES.toUri().toURL()};
    try (URLClassLoader loader = new URLClassLoader(places, ClassLoader.getPlatformClassLoader())) {
      loader.loadClass(test).getMethod("main", String[].class).invoke(null, (Object) new String[0]);
    }
  }
}
