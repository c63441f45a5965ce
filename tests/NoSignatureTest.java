import java.io.IOException;
import java.lang.reflect.Method;
import java.net.URL;
import java.net.URLClassLoader;
import java.nio.file.Files;
import java.nio.file.Path;
import java.util.regex.Pattern;
import javax.tools.ToolProvider;

/**
 * Promise 10, where the signature can not be. No input is known for that, so a copy of the class is asked
 * in which the number that sign draws is 0.
 */
public final class NoSignatureTest {
  private static final Path PLACE = Path.of("build/zero");
  private static final String DRAWN = "k.takeDigest(digest);";
  private static final String ZERO = "k.becomeNumber(0);";
  private static final int BAD = -1, NO = -2, SPENT = -5;

  private final Object real;

  private NoSignatureTest(Class<?> type) throws ReflectiveOperationException {
    real = type.getConstructor().newInstance();
  }

  public static void main(String[] args) throws IOException, ReflectiveOperationException {
    compileCopy();
    URL[] places = {PLACE.toUri().toURL()};
    try (URLClassLoader loader = new URLClassLoader(places, ClassLoader.getPlatformClassLoader())) {
      Class<?> type = loader.loadClass("JointSigns");
      new NoSignatureTest(type).takesAllItsWork();
      new NoSignatureTest(type).changesNothingElse();
      new NoSignatureTest(type).refusedAhead();
      new NoSignatureTest(type).spent();
    }
    Check.end();
  }

  private static void compileCopy() throws IOException {
    String text = Files.readString(Path.of("src/main/java/JointSigns.java"));
    Check.due("places where sign draws its number", text.split(Pattern.quote(DRAWN), -1).length - 1, 1);
    Files.createDirectories(PLACE);
    Path copy = PLACE.resolve("JointSigns.java");
    Files.writeString(copy, text.replace(DRAWN, ZERO));
    int failed = ToolProvider.getSystemJavaCompiler()
        .run(null, null, null, "-d", PLACE.toString(), copy.toString());
    Check.due("compile the copy", failed, 0);
  }

  private int call(String name, long... values) throws ReflectiveOperationException {
    for (Method method : real.getClass().getMethods()) {
      if (method.getName().equals(name) && method.getParameterCount() == values.length) {
        Object[] arguments = new Object[values.length];
        for (int i = 0; i < values.length; i++) {
          boolean wide = method.getParameterTypes()[i] == long.class;
          arguments[i] = wide ? (Object) values[i] : (Object) (int) values[i];
        }
        return (Integer) method.invoke(real, arguments);
      }
    }
    throw new NoSuchMethodException(name);
  }

  private void number(int row, long n) throws ReflectiveOperationException {
    call("clear", row);
    for (int i = 0; i < 3; i++) {
      call("put", row, 8, 0);
    }
    call("put", row, 8, n);
  }

  private void work(int want) throws ReflectiveOperationException {
    Check.due("count(5)", call("count", 5), want);
  }

  private void takesAllItsWork() throws ReflectiveOperationException {
    number(2, 77);
    // Points with an even y and with an odd one are among these.
    for (int d = 1; d <= 8; d++) {
      number(0, d);
      Check.due("it can not be", call("sign", 3, 0, 1, 2), NO);
      work(2 * d);
    }
  }

  private void changesNothingElse() throws ReflectiveOperationException {
    number(0, 6);
    call("put", 1, 3, 0x010203);
    number(2, 7);
    call("put", 3, 1, 9);
    for (int row = 0; row < 4; row++) {
      call("copy", 4 + row, row, -1);
    }
    for (int row = 0; row < 4; row++) {
      Check.due("it can not be, onto row " + row, call("sign", row, 0, 1, 2), NO);
    }
    for (int row = 0; row < 4; row++) {
      Check.due("row " + row + " as it was", call("same", row, 4 + row), 1);
    }
    for (int what = 0; what < 5; what++) {
      Check.due("count(" + what + ")", call("count", what), 0);
    }
    work(8);
  }

  private void refusedAhead() throws ReflectiveOperationException {
    number(0, 6);
    number(2, 7);
    Check.due("no row", call("sign", 16, 0, 1, 2), BAD);
    Check.due("no secret", call("sign", 3, 1, 1, 2), NO);
    Check.due("a has no bytes", call("sign", 3, 0, 1, 1), NO);
    work(0);
  }

  private void spent() throws ReflectiveOperationException {
    number(0, 6);
    number(2, 7);
    for (int i = 0; i < 45; i++) {
      call("key", 3, 0, 0);
    }
    Check.due("45 and 2", call("sign", 3, 0, 1, 2), NO);
    work(47);
    Check.due("47 and 2", call("sign", 3, 0, 1, 2), SPENT);
    work(47);
    number(1, 0);
    Check.due("no secret comes first", call("sign", 3, 1, 1, 2), NO);
    work(47);
  }
}
