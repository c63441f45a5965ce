import java.io.IOException;
import java.nio.file.Files;
import java.nio.file.Path;
import java.util.regex.Matcher;
import java.util.regex.Pattern;

/** Rules of ../shared/LANGUAGE.md that the text of the class can be asked for. */
public final class LanguageTest {
  private static final String[] FORBIDDEN = {"\\b(throw|throws|try|catch|synchronized|assert|import|package)\\b", "->",
      "::", "\\bstatic\\s*\\{", "Exact\\b", "\\bSystem\\b(?!\\.arraycopy)", "\\b(Random|Thread|Object|Class)\\b",
      "\\b(equals|hashCode|toString)\\s*\\(", "\"\\s*\\+|\\+\\s*\"", "\\bwhile\\s*\\(true\\)", "for\\s*\\(;;\\)"};

  public static void main(String[] args) throws IOException {
    String text = Files.readString(Path.of("src/main/java/JointSigns.java"));
    String code = text.replaceAll("(?s)/\\*.*?\\*/", "").replaceAll("//[^\n]*", "");
    for (String words : FORBIDDEN) {
      Check.due("places of " + words, count(words, code), 0);
    }
    Check.due("public classes", count("\\bpublic\\b[^(;=]*\\bclass\\b", code), 1);
    Check.due("public methods", count("(?m)^  public int \\w+\\(", code), 23);
    Check.due("members of the class that are not private", count("(?m)^  (?!public|private|\\})\\S", code), 0);
    Check.due("classes inside that are not private, static and final",
        count("\\bclass\\b", code) - 1 - count("private static final class", code), 0);
    Check.due("at most twelve classes", Math.max(count("\\bclass\\b", code), 12), 12);
    Check.due("static fields that are not final", count("\\bstatic (?!final|boolean is|boolean are|String tagName)", code),
        0);
    Check.due("objects made elsewhere than in a constructor", count("(?m)^ {6,}(return )?[^=\\n]*= new ", code), 5);
    lengths(code);
    Check.end();
  }

  private static int count(String words, String code) {
    Matcher matcher = Pattern.compile(words).matcher(code);
    int n = 0;
    while (matcher.find()) {
      n++;
    }
    return n;
  }

  private static void lengths(String code) {
    Matcher method = Pattern.compile("(?m)^( {2}| {4})(?! )[\\w\\[\\] ]+\\([^;\\n]*\\) \\{\n(.*\n)*?\\1\\}$").matcher(code);
    int methods = 0;
    while (method.find()) {
      methods++;
      int lines = method.group().split("\n").length;
      Check.due("lines of " + method.group().trim().split("\n")[0], Math.max(lines, 60), 60);
    }
    Check.due("methods seen", Math.max(methods, 120), methods);
  }
}
