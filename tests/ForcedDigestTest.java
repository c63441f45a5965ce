import java.io.IOException;

/**
 * What hangs on a digest that no known input has: a copy of the class, in which digests can be told what to
 * be, is asked by tests/support/ForcedDigest.
 */
public final class ForcedDigestTest {
  public static void main(String[] args) throws IOException, ReflectiveOperationException {
    Altered copy = new Altered("digests");
    copy.alter("out.addNumber(state[i], 4);", "out.addNumber(Integer.getInteger(\"digest\" + i, state[i]), 4);");
    String half = "      sha.take(half);\n      sha.finish(digest);\n      out.takeDigest(digest);\n";
    copy.alter(half, half + "      if (Integer.getInteger(\"zero\", -1) == half) {\n        out.becomeNumber(0);\n      }\n");
    copy.ask("ForcedDigest");
    Check.end();
  }
}
