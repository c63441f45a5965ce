import java.math.BigInteger;

/** Promises 14 to 16: signers and their joint key. */
public final class GroupTest {
  private static final int BAD = -1, NO = -2, FULL = -3, SPENT = -5;
  private static final int[] NO_ROWS = {-1, 16, Integer.MIN_VALUE, Integer.MAX_VALUE};

  public static void main(String[] args) {
    signers();
    signerRefused();
    whatGoes();
    refusalsLeaveAll();
    jointKeys();
    jointKeyRefused();
    jointKeySpent();
    Check.end();
  }

  private static void signers() {
    Pair p = new Pair();
    for (int i = 1; i <= 4; i++) {
      p.number(0, i * 1000);
      p.key(1, 0, 1);
      Check.due("signer", p.signer(1), i);
      Check.due("count", p.count(0), i);
    }
    Check.due("four are all", p.signer(1), FULL);
    Check.due("NO comes first", p.signer(2), NO);
    Check.due("BAD comes first", p.signer(16), BAD);
    Check.due("no signers", p.noSigners(), 4);
    Check.due("none", p.count(0), 0);
    Check.due("no signers again", p.noSigners(), 0);
    Check.due("one anew", p.signer(1), 1);
    Check.due("the same again", p.signer(1), 2);
    Check.due("work", p.count(5), 4);
  }

  private static void signerRefused() {
    Pair p = new Pair();
    for (int row : NO_ROWS) {
      Check.due("no row", p.signer(row), BAD);
    }
    p.number(0, 4);
    p.key(1, 0, 1);
    Check.due("no bytes", p.signer(2), NO);
    Check.due("32 bytes", p.signer(0), NO);
    p.copy(2, 1, -1);
    p.put(2, 1, 0);
    Check.due("34 bytes", p.signer(2), NO);
    int[] firsts = {0, 1, 4, 5, 130, 255};
    for (int first : firsts) {
      compressed(p, first, Model.G.x());
      Check.due("first byte " + first, p.signer(2), NO);
    }
    compressed(p, 0, BigInteger.ZERO);
    Check.due("nought", p.signer(2), NO);
    compressed(p, 2, BigInteger.valueOf(5));
    Check.due("5 is no x of the curve", p.signer(2), NO);
    compressed(p, 3, Model.P.add(BigInteger.ONE));
    Check.due("not below P", p.signer(2), NO);
    compressed(p, 2, Model.P);
    Check.due("P", p.signer(2), NO);
    Check.due("none has come", p.count(0), 0);
    compressed(p, 3, BigInteger.ONE);
    Check.due("odd y", p.signer(2), 1);
    compressed(p, 2, BigInteger.ONE);
    Check.due("even y", p.signer(2), 2);
    Check.due("joint key", p.jointKey(3), 32);
    p.row(3);
  }

  private static void compressed(Pair p, int first, BigInteger x) {
    p.number(2, x);
    p.clear(3);
    p.put(3, 1, first);
    p.copy(2, 3, 2);
    p.clear(3);
  }

  /** Rows 0, 1 secrets, 2, 3 their points, 8, 9 nonces told, 5 a message; a session stands. */
  private static Pair inSession() {
    Pair p = new Pair();
    p.number(0, 31);
    p.number(1, 41);
    p.put(5, 2, 0x6869);
    for (int j = 0; j < 2; j++) {
      p.key(2 + j, j, 1);
      p.signer(2 + j);
    }
    for (int j = 0; j < 2; j++) {
      p.nonce(8 + j, j, j, 0, 5);
      p.told(j, 8 + j);
    }
    p.session(5);
    counts(p, 2, 2, 2, 1);
    return p;
  }

  private static void counts(Pair p, int... wanted) {
    for (int what = 0; what < wanted.length; what++) {
      Check.due("count(" + what + ")", p.count(what), wanted[what]);
    }
  }

  private static void whatGoes() {
    Pair p = inSession();
    Check.due("a third signer", p.signer(2), 3);
    counts(p, 3, 0, 0, 0);
    Check.due("no session", p.about(6, 0), NO);
    Check.due("not all told", p.session(5), NO);
    p = inSession();
    Check.due("no signers", p.noSigners(), 2);
    counts(p, 0, 0, 0, 0);
    Check.due("no session", p.about(6, 0), NO);
    Check.due("no signer 0", p.part(6, 0, 0), BAD);
    p.signer(2);
    counts(p, 1, 0, 0, 0);
    Check.due("it has not told", p.session(5), NO);
    p.told(0, 8);
    Check.due("the old session is gone", p.part(6, 0, 0), NO);
  }

  private static void refusalsLeaveAll() {
    Pair p = inSession();
    Check.due("not read", p.signer(0), NO);
    Check.due("no row", p.signer(16), BAD);
    counts(p, 2, 2, 2, 1);
    Check.due("the session stands", p.about(6, 0), 66);
    p.signer(2);
    p.signer(2);
    for (int j = 0; j < 2; j++) {
      p.told(j, 8);
    }
    Check.due("four are all", p.signer(3), FULL);
    counts(p, 4, 0, 2, 0);
  }

  /** Points by letters: a small one has an even y, the great one of the same letter an odd y. */
  private static void jointKeys() {
    String[] groups = {"a", "A", "aa", "ab", "ba", "aA", "aab", "aba", "abb", "abc", "aaa", "aabb", "abab", "abca",
        "abcb", "abac", "aaab", "aAaA", "dcba", "aaaa"};
    for (String group : groups) {
      Pair p = new Pair();
      for (int i = 0; i < group.length(); i++) {
        char letter = group.charAt(i);
        p.number(0, 100 + Character.toLowerCase(letter));
        p.key(1, 0, 1);
        if (p.at(1, 0) != (Character.isLowerCase(letter) ? 2 : 3)) {
          p.bend(1, 0, 1);
        }
        Check.due("signer", p.signer(1), i + 1);
      }
      Check.due("joint key", p.jointKey(2), 32);
      Check.due("work of " + group, p.count(5), 2 * group.length());
      p.row(2);
    }
  }

  private static void jointKeyRefused() {
    Pair p = new Pair();
    Check.due("no signers", p.jointKey(0), NO);
    for (int row : NO_ROWS) {
      Check.due("no row", p.jointKey(row), BAD);
    }
    Check.due("no work", p.count(5), 0);
  }

  private static void jointKeySpent() {
    Pair p = new Pair();
    p.number(0, 8);
    p.key(1, 0, 1);
    while (p.count(5) < 45) {
      p.key(2, 0, 0);
    }
    p.signer(1);
    p.signer(1);
    p.signer(1);
    p.signer(1);
    Check.due("45 and 4", p.jointKey(3), SPENT);
    Check.due("nothing has come", p.at(3, -1), 0);
    p.noSigners();
    Check.due("no signers come first", p.jointKey(3), NO);
    p.signer(1);
    p.signer(1);
    p.signer(1);
    Check.due("45 and 3", p.jointKey(3), 32);
    Check.due("work", p.count(5), 48);
    Check.due("48 and 3", p.jointKey(3), SPENT);
    p.noSigners();
    Check.due("no signers come first", p.jointKey(3), NO);
    Check.due("BAD comes first", p.jointKey(16), BAD);
  }
}
