import java.math.BigInteger;

/** Promises 14 to 16 and the SIGNERS of paragraph 3: a test of its own for each sentence that names a boundary. */
public final class BoundsSignersTest {
  private static final int BAD = -1, NO = -2, FULL = -3;
  private static final BigInteger ONE = BigInteger.ONE, P = Model.P, LAST = Rows.TOP.subtract(ONE);
  // The points with the greatest x have P - 3; there is one with x 1, none with x 0 or 5.
  private static final BigInteger LAST_X = P.subtract(BigInteger.valueOf(3)), NO_X = BigInteger.valueOf(5);
  private static final long[] SECRETS = {5, -6, 7, 8};

  public static void main(String[] args) {
    signerOneToFour();
    signerFull();
    signerSizes();
    signerFirstBytes();
    signerNumbers();
    signerNought();
    signerEndsNoncesAndSession();
    signerRefusesTheFirstOfSeveral();
    signerRows();
    signerAsTheRowIsNow();
    signersTakeNoWork();
    noSignersAtAll();
    noSignersOneToFour();
    noSignersLeaveAllElse();
    noSignersThenNewOnes();
    noSignersThenFewer();
    noSignersThenASession();
    jointKeyOneToFour();
    jointKeyOfAllAlike();
    jointKeyBySecond();
    jointKeyOfOppositePoints();
    jointKeyNoSigners();
    jointKeyRows();
    jointKeySpent();
    jointKeyRefusesTheFirstOfSeveral();
    Check.end();
  }

  private static long[] some(int n) {
    return java.util.Arrays.copyOf(SECRETS, n);
  }

  private static Scene signers(int n) {
    return new Scene(x -> Stage.signers(x, some(n)));
  }

  /** So many SIGNERS with NONCES told, a SESSION, PARTS, and a point in row 6. */
  private static Scene session(int n) {
    return new Scene(x -> {
      Stage.session(x, some(n));
      x.key(6, 0, 1);
    });
  }

  /** What is another with SIGNER j than without it, if there are no NONCES. */
  private static String[] pieces(int j) {
    return new String[] {"count 0", "part " + j, "partHolds " + j, "jointKey"};
  }

  private static void counts(String what, JointSigns x, int... wanted) {
    for (int i = 0; i < wanted.length; i++) {
      Check.due(what + ": count(" + i + ")", x.count(i), wanted[i]);
    }
  }

  // ---- promise 14: signer

  private static void signerOneToFour() {
    for (int n = 0; n < 4; n++) {
      Scene scene = signers(n).behind(x -> Rows.point(x, 6, 2, ONE));
      scene.changes("SIGNER " + n, n + 1, 0, x -> x.signer(6), pieces(n));
    }
  }

  private static void signerFull() {
    Scene scene = session(4);
    scene.still("a fifth SIGNER", FULL, x -> x.signer(6));
    scene.behind(x -> Rows.point(x, 6, 2, ONE)).still("a fifth SIGNER, a new one", FULL, x -> x.signer(6));
  }

  private static void signerSizes() {
    int[] sizes = {0, 1, 32, 34, 66, 100};
    session(2).sizes("a SIGNER", 6, sizes, NO, x -> x.signer(6));
    session(2).behind(x -> x.put(6, 1, 0)).still("a point and a byte", NO, x -> x.signer(6));
    session(2).behind(x -> x.key(6, 0, 0)).still("32 BYTES of x", NO, x -> x.signer(6));
  }

  private static void signerFirstBytes() {
    for (int first = 0; first < 256; first++) {
      int begins = first;
      Scene scene = new Scene(x -> Rows.point(x, 6, begins, Model.G.x()));
      if (first == 2 || first == 3) {
        scene.changes("first byte " + first, 1, 0, x -> x.signer(6), pieces(0));
      } else {
        scene.still("first byte " + first, NO, x -> x.signer(6));
      }
    }
  }

  private static void signerNumbers() {
    BigInteger[] lifted = {ONE, BigInteger.TWO, LAST_X};
    BigInteger[] none = {BigInteger.ZERO, NO_X, LAST_X.add(ONE), P.subtract(ONE), P, P.add(ONE), P.add(BigInteger.TWO),
        LAST};
    for (int first = 2; first <= 3; first++) {
      int begins = first;
      for (BigInteger n : lifted) {
        Scene scene = signers(1).behind(x -> Rows.point(x, 6, begins, n));
        scene.changes("x " + n, 2, 0, x -> x.signer(6), pieces(1));
      }
      for (BigInteger n : none) {
        session(1).behind(x -> Rows.point(x, 6, begins, n)).still("x " + n, NO, x -> x.signer(6));
      }
    }
  }

  private static void signerNought() {
    session(1).behind(x -> Rows.point(x, 6, 0, BigInteger.ZERO)).still("33 zeros", NO, x -> x.signer(6));
  }

  private static void signerEndsNoncesAndSession() {
    for (int n = 1; n < 4; n++) {
      JointSigns x = session(n).open();
      counts("ahead", x, n, n, n, 1);
      Check.due("one more", x.signer(6), n + 1);
      counts("behind", x, n + 1, 0, 0, 0);
      Check.due("no SESSION", x.about(7, 0), NO);
      Check.due("no NONCE", x.part(7, 0, 0), NO);
      Check.due("none told", x.session(5), NO);
      for (int j = 0; j < n; j++) {
        x.told(j, 8 + j);
      }
      Check.due("the last one has not told", x.session(5), NO);
      x.told(n, 8);
      Check.due("all told", x.session(5), 1);
      Check.due("the NONCE is gone", x.part(7, 0, 0), NO);
    }
  }

  private static void signerRefusesTheFirstOfSeveral() {
    Scene full = session(4);
    full.still("not READ, FULL", NO, x -> x.signer(5));
    full.still("no row, FULL", BAD, x -> x.signer(16));
  }

  private static void signerRows() {
    Scene scene = signers(2).behind(x -> Rows.point(x, 6, 3, ONE));
    scene.rows("signer", 3, new int[] {6}, new int[] {0}, -1, (x, a) -> x.signer(a[0]));
  }

  private static void signerAsTheRowIsNow() {
    Scene scene = session(2);
    scene.changes("the row of a SIGNER goes", 33, 0, x -> x.clear(6), "row 6");
  }

  private static void signersTakeNoWork() {
    Scene spent = new Scene(x -> Rows.point(x, 6, 2, ONE)).spent().behind(x -> Rows.point(x, 6, 2, ONE));
    spent.changes("a SIGNER with no WORK left", 1, 0, x -> x.signer(6), pieces(0));
    Scene one = spent.behind(x -> x.signer(6));
    one.changes("no SIGNERS with no WORK left", 1, 0, JointSigns::noSigners, pieces(0));
  }

  // ---- promise 15: noSigners

  private static void noSignersAtAll() {
    signers(0).still("no SIGNERS", 0, JointSigns::noSigners);
    signers(4).behind(JointSigns::noSigners).still("none any more", 0, JointSigns::noSigners);
  }

  private static void noSignersOneToFour() {
    for (int n = 1; n <= 4; n++) {
      JointSigns x = session(n).open();
      counts("ahead", x, n, n, n, 1);
      Check.due("how many", x.noSigners(), n);
      counts("behind", x, 0, 0, 0, 0);
      Check.due("no SIGNER 0", x.part(7, 0, 0), BAD);
      Check.due("no SESSION", x.about(7, 0), NO);
      Check.due("no SIGNERS", x.session(5), NO);
      Check.due("no SIGNERS", x.jointKey(7), NO);
    }
  }

  private static void noSignersLeaveAllElse() {
    Scene scene = new Scene(Stage::signed).behind(x -> {
      x.entry(2, 5, 3, 1);
      x.key(6, 0, 1);
      x.signer(6);
    });
    scene.changes("rows, entries and WORK stay", 1, 0, JointSigns::noSigners, pieces(0));
  }

  private static void noSignersThenNewOnes() {
    for (int n = 1; n <= 4; n++) {
      int were = n;
      Scene scene = session(n).behind(JointSigns::noSigners);
      scene.changes("a new one", 1, 0, x -> x.signer(6), pieces(0));
      JointSigns x = scene.open();
      for (int i = 1; i <= 4; i++) {
        Check.due("SIGNER " + i + " where " + were + " were", x.signer(6), i);
      }
      counts("anew", x, 4, 0, 0, 0);
      Check.due("a fifth", x.signer(6), FULL);
      Check.due("none told", x.session(5), NO);
    }
  }

  private static void clearAll(JointSigns x) {
    for (int row = 0; row < 16; row++) {
      x.clear(row);
    }
  }

  /** Nothing is left of four SIGNERS that had told and had a JOINT KEY. */
  private static void noSignersThenFewer() {
    Scene four = new Scene(x -> {
      Stage.signers(x, 11, -12, 13, 14);
      for (int j = 0; j < 4; j++) {
        Rows.fill(x, 7, Stage.point(21 + j) + Stage.point(-31 - j));
        x.told(j, 7);
      }
      x.jointKey(6);
      x.noSigners();
      clearAll(x);
    });
    for (int n = 1; n <= 4; n++) {
      long[] secrets = some(n);
      four.behind(x -> Stage.signers(x, secrets)).like(n + " SIGNERS where 4 were", signers(n));
      Scene told = four.behind(x -> tellPoints(x, secrets));
      told.like(n + " that told where 4 had", new Scene(x -> tellPoints(x, secrets)));
    }
  }

  private static void tellPoints(JointSigns x, long... secrets) {
    Stage.signers(x, secrets);
    for (int j = 0; j < secrets.length; j++) {
      Rows.fill(x, 7, Stage.point(41 + j) + Stage.point(51 + j));
      x.told(j, 7);
    }
    x.session(5);
  }

  /** Nothing is left of a SESSION with PARTS and THE SIGNATURE. */
  private static void noSignersThenASession() {
    Scene two = new Scene(x -> {
      Stage.session(x, 11, -12);
      Stage.parts(x);
      x.together(7, 12);
      x.noSigners();
      clearAll(x);
    });
    two.behind(x -> Stage.session(x, some(1))).like("a SESSION of 1 where 2 were", new Scene(x -> Stage.session(x, some(1))));
    two.behind(x -> Stage.session(x, some(2))).like("a SESSION of 2 where 2 were", new Scene(x -> Stage.session(x, some(2))));
  }

  // ---- promise 16: jointKey

  private static void jointKeyOneToFour() {
    for (int n = 1; n <= 4; n++) {
      signers(n).changes("JOINT KEY of " + n, 32, n, x -> x.jointKey(7), "row 7");
      session(n).changes("JOINT KEY in a SESSION", 32, n, x -> x.jointKey(7), "row 7");
    }
  }

  /** Points by letters; a great letter has the same x as its small one, and the other y. */
  private static void jointKey(String group) {
    Pair p = new Pair();
    for (int i = 0; i < group.length(); i++) {
      char letter = group.charAt(i);
      p.number(0, Character.toLowerCase(letter));
      p.key(6, 0, 1);
      if (Character.isUpperCase(letter)) {
        p.bend(6, 0, 1);
      }
      Check.due("SIGNER of " + group, p.signer(6), i + 1);
    }
    Check.due("JOINT KEY of " + group, p.jointKey(7), 32);
    Check.due("WORK of " + group, p.count(5), 2 * group.length());
    p.row(7);
  }

  /** No SECOND: all WEIGHTS are digests. */
  private static void jointKeyOfAllAlike() {
    String[] groups = {"a", "aa", "aaa", "aaaa"};
    for (String group : groups) {
      jointKey(group);
    }
  }

  /** THE SECOND at each place, alone and with others like it. */
  private static void jointKeyBySecond() {
    String[] groups = {"ab", "ba", "aab", "aaab", "abb", "abbb", "aba", "abab", "abc", "abcb", "abca", "aabc", "aabb"};
    for (String group : groups) {
      jointKey(group);
    }
  }

  private static void jointKeyOfOppositePoints() {
    String[] groups = {"A", "aA", "Aa", "aAaA", "aaA", "abA", "abB", "aBAb"};
    for (String group : groups) {
      jointKey(group);
    }
  }

  private static void jointKeyNoSigners() {
    signers(0).still("no SIGNERS", NO, x -> x.jointKey(7));
    session(2).behind(JointSigns::noSigners).still("none any more", NO, x -> x.jointKey(7));
  }

  private static void jointKeyRows() {
    signers(2).becomes("jointKey", 32, new int[] {7}, new int[] {0}, 0, (x, a) -> x.jointKey(a[0]));
    signers(0).rows("jointKey", NO, new int[] {7}, new int[] {0}, -1, (x, a) -> x.jointKey(a[0]));
  }

  private static void jointKeySpent() {
    for (int n = 1; n <= 4; n++) {
      signers(n).spends("JOINT KEY of " + n, n, 32, x -> x.jointKey(7));
    }
    session(2).spends("JOINT KEY in a SESSION", 2, 32, x -> x.jointKey(7));
  }

  private static void jointKeyRefusesTheFirstOfSeveral() {
    signers(0).spent().still("no SIGNERS, SPENT", NO, x -> x.jointKey(7));
    signers(1).spent().still("no row, SPENT", BAD, x -> x.jointKey(16));
  }
}
