import java.math.BigInteger;
import java.util.Arrays;

/** Promises 21 to 24 and THE PARTS of paragraph 3: a test of its own for each sentence that names a boundary. */
public final class BoundsPartsTest {
  private static final int BAD = -1, NO = -2;
  private static final int MIN = Integer.MIN_VALUE, MAX = Integer.MAX_VALUE;
  private static final BigInteger ONE = BigInteger.ONE, N = Model.N, LAST = Rows.TOP.subtract(ONE);
  private static final int[] NOT_32 = {0, 1, 31, 33, 64, 100};
  private static final BigInteger[] NOT_BELOW_N = {N, N.add(ONE), Model.P, LAST};
  private static final long[] SECRETS = {5, -6, 7, 8};

  public static void main(String[] args) {
    partOfEachSigner();
    partOfNoSigner();
    partNoSession();
    partOfNoSecret();
    partOfTheFirstAndTheLastSecret();
    partNoNonce();
    partOnce();
    partNotWhatItTold();
    partOfAnothersSecret();
    partOfTheOtherY();
    partRows();
    partOntoItself();
    partSpent();
    partRefusesTheFirstOfSeveral();
    partHoldsOfEachSigner();
    partHoldsOfNoSigner();
    partHoldsNoSession();
    partHoldsSizes();
    partHoldsBelowN();
    partHoldsForNoOther();
    partHoldsRows();
    partHoldsSpent();
    partHoldsRefusesTheFirstOfSeveral();
    togetherOfOneToFour();
    togetherLastRows();
    togetherNoSession();
    togetherSizes();
    togetherBelowN();
    togetherAddsModuloN();
    togetherOntoItself();
    togetherRows();
    togetherRefusesTheFirstOfSeveral();
    togetherTakesNoWork();
    countNumbers();
    countNoneToFour();
    countSession();
    countEntries();
    countWork();
    Check.end();
  }

  private static Scene signers(int n) {
    return new Scene(x -> Stage.signers(x, Arrays.copyOf(SECRETS, n)));
  }

  private static Scene told(int n) {
    return signers(n).behind(Stage::tell);
  }

  private static Scene session(int n) {
    return told(n).behind(x -> x.session(5));
  }

  /** All have made their PARTS, in ROWS from 12 on. */
  private static Scene parts(int n) {
    return session(n).behind(Stage::parts);
  }

  // ---- promise 21: part

  private static void partOfEachSigner() {
    for (int n = 1; n <= 4; n++) {
      for (int j = 0; j < n; j++) {
        int who = j;
        session(n).changes("PART of " + j + " of " + n, 32, 1, x -> x.part(7, who, who), "row 7", "count 1", "part " + j);
      }
    }
  }

  private static void partOfNoSigner() {
    for (int n = 0; n <= 4; n++) {
      session(n).bad("PART where are " + n, new int[] {-1, n, n + 1, 4, 5, MIN, MAX}, (x, a) -> x.part(7, a[0], 0));
    }
  }

  private static void partNoSession() {
    told(2).still("all told, no SESSION", NO, x -> x.part(7, 0, 0));
    session(2).behind(x -> x.told(1, 9)).still("no SESSION any more", NO, x -> x.part(7, 0, 0));
    session(2).behind(x -> x.session(10)).changes("a SESSION with no bytes", 32, 1, x -> x.part(7, 0, 0), "row 7",
        "count 1", "part 0");
  }

  private static void partOfNoSecret() {
    session(2).noSecrets("PART", 6, x -> x.part(7, 0, 6));
    session(2).noSecrets("PART of its own row", 1, x -> x.part(7, 1, 1));
  }

  private static void partOfTheFirstAndTheLastSecret() {
    long[] secrets = {1, -1, 2, -2};
    for (long secret : secrets) {
      Scene scene = new Scene(x -> Stage.session(x, secret, 9));
      scene.changes("PART of " + secret, 32, 1, x -> x.part(7, 0, 0), "row 7", "count 1", "part 0");
      scene.behind(x -> x.part(7, 0, 0)).still("it holds", 1, 3, x -> x.partHolds(0, 7));
    }
  }

  private static void partNoNonce() {
    Scene scene = signers(2).behind(x -> {
      Rows.fill(x, 8, Stage.point(11) + Stage.point(-12));
      x.told(0, 8);
      x.nonce(9, 1, 1, 4, 5);
      x.told(1, 9);
      x.session(5);
    });
    scene.still("told, but none had", NO, x -> x.part(7, 0, 0));
    scene.changes("the other has one", 32, 1, x -> x.part(7, 1, 1), "row 7", "count 1", "part 1");
  }

  private static void partOnce() {
    Scene scene = session(2).behind(x -> x.part(7, 0, 0));
    scene.still("again", NO, x -> x.part(7, 0, 0));
    scene.still("again, to another row", NO, x -> x.part(6, 0, 0));
    scene.behind(x -> x.session(5)).still("in the same SESSION anew", NO, x -> x.part(7, 0, 0));
    scene.behind(x -> x.session(10)).still("in another SESSION", NO, x -> x.part(7, 0, 0));
    Scene again = scene.behind(x -> {
      x.told(0, 8);
      x.session(5);
    });
    again.still("told again", NO, x -> x.part(7, 0, 0));
    scene.changes("the other SIGNER once", 32, 1, x -> x.part(7, 1, 1), "row 7", "count 1", "part 1");
    scene.behind(x -> x.part(7, 1, 1)).still("and no more", NO, x -> x.part(7, 1, 1));
  }

  private static void partNotWhatItTold() {
    Scene anotherNonce = session(2).behind(x -> {
      Rows.number(x, 6, 314159);
      x.nonce(7, 0, 0, 6, 5);
    });
    anotherNonce.still("a NONCE behind what it told", NO, x -> x.part(7, 0, 0));
    int[] bytes = {0, 33};
    for (int i : bytes) {
      Scene bent = session(2).behind(x -> {
        x.bend(8, i, 1);
        x.told(0, 8);
        x.session(5);
      });
      bent.still("it told one point with the other y", NO, x -> x.part(7, 0, 0));
    }
    Scene crossed = session(2).behind(x -> {
      x.told(0, 9);
      x.told(1, 8);
      x.session(5);
    });
    crossed.still("0 told what is the NONCE of 1", NO, x -> x.part(7, 0, 0));
    crossed.still("1 told what is the NONCE of 0", NO, x -> x.part(7, 1, 1));
  }

  private static void partOfAnothersSecret() {
    session(2).still("SIGNER 0 by the SECRET of 1", NO, 1, x -> x.part(7, 0, 1));
    session(2).still("SIGNER 1 by the SECRET of 0", NO, 1, x -> x.part(7, 1, 0));
    Scene stranger = session(2).behind(x -> Rows.number(x, 6, 9));
    stranger.still("a stranger's SECRET", NO, 1, x -> x.part(7, 0, 6));
  }

  private static void partOfTheOtherY() {
    for (int j = 0; j < 2; j++) {
      int who = j;
      Scene scene = session(2).behind(x -> Rows.number(x, 6, Stage.secret(-SECRETS[who])));
      scene.still("N less the SECRET", NO, 1, x -> x.part(7, who, 6));
    }
  }

  private static void partRows() {
    session(2).becomes("part", 32, new int[] {7, 1}, new int[] {0, 1}, 0, (x, a) -> x.part(a[0], 1, a[1]));
  }

  private static void partOntoItself() {
    JointSigns x = session(2).open();
    Check.due("onto the SECRET", x.part(0, 0, 0), 32);
    Check.due("it holds", x.partHolds(0, 0), 1);
    JointSigns y = session(2).open();
    y.part(7, 0, 0);
    Check.due("the same", Rows.read(x, 0), Rows.read(y, 7));
  }

  private static void partSpent() {
    for (int n = 1; n <= 4; n++) {
      session(n).spends("PART of one of " + n, 1, 32, x -> x.part(7, 0, 0));
    }
    session(2).spends("another's SECRET", 1, NO, x -> x.part(7, 0, 1));
  }

  private static void partRefusesTheFirstOfSeveral() {
    session(2).still("no SIGNER, no SECRET", BAD, x -> x.part(7, 2, 5));
    session(2).still("no row, no SECRET", BAD, x -> x.part(16, 0, 5));
    parts(2).still("no NONCE, another's SECRET", NO, x -> x.part(7, 0, 1));
    told(2).still("no SESSION, another's SECRET", NO, x -> x.part(7, 0, 1));
    told(2).spent().still("no SESSION, SPENT", NO, x -> x.part(7, 0, 0));
    session(2).spent().still("no SECRET, SPENT", NO, x -> x.part(7, 0, 5));
    parts(2).spent().still("no NONCE, SPENT", NO, x -> x.part(7, 0, 0));
    session(2).spent().still("no row, SPENT", BAD, x -> x.part(-1, 0, 0));
  }

  // ---- promise 22: partHolds

  private static void partHoldsOfEachSigner() {
    for (int n = 1; n <= 4; n++) {
      for (int j = 0; j < n; j++) {
        int who = j;
        session(n).behind(x -> x.part(7, who, who)).still("PART of " + j, 1, 3, x -> x.partHolds(who, 7));
      }
    }
  }

  private static void partHoldsOfNoSigner() {
    for (int n = 0; n <= 4; n++) {
      session(n).bad("PART where are " + n, new int[] {-1, n, n + 1, 4, 5, MIN, MAX}, (x, a) -> x.partHolds(a[0], 4));
    }
  }

  private static void partHoldsNoSession() {
    told(2).still("no SESSION", NO, x -> x.partHolds(0, 4));
    parts(2).behind(x -> x.told(0, 8)).still("none any more", NO, x -> x.partHolds(0, 12));
    signers(2).still("none told", NO, x -> x.partHolds(0, 4));
  }

  private static void partHoldsSizes() {
    parts(2).sizes("PART", 12, NOT_32, NO, x -> x.partHolds(0, 12));
    parts(2).behind(x -> x.put(12, 1, 0)).still("a byte behind it", NO, x -> x.partHolds(0, 12));
  }

  private static void partHoldsBelowN() {
    BigInteger[] below = {BigInteger.ZERO, ONE, N.subtract(ONE)};
    for (BigInteger s : below) {
      session(2).behind(x -> Rows.number(x, 7, s)).still("PART " + s, 0, 3, x -> x.partHolds(0, 7));
    }
    for (BigInteger s : NOT_BELOW_N) {
      session(2).behind(x -> Rows.number(x, 7, s)).still("PART " + s, 0, x -> x.partHolds(0, 7));
    }
  }

  private static void partHoldsForNoOther() {
    Scene scene = parts(2);
    scene.still("of SIGNER 1 for 0", 0, 3, x -> x.partHolds(0, 13));
    scene.still("of SIGNER 0 for 1", 0, 3, x -> x.partHolds(1, 12));
    int[] bytes = {0, 15, 31};
    for (int i : bytes) {
      scene.behind(x -> x.bend(12, i, 1)).still("bent", 0, 3, x -> x.partHolds(0, 12));
    }
    scene.behind(x -> x.session(10)).still("in another SESSION", 0, 3, x -> x.partHolds(0, 12));
    scene.behind(x -> x.session(5)).still("in the same SESSION anew", 1, 3, x -> x.partHolds(0, 12));
    Scene negated = scene.behind(x -> Rows.number(x, 12, N.subtract(new BigInteger(Rows.read(x, 12), 16))));
    negated.still("N less the PART", 0, 3, x -> x.partHolds(0, 12));
  }

  private static void partHoldsRows() {
    session(2).behind(x -> x.part(7, 1, 1)).rows("partHolds", 1, new int[] {7}, new int[] {0}, -1,
        (x, a) -> x.partHolds(1, a[0]));
  }

  private static void partHoldsSpent() {
    for (int n = 1; n <= 4; n++) {
      session(n).behind(x -> x.part(7, 0, 0)).spends("PART of one of " + n, 3, 1, x -> x.partHolds(0, 7));
    }
    session(2).spends("no PART", 3, 0, x -> x.partHolds(0, 4));
  }

  private static void partHoldsRefusesTheFirstOfSeveral() {
    told(2).still("no SIGNER, no SESSION", BAD, x -> x.partHolds(2, 4));
    told(2).still("no row, no SESSION", BAD, x -> x.partHolds(0, 16));
    told(2).spent().still("no SESSION, SPENT", NO, x -> x.partHolds(0, 4));
    Scene spent = session(2).spent();
    spent.still("8 bytes, SPENT", NO, x -> x.partHolds(0, 5));
    spent.still("no SIGNER, SPENT", BAD, x -> x.partHolds(2, 4));
    for (BigInteger s : NOT_BELOW_N) {
      spent.behind(x -> Rows.number(x, 7, s)).still("not below N, SPENT", 0, x -> x.partHolds(0, 7));
    }
  }

  // ---- promise 23: together

  private static void togetherOfOneToFour() {
    for (int n = 1; n <= 4; n++) {
      parts(n).changes("PARTS of " + n, 64, 0, x -> x.together(7, 12), "row 7");
      JointSigns x = parts(n).open();
      x.together(7, 12);
      x.about(6, 1);
      Check.due("32 BYTES of x of R", Rows.read(x, 7).substring(0, 64), Rows.read(x, 6));
      x.jointKey(6);
      Check.due("a SIGNATURE", x.holds(6, 5, 7), 1);
    }
  }

  /** The ROWS of the last PARTS there may be, and one ROW too far. */
  private static void togetherLastRows() {
    for (int n = 1; n <= 4; n++) {
      Scene scene = session(n).behind(x -> {
        for (int row = 12; row < 16; row++) {
          Rows.number(x, row, row);
        }
      });
      scene.changes("up to row 15", 64, 0, x -> x.together(7, 16 - x.count(0)), "row 7");
      scene.changes("rows from 0 on", 64, 0, x -> x.together(7, 0), "row 7");
      for (int from = 17 - n; from < 20; from++) {
        int first = from;
        scene.still(n + " PARTS from row " + from, BAD, x -> x.together(7, first));
      }
      scene.bad("PARTS from row", new int[] {-1, -n, 16, 17, MIN, MAX, MAX - n, MAX - n + 1}, (x, a) -> x.together(7, a[0]));
    }
  }

  private static void togetherNoSession() {
    told(2).still("no SESSION", NO, x -> x.together(7, 0));
    signers(0).still("no SIGNERS, no SESSION", NO, x -> x.together(7, 0));
    signers(0).still("no SIGNERS, no SESSION", NO, x -> x.together(7, 15));
    parts(2).behind(x -> x.told(0, 8)).still("none any more", NO, x -> x.together(7, 12));
    parts(2).behind(JointSigns::noSigners).still("no SIGNERS any more", NO, x -> x.together(7, 12));
  }

  private static void togetherSizes() {
    for (int n = 1; n <= 4; n++) {
      for (int j = 0; j < n; j++) {
        int[] sizes = {0, 31, 33};
        parts(n).sizes("PART " + j + " of " + n, 12 + j, sizes, NO, x -> x.together(7, 12));
      }
    }
    parts(2).sizes("PART", 12, NOT_32, NO, x -> x.together(7, 12));
    parts(3).behind(x -> x.clear(15)).changes("what is no PART may be empty", 64, 0, x -> x.together(7, 12), "row 7");
  }

  private static void togetherBelowN() {
    for (int n = 1; n <= 4; n++) {
      for (int j = 0; j < n; j++) {
        int row = 12 + j;
        for (BigInteger s : NOT_BELOW_N) {
          parts(n).behind(x -> Rows.number(x, row, s)).still("PART " + s, NO, x -> x.together(7, 12));
        }
        Scene last = parts(n).behind(x -> Rows.number(x, row, N.subtract(ONE)));
        last.changes("PART N - 1", 64, 0, x -> x.together(7, 12), "row 7");
      }
    }
  }

  private static void togetherAddsModuloN() {
    BigInteger last = N.subtract(ONE);
    BigInteger half = N.shiftRight(1);
    sum(0, BigInteger.ZERO);
    sum(0, BigInteger.ZERO, BigInteger.ZERO);
    sum(0, last, ONE);
    sum(0, ONE, last);
    sum(1, last, BigInteger.TWO);
    sum(-1, last, BigInteger.ZERO);
    sum(-2, last, last);
    sum(-4, last, last, last, last);
    sum(-1, half, half);
    sum(0, half, half, ONE);
    sum(0, last, ONE, last, ONE);
    sum(4, ONE, ONE, ONE, ONE);
  }

  /** PARTS and the number that they are together; below 0: so far below N. */
  private static void sum(long want, BigInteger... numbers) {
    JointSigns x = session(numbers.length).open();
    for (int j = 0; j < numbers.length; j++) {
      Rows.number(x, 12 + j, numbers[j]);
    }
    Check.due("together", x.together(7, 12), 64);
    Check.due("sum of " + Arrays.toString(numbers), Rows.read(x, 7).substring(64), Rows.number(Stage.secret(want)));
  }

  private static void togetherOntoItself() {
    for (int j = 0; j < 3; j++) {
      int to = 12 + j;
      parts(3).changes("onto PART " + j, 64, 0, x -> x.together(to, 12), "row " + to, "partHolds " + j);
      JointSigns x = parts(3).open();
      x.together(7, 12);
      x.together(to, 12);
      Check.due("the same", x.same(7, to), 1);
      Check.due("that is no PART", x.together(7, 12), NO);
    }
  }

  private static void togetherRows() {
    session(1).behind(x -> Rows.number(x, 12, 3)).becomes("together", 64, new int[] {7, 12}, new int[] {0, 1}, 0,
        (x, a) -> x.together(a[0], a[1]));
    parts(3).becomes("together", 64, new int[] {7, 12}, new int[] {0}, 0, (x, a) -> x.together(a[0], a[1]));
  }

  private static void togetherRefusesTheFirstOfSeveral() {
    told(2).still("one row too far, no SESSION", BAD, x -> x.together(7, 15));
    session(2).still("one row too far, no 32 bytes", BAD, x -> x.together(7, 15));
    told(2).still("no row, no SESSION", BAD, x -> x.together(16, 12));
    signers(0).still("no row, no SIGNERS", BAD, x -> x.together(7, 16));
  }

  private static void togetherTakesNoWork() {
    Scene spent = parts(2).spent();
    spent.changes("with no WORK left", 64, 0, x -> x.together(7, 12), "row 7");
    spent.behind(x -> x.clear(12)).still("no bytes, no WORK left", NO, x -> x.together(7, 12));
  }

  // ---- promise 24: count

  private static void countNumbers() {
    session(2).bad("count", new int[] {-1, 6, -2, 7, MIN, MAX}, (x, a) -> x.count(a[0]));
    for (int what = 0; what < 5; what++) {
      int asked = what;
      int[] wanted = {2, 2, 2, 1, 0};
      session(2).still("count " + what, wanted[what], x -> x.count(asked));
    }
  }

  /** SIGNERS, NONCES that are had and SIGNERS that told, one after another from none to four, and back. */
  private static void countNoneToFour() {
    for (int n = 1; n <= 4; n++) {
      JointSigns x = signers(n).open();
      for (int j = 0; j < n; j++) {
        counts(x, n, j, 0);
        x.nonce(8 + j, j, j, 4, 5);
      }
      for (int j = 0; j < n; j++) {
        counts(x, n, n, j);
        x.told(j, 8 + j);
      }
      x.session(5);
      for (int j = 0; j < n; j++) {
        counts(x, n, n - j, n);
        x.part(12, j, j);
      }
      counts(x, n, 0, n);
      x.noSigners();
      counts(x, 0, 0, 0);
    }
  }

  private static void counts(JointSigns x, int... wanted) {
    for (int what = 0; what < wanted.length; what++) {
      Check.due("count(" + what + ")", x.count(what), wanted[what]);
    }
  }

  private static void countSession() {
    JointSigns x = told(2).open();
    Check.due("no SESSION", x.count(3), 0);
    x.session(5);
    Check.due("a SESSION", x.count(3), 1);
    x.session(5);
    Check.due("a SESSION anew", x.count(3), 1);
    x.told(0, 8);
    Check.due("none any more", x.count(3), 0);
    Check.due("none for noSigners", x.noSigners(), 2);
    Check.due("none", x.count(3), 0);
  }

  private static void countEntries() {
    JointSigns x = new Scene(Stage::signed).open();
    for (int n = 0; n < 4; n++) {
      Check.due("entries", x.count(4), n);
      x.entry(2, 5, 3, 1);
    }
    Check.due("four", x.count(4), 4);
    x.entry(2, 5, 3, 1);
    Check.due("still four", x.count(4), 4);
    x.manyHold();
    Check.due("none", x.count(4), 0);
  }

  private static void countWork() {
    JointSigns x = new JointSigns();
    Rows.number(x, 0, 3);
    for (int work = 0; work < 48; work++) {
      Check.due("WORK", x.count(5), work);
      Check.due("key", x.key(1, 0, 0), 32);
    }
    Check.due("all WORK", x.count(5), 48);
    Check.due("SPENT", x.key(1, 0, 0), -5);
    Check.due("no more", x.count(5), 48);
    x.noSigners();
    x.clear(0);
    Check.due("it never goes", x.count(5), 48);
  }
}
