import java.math.BigInteger;
import java.util.function.Consumer;
import java.util.function.ToIntFunction;

/** Tests of a copy of the class whose digests are all one that is told here, the model's too. */
public final class ForcedDigest {
  private static final int NO = -2, SPENT = -5;
  private static final BigInteger ONE = BigInteger.ONE, N = Model.N, LAST = Rows.TOP.subtract(ONE);
  // 0 modulo N, 1 modulo N, and others.
  private static final BigInteger[] ZEROS = {BigInteger.ZERO, N}, ONES = {ONE, N.add(ONE)};
  private static final BigInteger[] ALL = {BigInteger.ZERO, ONE, BigInteger.TWO, N.subtract(ONE), N, N.add(ONE), LAST};
  private static final long[][] GROUPS = {{5}, {-5}, {5, 6}, {5, 5}, {5, -5}, {-5, 5}, {5, 6, 5}, {5, 5, -5}, {5, 6, 7, 8}};

  private ForcedDigest() {
  }

  public static void main(String[] args) {
    digestsAreForced();
    signatureThatCanNotBe();
    signaturesAndTheModel();
    manyThatAreNought();
    noJointKeyWhereAllWeightsAre0();
    noJointKeyOfOppositePoints();
    jointKeysAndTheModel();
    nonceThatCanNotBe();
    nonceOfOneHalfThatCanNotBe();
    sessionStaysWhereNoJointKeyIs();
    sessionsWhereRIsNought();
    sessionsAndTheModel();
    unforce();
    Check.end();
  }

  private static void force(BigInteger digest) {
    Model.forced = Model.bytes32(digest);
    for (int i = 0; i < 8; i++) {
      System.setProperty("digest" + i, "" + digest.shiftRight(224 - 32 * i).intValue());
    }
  }

  private static void unforce() {
    Model.forced = null;
    for (int i = 0; i < 8; i++) {
      System.clearProperty("digest" + i);
    }
  }

  private static void digestsAreForced() {
    for (BigInteger digest : ALL) {
      force(digest);
      JointSigns x = new JointSigns();
      Check.due("hash", x.hash(7, 3, 6), 32);
      Check.due("digest", Rows.read(x, 7), Rows.number(digest));
    }
  }

  // ---- one

  /** Rows 0 a SECRET, 4 32 bytes, 5 a message, 6 and 7 some bytes. */
  private static Scene secret(long secret) {
    return new Scene(x -> {
      Rows.number(x, 0, Stage.secret(secret));
      Rows.number(x, 4, 9);
      Rows.size(x, 5, 12);
      Rows.size(x, 7, 3);
    });
  }

  private static void signatureThatCanNotBe() {
    long[] secrets = {1, -1, 5, -6, 6};
    for (BigInteger digest : ZEROS) {
      force(digest);
      for (long secret : secrets) {
        Scene scene = secret(secret);
        scene.still("it can not be", NO, 2, x -> x.sign(7, 0, 5, 4));
        scene.still("it can not be, onto the SECRET", NO, 2, x -> x.sign(0, 0, 5, 4));
        scene.spends("it can not be", 2, NO, x -> x.sign(7, 0, 5, 4));
        scene.still("a is not 32 bytes", NO, x -> x.sign(7, 0, 5, 5));
        scene.still("no row", -1, x -> x.sign(16, 0, 5, 4));
      }
    }
  }

  private static void signaturesAndTheModel() {
    long[] secrets = {1, -1, 5, -6};
    for (BigInteger digest : ALL) {
      force(digest);
      for (long secret : secrets) {
        Pair p = new Pair();
        p.number(0, Stage.secret(secret));
        p.sign(7, 0, 5, 0);
        p.row(7);
        p.key(6, 0, 0);
        p.holds(6, 5, 7);
        p.entry(6, 5, 7, 1);
        p.entry(6, 5, 7, 3);
        p.manyHold();
        p.counts();
      }
    }
  }

  /** R is C, and e C is C or less C: with s 0 both sides are NOUGHT, or the right one is twice C. */
  private static void manyThatAreNought() {
    Pair p = new Pair();
    p.number(2, Model.G.times(BigInteger.TWO).x());
    p.number(6, 0);
    p.copy(3, 2, 6);
    force(ONE);
    p.entry(2, 5, 3, 1);
    Check.due("twice C", p.manyHold(), 0);
    Check.due("less C", p.holds(2, 5, 3), 0);
    force(N.subtract(ONE));
    p.entry(2, 5, 3, 1);
    Check.due("NOUGHT", p.manyHold(), 1);
    p.entry(2, 5, 3, 1);
    p.entry(2, 5, 3, 1L << 62);
    Check.due("NOUGHT twice", p.manyHold(), 1);
    Check.due("C", p.holds(2, 5, 3), 1);
    p.counts();
  }

  // ---- several

  private static Scene signers(long... secrets) {
    return new Scene(x -> {
      Stage.signers(x, secrets);
      Rows.fill(x, 7, Stage.point(11) + Stage.point(-12));
      for (int j = 0; j < secrets.length; j++) {
        x.told(j, 7);
      }
    });
  }

  private static void noJointKeyWhereAllWeightsAre0() {
    for (BigInteger digest : ZEROS) {
      force(digest);
      noJointKey(5);
      noJointKey(-5);
      noJointKey(5, 5);
      noJointKey(-5, -5, -5, -5);
    }
  }

  private static void noJointKeyOfOppositePoints() {
    for (BigInteger digest : ONES) {
      force(digest);
      noJointKey(5, -5);
      noJointKey(-5, 5);
      noJointKey(5, 5, -5, -5);
    }
  }

  private static void noJointKey(long... secrets) {
    int n = secrets.length;
    Scene scene = signers(secrets);
    scene.still("no JOINT KEY", NO, n, x -> x.jointKey(7));
    scene.spends("no JOINT KEY", n, NO, x -> x.jointKey(7));
    scene.still("no JOINT KEY for a NONCE", NO, 1 + n, x -> x.nonce(7, 0, 0, 4, 5));
    last("for a NONCE", scene.after(45 - n).open(), 1 + n, x -> x.nonce(7, 0, 0, 4, 5));
    scene.after(46 - n).still("no JOINT KEY, SPENT", SPENT, x -> x.nonce(7, 0, 0, 4, 5));
    scene.still("no JOINT KEY for a SESSION", NO, n, x -> x.session(5));
    last("for a SESSION", scene.after(47 - n).open(), n, x -> x.session(5));
    scene.after(48 - n).still("no JOINT KEY, SPENT", SPENT, x -> x.session(5));
  }

  /** With just the WORK left that would be told, less of it is taken. */
  private static void last(String what, JointSigns x, int work, ToIntFunction<JointSigns> call) {
    int had = x.count(5);
    Check.due("no JOINT KEY " + what + ", the last WORK", call.applyAsInt(x), NO);
    Check.due("WORK " + what, x.count(5) - had, work);
  }

  private static void jointKeysAndTheModel() {
    for (BigInteger digest : ALL) {
      force(digest);
      for (long[] secrets : GROUPS) {
        Pair p = group(secrets);
        p.jointKey(7);
        p.row(7);
        p.counts();
      }
    }
  }

  private static Pair group(long... secrets) {
    Pair p = new Pair();
    p.number(4, 271828);
    for (int j = 0; j < secrets.length; j++) {
      p.number(j, Stage.secret(secrets[j]));
      p.key(6, j, 1);
      p.signer(6);
    }
    return p;
  }

  private static void nonceThatCanNotBe() {
    for (BigInteger digest : ZEROS) {
      force(digest);
      long[][] groups = {{5, 6}, {5, -5}, {5, 5, 6}, {5, 6, 7, 8}};
      for (long[] secrets : groups) {
        int work = 3 + secrets.length;
        Scene scene = signers(secrets);
        scene.still("it can not be", NO, work, x -> x.nonce(7, 1, 1, 4, 5));
        scene.spends("it can not be", work, NO, x -> x.nonce(7, 1, 1, 4, 5));
        scene.still("another's SECRET", NO, 1, x -> x.nonce(7, 1, 4, 4, 5));
        scene.still("z is not 32 bytes", NO, x -> x.nonce(7, 1, 1, 5, 5));
      }
    }
  }

  /** With all other digests as they are: the NONCE that was and the SESSION stay. */
  private static void nonceOfOneHalfThatCanNotBe() {
    unforce();
    Scene scene = new Scene(x -> Stage.session(x, 5, -6)).behind(x -> Rows.number(x, 6, 314159));
    scene.changes("it can be", 66, 5, x -> x.nonce(7, 1, 1, 6, 5), "row 7", "part 1");
    for (int half = 0; half < 2; half++) {
      String zero = "" + half;
      ToIntFunction<JointSigns> call = x -> {
        System.setProperty("zero", zero);
        int answer = x.nonce(7, 1, 1, 6, 5);
        System.clearProperty("zero");
        return answer;
      };
      scene.still("half " + half + " can not be", NO, 5, call);
      scene.spends("half " + half + " can not be", 5, NO, call);
    }
  }

  /** The SESSION that was is opened by other digests, by which there is a JOINT KEY. */
  private static void sessionStaysWhereNoJointKeyIs() {
    force(BigInteger.TWO);
    JointSigns x = signers(5, 5).behind(y -> y.session(5)).open();
    Check.due("a SESSION", x.count(3), 1);
    String was = State.about(x);
    for (BigInteger digest : ZEROS) {
      force(digest);
      last("for another SESSION", x, 2, y -> y.session(4));
      Check.due("the SESSION stays", x.count(3), 1);
      Check.due("what is told of it", State.about(x), was);
    }
  }

  /** b is 0, 1 or N - 1, and makes R NOUGHT of sums that are not. */
  private static void sessionsWhereRIsNought() {
    rIsNought(BigInteger.ZERO, x -> tellTwo(x, 11, 12, -11, 13));
    rIsNought(N, x -> tellTwo(x, 11, 12, -11, 13));
    rIsNought(N.add(ONE), x -> tellTwo(x, 11, -12, 7, -6));
    rIsNought(N.subtract(ONE), x -> tellTwo(x, 11, 12, 7, 6));
  }

  private static void tellTwo(Pair p, long... numbers) {
    for (int j = 0; j < 2; j++) {
      p.number(8, Stage.secret(numbers[2 * j]));
      p.number(9, Stage.secret(numbers[2 * j + 1]));
      p.key(8, 8, 1);
      p.key(9, 9, 1);
      p.copy(8, 8, 9);
      p.told(j, 8);
    }
  }

  private static void rIsNought(BigInteger digest, Consumer<Pair> telling) {
    force(digest);
    Pair p = group(5, 6);
    telling.accept(p);
    Check.due("SESSION", p.session(5), 1);
    p.about(7, 0);
    p.row(7);
    Check.due("x of R", p.about(7, 1), 32);
    p.number(8, Model.G.x());
    Check.due("R is G", p.same(7, 8), 1);
    p.counts();
  }

  private static void sessionsAndTheModel() {
    for (BigInteger digest : ALL) {
      force(digest);
      for (long[] secrets : GROUPS) {
        Pair p = group(secrets);
        for (int j = 0; j < secrets.length; j++) {
          p.nonce(8 + j, j, j, 4, 5);
          p.glance(8 + j);
          p.told(j, 8 + j);
        }
        p.session(5);
        for (int what = 0; what < 4; what++) {
          p.about(7, what);
          p.glance(7);
        }
        for (int j = 0; j < secrets.length; j++) {
          p.part(12 + j, j, j);
          p.glance(12 + j);
        }
        p.partHolds(0, 12);
        p.together(7, 12);
        p.glance(7);
        p.counts();
      }
    }
  }
}
