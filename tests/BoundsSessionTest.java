import java.math.BigInteger;
import java.util.ArrayList;
import java.util.Arrays;
import java.util.List;
import java.util.Set;
import java.util.TreeSet;

/** Promises 17 to 20 and the NONCES and SESSIONS of paragraph 3: a test for each sentence that names a boundary. */
public final class BoundsSessionTest {
  private static final int BAD = -1, NO = -2, SPENT = -5;
  private static final int MIN = Integer.MIN_VALUE, MAX = Integer.MAX_VALUE;
  private static final BigInteger ONE = BigInteger.ONE, P = Model.P, LAST = Rows.TOP.subtract(ONE);
  // The points with the greatest x have P - 3; there is one with x 1, none with x 0 or 5.
  private static final BigInteger LAST_X = P.subtract(BigInteger.valueOf(3)), NO_X = BigInteger.valueOf(5);
  private static final int[] NOT_32 = {0, 1, 31, 33, 64, 100};
  private static final long[] SECRETS = {5, -6, 7, 8};

  public static void main(String[] args) {
    nonceOfEachSigner();
    nonceOfNoSigner();
    nonceOfTheFirstAndTheLastSecret();
    nonceOfNoSecret();
    nonceBy32Bytes();
    nonceMessages();
    nonceRows();
    nonceOntoItself();
    nonceOneThatItHadGoes();
    nonceOfAnothersSecret();
    nonceOfTheOtherY();
    nonceSpent();
    nonceRefusesTheFirstOfSeveral();
    toldByEachSigner();
    toldByNoSigner();
    toldSizes();
    toldReadPoints();
    toldEndsTheSession();
    toldRows();
    toldAsTheRowIsNow();
    toldTakesNoWork();
    sessionOfOneToFour();
    sessionMessages();
    sessionNotAllTold();
    sessionNoSigners();
    sessionThatWasGoes();
    sessionRows();
    sessionSpent();
    sessionRefusesTheFirstOfSeveral();
    sessionOfSumsThatAreNought();
    sessionOddAndEven();
    aboutEach();
    aboutNoSession();
    aboutRows();
    aboutTakesNoWork();
    Check.end();
  }

  private static long[] some(int n) {
    return Arrays.copyOf(SECRETS, n);
  }

  private static Scene signers(int n) {
    return new Scene(x -> Stage.signers(x, some(n)));
  }

  /** All have told; row 6 are other 32 bytes. */
  private static Scene told(int n) {
    return signers(n).behind(x -> {
      Stage.tell(x);
      Rows.number(x, 6, 314159);
    });
  }

  private static Scene session(int n) {
    return told(n).behind(x -> x.session(5));
  }

  /** The pieces of a state that go with a SESSION of so many SIGNERS that have their NONCES. */
  private static String[] ofSession(int n, String... first) {
    List<String> pieces = new ArrayList<>(List.of(first));
    pieces.add("about");
    for (int j = 0; j < n; j++) {
      pieces.add("part " + j);
    }
    return pieces.toArray(new String[0]);
  }

  // ---- promise 17: nonce

  private static void nonceOfEachSigner() {
    for (int n = 1; n <= 4; n++) {
      for (int j = 0; j < n; j++) {
        int who = j;
        signers(n).changes("NONCE of " + j + " of " + n, 66, 3 + n, x -> x.nonce(7, who, who, 4, 5), "row 7", "count 1");
      }
    }
  }

  private static void nonceOfNoSigner() {
    for (int n = 0; n <= 4; n++) {
      signers(n).bad("NONCE where are " + n, new int[] {-1, n, n + 1, 4, 5, MIN, MAX}, (x, a) -> x.nonce(7, a[0], 0, 4, 5));
    }
    session(2).bad("NONCE in a SESSION", new int[] {-1, 2, 3, 4, MIN, MAX}, (x, a) -> x.nonce(7, a[0], 0, 4, 5));
  }

  private static void nonceOfTheFirstAndTheLastSecret() {
    long[] secrets = {1, -1, 2, -2};
    for (long secret : secrets) {
      Scene scene = new Scene(x -> Stage.signers(x, secret));
      scene.changes("NONCE of " + secret, 66, 4, x -> x.nonce(7, 0, 0, 4, 5), "row 7", "count 1");
      JointSigns x = new JointSigns();
      Stage.session(x, secret);
      Check.due("part", x.part(7, 0, 0), 32);
      Check.due("it holds", x.partHolds(0, 7), 1);
    }
  }

  private static void nonceOfNoSecret() {
    session(2).noSecrets("NONCE", 1, x -> x.nonce(7, 1, 1, 6, 5));
  }

  private static void nonceBy32Bytes() {
    session(2).sizes("NONCE by z", 6, NOT_32, NO, x -> x.nonce(7, 0, 0, 6, 5));
    String[] some = {Rows.repeat("00", 32), Rows.repeat("ff", 32)};
    for (String z : some) {
      Scene scene = session(2).behind(x -> Rows.fill(x, 6, z));
      scene.changes("NONCE by any 32 bytes", 66, 5, x -> x.nonce(7, 0, 0, 6, 5), "row 7", "part 0");
    }
  }

  private static void nonceMessages() {
    int[] taken = {0, 1, 39, 40};
    for (int size : taken) {
      Pair p = new Pair();
      p.number(0, 5);
      p.key(6, 0, 1);
      p.signer(6);
      for (int i = 0; i < size; i++) {
        p.put(5, 1, i * 37 + 3);
      }
      Check.due("NONCE for " + size + " bytes", p.nonce(7, 0, 0, 0, 5), 66);
      p.row(7);
      Check.due("WORK", p.count(5), 5);
    }
    session(2).sizes("NONCE for a message", 6, new int[] {41, 42, 64, 99, 100}, NO, x -> x.nonce(7, 0, 0, 4, 6));
  }

  private static void nonceRows() {
    session(2).becomes("nonce", 66, new int[] {7, 1, 4, 5}, new int[] {0, 1, 2, 3}, 0,
        (x, a) -> x.nonce(a[0], 1, a[1], a[2], a[3]));
  }

  private static void nonceOntoItself() {
    JointSigns x = signers(1).open();
    x.nonce(7, 0, 0, 4, 5);
    String told = Rows.read(x, 7);
    int[] own = {0, 4, 5};
    for (int to : own) {
      JointSigns y = signers(1).open();
      Check.due("onto row " + to, y.nonce(to, 0, 0, 4, 5), 66);
      Check.due("onto row " + to, Rows.read(y, to), told);
    }
  }

  private static void nonceOneThatItHadGoes() {
    Scene scene = session(2);
    scene.changes("the same one", 66, 5, x -> x.nonce(7, 0, 0, 4, 5), "row 7");
    scene.changes("another one", 66, 5, x -> x.nonce(7, 0, 0, 6, 5), "row 7", "part 0");
    JointSigns x = scene.open();
    x.nonce(7, 0, 0, 6, 5);
    Check.due("NONCES", x.count(1), 2);
    Check.due("that is not what it told", x.part(12, 0, 0), NO);
    x.told(0, 7);
    x.session(5);
    Check.due("the new one, told", x.part(12, 0, 0), 32);
    Check.due("it holds", x.partHolds(0, 12), 1);
    x.told(0, 8);
    x.session(5);
    Check.due("the old one is gone", x.part(12, 0, 0), NO);
  }

  private static void nonceOfAnothersSecret() {
    session(2).still("SIGNER 0 by the SECRET of 1", NO, 1, x -> x.nonce(7, 0, 1, 6, 5));
    session(2).still("SIGNER 1 by the SECRET of 0", NO, 1, x -> x.nonce(7, 1, 0, 6, 5));
    signers(4).still("no NONCE comes", NO, 1, x -> x.nonce(7, 3, 2, 4, 5));
    Scene stranger = session(2).behind(x -> Rows.number(x, 6, 9));
    stranger.still("a stranger's SECRET", NO, 1, x -> x.nonce(7, 0, 6, 6, 5));
  }

  private static void nonceOfTheOtherY() {
    for (int j = 0; j < 2; j++) {
      int who = j;
      Scene scene = session(2).behind(x -> Rows.number(x, 6, Stage.secret(-SECRETS[who])));
      scene.still("N less the SECRET", NO, 1, x -> x.nonce(7, who, 6, 6, 5));
    }
  }

  private static void nonceSpent() {
    for (int n = 1; n <= 4; n++) {
      signers(n).spends("NONCE of one of " + n, 3 + n, 66, x -> x.nonce(7, 0, 0, 4, 5));
      int others = n == 1 ? 4 : 1;
      int left = Scene.MOST_WORK - 3 - n;
      signers(n).after(left).still("another's SECRET, the last WORK", NO, 1, x -> x.nonce(7, 0, others, 4, 5));
      signers(n).after(left + 1).still("another's SECRET, SPENT", SPENT, x -> x.nonce(7, 0, others, 4, 5));
    }
    session(2).spends("NONCE in a SESSION", 5, 66, x -> x.nonce(7, 0, 0, 6, 5));
  }

  private static void nonceRefusesTheFirstOfSeveral() {
    session(2).still("no SIGNER, no SECRET", BAD, x -> x.nonce(7, 2, 5, 5, 5));
    session(2).still("no row, no SECRET", BAD, x -> x.nonce(7, 0, 5, 5, 16));
    session(2).still("z of 8 bytes, another's SECRET", NO, x -> x.nonce(7, 0, 1, 5, 5));
    session(2).still("message of 66 bytes, another's SECRET", NO, x -> x.nonce(7, 0, 1, 4, 8));
    Scene spent = session(2).spent();
    spent.still("no SECRET, SPENT", NO, x -> x.nonce(7, 0, 5, 4, 5));
    spent.still("z of 8 bytes, SPENT", NO, x -> x.nonce(7, 0, 0, 5, 5));
    spent.still("message of 66 bytes, SPENT", NO, x -> x.nonce(7, 0, 0, 4, 8));
    spent.still("no SIGNER, SPENT", BAD, x -> x.nonce(7, 2, 0, 4, 5));
  }

  // ---- promise 18: told

  private static void toldByEachSigner() {
    for (int n = 1; n <= 4; n++) {
      for (int j = 0; j < n; j++) {
        int who = j;
        Scene scene = signers(n).behind(x -> Rows.fill(x, 7, Stage.point(11) + Stage.point(-12)));
        String[] pieces = n == 1 ? new String[] {"count 2", "session"} : new String[] {"count 2"};
        scene.changes("told by " + j + " of " + n, 1, 0, x -> x.told(who, 7), pieces);
        Scene again = scene.behind(x -> x.told(who, 7));
        again.still("told again by " + j + " of " + n, 1, x -> x.told(who, 7));
      }
    }
  }

  private static void toldByNoSigner() {
    for (int n = 0; n <= 4; n++) {
      Scene scene = signers(n).behind(x -> Rows.fill(x, 7, Stage.point(11) + Stage.point(-12)));
      scene.bad("told where are " + n, new int[] {-1, n, n + 1, 4, 5, MIN, MAX}, (x, a) -> x.told(a[0], 7));
    }
    session(2).bad("told in a SESSION", new int[] {-1, 2, 3, 4, MIN, MAX}, (x, a) -> x.told(a[0], 8));
  }

  private static void toldSizes() {
    int[] sizes = {0, 1, 32, 33, 64, 65, 67, 99, 100};
    session(2).sizes("told", 7, sizes, NO, x -> x.told(0, 7));
    Scene shorter = session(2).behind(x -> Rows.fill(x, 7, (Stage.point(11) + Stage.point(12)).substring(0, 130)));
    shorter.still("two points less a byte", NO, x -> x.told(0, 7));
    Scene longer = session(2).behind(x -> Rows.fill(x, 7, Stage.point(11) + Stage.point(12) + "00"));
    longer.still("two points and a byte", NO, x -> x.told(0, 7));
    session(2).behind(x -> Rows.fill(x, 7, Stage.point(11))).still("one point", NO, x -> x.told(0, 7));
    String three = Stage.point(11) + Stage.point(12) + Stage.point(13);
    session(2).behind(x -> Rows.fill(x, 7, three)).still("three points", NO, x -> x.told(0, 7));
  }

  private static void toldReadPoints() {
    String good = Stage.point(11);
    String[] read = {"02" + Rows.number(1), "03" + Rows.number(1), "02" + Rows.number(LAST_X), "03" + Rows.number(LAST_X)};
    for (String half : read) {
      toldPoints(half + good, 1);
      toldPoints(good + half, 1);
      toldPoints(half + half, 1);
    }
    BigInteger[] none = {BigInteger.ZERO, NO_X, LAST_X.add(ONE), P.subtract(ONE), P, P.add(ONE), LAST};
    for (BigInteger x : none) {
      toldPoints("02" + Rows.number(x) + good, NO);
      toldPoints(good + "03" + Rows.number(x), NO);
    }
    String[] firsts = {"00", "01", "04", "05", "7f", "82", "83", "ff"};
    for (String first : firsts) {
      toldPoints(first + good.substring(2) + good, NO);
      toldPoints(good + first + good.substring(2), NO);
    }
    String nought = Rows.repeat("00", 33);
    toldPoints(nought + good, NO);
    toldPoints(good + nought, NO);
    toldPoints(nought + nought, NO);
  }

  private static void toldPoints(String both, int want) {
    Scene scene = session(1).behind(x -> Rows.fill(x, 7, both));
    if (want == 1) {
      scene.changes("told " + both, 1, 0, x -> x.told(0, 7), ofToldAnew(1));
    } else {
      scene.still("told " + both, want, x -> x.told(0, 7));
    }
  }

  /** A SESSION goes, and another would be by what is told now. */
  private static String[] ofToldAnew(int n) {
    List<String> pieces = new ArrayList<>(List.of(ofSession(n, "count 3")));
    pieces.add("session");
    return pieces.toArray(new String[0]);
  }

  private static void toldEndsTheSession() {
    for (int n = 1; n <= 4; n++) {
      for (int j = 0; j < n; j++) {
        int who = j;
        session(n).changes("the same told again", 1, 0, x -> x.told(who, 8 + who), ofSession(n, "count 3"));
        Scene another = session(n).behind(x -> Rows.fill(x, 7, Stage.point(11) + Stage.point(-12)));
        another.changes("another told", 1, 0, x -> x.told(who, 7), ofToldAnew(n));
      }
    }
  }

  private static void toldRows() {
    session(2).rows("told", 1, new int[] {8}, new int[] {0}, -1, (x, a) -> x.told(1, a[0]));
  }

  private static void toldAsTheRowIsNow() {
    told(2).changes("the row goes, not what was told", 66, 0, x -> x.clear(8), "row 8");
  }

  private static void toldTakesNoWork() {
    JointSigns x = session(2).spent().open();
    Check.due("with no WORK left", x.told(0, 8), 1);
    Check.due("no SESSION", x.count(3), 0);
    Check.due("not READ, with no WORK left", x.told(0, 4), NO);
  }

  // ---- promise 19: session

  private static void sessionOfOneToFour() {
    for (int n = 1; n <= 4; n++) {
      told(n).changes("a SESSION of " + n, 1, 1 + n, x -> x.session(5), ofSession(n, "count 3"));
    }
  }

  private static void sessionMessages() {
    int[] taken = {0, 1, 39, 40};
    for (int size : taken) {
      Scene scene = session(2).behind(x -> Rows.size(x, 6, size));
      scene.changes("SESSION for " + size + " bytes", 1, 3, x -> x.session(6), ofSession(2));
    }
    session(2).sizes("SESSION for a message", 6, new int[] {41, 42, 64, 99, 100}, NO, x -> x.session(6));
    told(2).sizes("SESSION for a message", 6, new int[] {41, 42, 64, 99, 100}, NO, x -> x.session(6));
  }

  private static void sessionNotAllTold() {
    for (int n = 1; n <= 4; n++) {
      signers(n).still("none of " + n + " told", NO, x -> x.session(5));
      for (int j = 0; j < n; j++) {
        int not = j;
        Scene scene = signers(n).behind(x -> {
          Rows.fill(x, 7, Stage.point(11) + Stage.point(-12));
          for (int i = 0; i < x.count(0); i++) {
            if (i != not) {
              x.told(i, 7);
            }
          }
        });
        scene.still("all but " + j + " of " + n + " told", NO, x -> x.session(5));
        Check.due("all told", scene.behind(x -> x.told(not, 7)).open().session(5), 1);
      }
    }
    signers(2).behind(x -> x.nonce(8, 0, 0, 4, 5)).still("had, but not told", NO, x -> x.session(5));
  }

  private static void sessionNoSigners() {
    signers(0).still("no SIGNERS", NO, x -> x.session(5));
    session(2).behind(JointSigns::noSigners).still("none any more", NO, x -> x.session(5));
  }

  private static void sessionThatWasGoes() {
    Scene scene = session(2).behind(x -> x.copy(6, 5, 5));
    scene.still("the same SESSION", 1, 3, x -> x.session(5));
    scene.changes("another SESSION", 1, 3, x -> x.session(6), ofSession(2));
    scene.still("too long a message: the SESSION stays", NO, x -> x.session(8));
    scene.still("no row: the SESSION stays", BAD, x -> x.session(16));
    scene.spends("SPENT: the SESSION stays", 3, 1, x -> x.session(6));
  }

  private static void sessionRows() {
    told(2).rows("session", 1, new int[] {5}, new int[] {0}, -1, (x, a) -> x.session(a[0]));
  }

  private static void sessionSpent() {
    for (int n = 1; n <= 4; n++) {
      told(n).spends("a SESSION of " + n, 1 + n, 1, x -> x.session(5));
    }
  }

  private static void sessionRefusesTheFirstOfSeveral() {
    signers(0).still("no row, no SIGNERS", BAD, x -> x.session(16));
    told(2).spent().still("message of 66 bytes, SPENT", NO, x -> x.session(8));
    signers(2).spent().still("not told, SPENT", NO, x -> x.session(5));
    signers(0).spent().still("no SIGNERS, SPENT", NO, x -> x.session(5));
    told(2).spent().still("no row, SPENT", BAD, x -> x.session(-1));
  }

  /** The first sum, the second, and both: then R is G. */
  private static void sessionOfSumsThatAreNought() {
    String nought = Rows.repeat("00", 33);
    String[] sums = sumsAndR(-11, 13);
    Check.due("the first sum", sums[0].substring(0, 66), nought);
    Check.due("R is a multiple of the second", sums[1].equals(Rows.number(Model.G.x())) ? 1 : 0, 0);
    sums = sumsAndR(13, -12);
    Check.due("the second sum", sums[0].substring(66), nought);
    Check.due("R is the first", sums[1], sums[0].substring(2, 66));
    sums = sumsAndR(-11, -12);
    Check.due("both sums", sums[0], nought + nought);
    Check.due("R is G", sums[1], Rows.number(Model.G.x()));
    partsOfNought();
  }

  /** SIGNER 0 tells the points of 11 and 12, SIGNER 1 those of two others. */
  private static Scene nought(long first, long second) {
    return signers(2).behind(x -> {
      Rows.fill(x, 8, Stage.point(11) + Stage.point(12));
      Rows.fill(x, 9, Stage.point(first) + Stage.point(second));
      x.told(0, 8);
      x.told(1, 9);
      x.session(5);
    });
  }

  private static String[] sumsAndR(long first, long second) {
    JointSigns x = nought(first, second).open();
    Check.due("SESSION", x.count(3), 1);
    Check.due("THE SUM OF NONCES", x.about(6, 0), 66);
    Check.due("x of R", x.about(7, 1), 32);
    return new String[] {Rows.read(x, 6), Rows.read(x, 7)};
  }

  /** Where R is G: b, e and the part of THE SECOND (SIGNER 1, WEIGHT 1), by either sign of Q. */
  private static void partsOfNought() {
    JointSigns x = nought(-11, -12).open();
    x.about(6, 2);
    x.about(7, 3);
    x.jointKey(13);
    byte[] key = Model.bytes32(new BigInteger(Rows.read(x, 13), 16));
    byte[] m = {1, 2, 3, 4, 5, 6, 7, 8};
    BigInteger b = Model.numberBy(7, new byte[66], key, m);
    BigInteger e = Model.numberBy(2, Model.bytes32(Model.G.x()), key, m);
    Check.due("b", Rows.read(x, 7), Rows.number(b));
    Check.due("e", Rows.read(x, 6), Rows.number(e));
    BigInteger nonces = BigInteger.valueOf(-11).add(b.multiply(BigInteger.valueOf(-12)));
    BigInteger own = e.multiply(Stage.secret(SECRETS[1]));
    Rows.number(x, 14, nonces.add(own).mod(Model.N));
    Rows.number(x, 15, nonces.subtract(own).mod(Model.N));
    Check.due("one of two parts holds", x.partHolds(1, 14) + x.partHolds(1, 15), 1);
  }

  /** R and Q with an even y and with an odd one: all four ways come about, and parts hold in each. */
  private static void sessionOddAndEven() {
    Set<String> ways = new TreeSet<>();
    for (int i = 1; i <= 16; i++) {
      Pair p = new Pair();
      p.number(0, i);
      p.key(6, 0, 1);
      p.signer(6);
      p.nonce(8, 0, 0, 0, 5);
      p.told(0, 8);
      Check.due("SESSION", p.session(5), 1);
      Check.due("part", p.part(12, 0, 0), 32);
      p.row(12);
      Check.due("it holds", p.partHolds(0, 12), 1);
      p.together(7, 12);
      p.jointKey(6);
      Check.due("all hold", p.holds(6, 5, 7), 1);
      ways.add(p.model.session.r.even() + " " + p.model.session.q.even());
    }
    Check.due("ways", ways.toString(), "[false false, false true, true false, true true]");
  }

  // ---- promise 20: about

  private static void aboutEach() {
    int[] sizes = {66, 32, 32, 32};
    for (int n = 1; n <= 4; n++) {
      for (int what = 0; what < 4; what++) {
        int asked = what;
        session(n).changes("about " + what, sizes[what], 0, x -> x.about(7, asked), "row 7");
      }
    }
    session(2).bad("about", new int[] {-1, 4, -2, 5, MIN, MAX}, (x, a) -> x.about(7, a[0]));
  }

  private static void aboutNoSession() {
    for (int what = 0; what < 4; what++) {
      int asked = what;
      told(2).still("no SESSION", NO, x -> x.about(7, asked));
      session(2).behind(x -> x.told(0, 8)).still("none any more", NO, x -> x.about(7, asked));
    }
    told(2).bad("about no SESSION", new int[] {-1, 4}, (x, a) -> x.about(7, a[0]));
    told(2).still("no row, no SESSION", BAD, x -> x.about(16, 0));
  }

  private static void aboutRows() {
    int[] sizes = {66, 32, 32, 32};
    for (int what = 0; what < 4; what++) {
      int asked = what;
      session(2).becomes("about", sizes[what], new int[] {7}, new int[] {0}, 0, (x, a) -> x.about(a[0], asked));
    }
  }

  private static void aboutTakesNoWork() {
    Scene spent = session(2).spent();
    for (int what = 0; what < 4; what++) {
      int asked = what;
      spent.changes("with no WORK left", what == 0 ? 66 : 32, 0, x -> x.about(7, asked), "row 7");
    }
  }
}
