import java.math.BigInteger;
import java.util.Set;
import java.util.TreeSet;
import java.util.function.Consumer;
import java.util.function.ToIntFunction;

/** Promises 9 to 13 and paragraph 2: a test of its own for each sentence that names a boundary. */
public final class BoundsOneTest {
  private static final int BAD = -1, NO = -2, FULL = -3;
  private static final int MIN = Integer.MIN_VALUE, MAX = Integer.MAX_VALUE;
  private static final long MOST = 1L << 62;
  private static final BigInteger ONE = BigInteger.ONE, LAST = Rows.TOP.subtract(ONE);
  private static final BigInteger N = Model.N, P = Model.P, LAST_SECRET = N.subtract(ONE);
  // The points with the greatest x have P - 3; there is one with x 1, none with x 0 or 5.
  private static final BigInteger LAST_X = P.subtract(BigInteger.valueOf(3)), NO_X = BigInteger.valueOf(5);
  private static final int[] NOT_32 = {0, 1, 31, 33, 64, 100};
  private static final int[] NOT_64 = {0, 32, 63, 65, 100};

  // Rows 0, 1 the SECRET, 2 the KEY, 3 THE SIGNATURE, 4 32 bytes, 5 a message of 40.
  private static final Scene SIGNED = new Scene(Stage::signed).behind(x -> x.copy(1, 0, -1));
  private static final String[] ENTRIES = {"count 4", "manyHold"};

  public static void main(String[] args) {
    keyForms();
    keyOfTheFirstAndTheLastSecret();
    keyOfNoSecret();
    keyWithZerosAhead();
    keyRows();
    keyOntoItself();
    keySpent();
    keyRefusesTheFirstOfSeveral();
    signByTheFirstAndTheLastSecret();
    signByNoSecret();
    signBy32Bytes();
    signMessages();
    signOddAndEven();
    signRows();
    signOntoItself();
    signSpent();
    signRefusesTheFirstOfSeveral();
    holdsSizes();
    holdsMessages();
    holdsKeyIsLifted();
    holdsRBelowP();
    holdsSBelowN();
    holdsEvenPoint();
    holdsRows();
    holdsSpent();
    holdsAmissAheadOfSpent();
    entryFactors();
    entrySizes();
    entryMessages();
    entryFull();
    entryRefusesTheFirstOfSeveral();
    entryAsRowsAreNow();
    entryOfAnything();
    entryRows();
    entryTakesNoWork();
    manyHoldNone();
    manyHoldOneToFour();
    manyHoldOneBent();
    manyHoldAmiss();
    manyHoldBounds();
    manyHoldAfterMore();
    manyHoldSpent();
    manyHoldAmissAheadOfSpent();
    Check.end();
  }

  // ---- promise 9: key

  private static void keyForms() {
    SIGNED.changes("KEY", 32, 1, x -> x.key(7, 0, 0), "row 7");
    SIGNED.changes("point", 33, 1, x -> x.key(7, 0, 1), "row 7");
    SIGNED.bad("form", new int[] {-1, 2, -2, 3, 32, 33, MIN, MAX}, (x, a) -> x.key(7, 0, a[0]));
  }

  private static void keyOfTheFirstAndTheLastSecret() {
    Scene first = SIGNED.behind(x -> Rows.number(x, 0, 1));
    Scene last = SIGNED.behind(x -> Rows.number(x, 0, LAST_SECRET));
    first.changes("KEY of 1", 32, 1, x -> x.key(7, 0, 0), "row 7");
    last.changes("KEY of N - 1", 32, 1, x -> x.key(7, 0, 0), "row 7");
    String x = Rows.number(Model.G.x());
    Check.due("KEY of 1", made(first, y -> y.key(7, 0, 0)), x);
    Check.due("point of 1", made(first, y -> y.key(7, 0, 1)), "02" + x);
    Check.due("KEY of N - 1", made(last, y -> y.key(7, 0, 0)), x);
    Check.due("point of N - 1", made(last, y -> y.key(7, 0, 1)), "03" + x);
  }

  /** Row 7 behind a call. */
  private static String made(Scene scene, ToIntFunction<JointSigns> call) {
    JointSigns x = scene.open();
    call.applyAsInt(x);
    return Rows.read(x, 7);
  }

  private static void keyOfNoSecret() {
    SIGNED.noSecrets("KEY", 0, x -> x.key(7, 0, 0));
    SIGNED.noSecrets("point", 0, x -> x.key(7, 0, 1));
  }

  /** 32 BYTES of a small NUMBER begin with zeros. */
  private static void keyWithZerosAhead() {
    Model.Dot dot = Model.G;
    int d = 1;
    while (dot.x().bitLength() > 248) {
      dot = dot.plus(Model.G);
      d++;
    }
    int secret = d;
    Scene scene = new Scene(x -> Rows.number(x, 0, secret));
    scene.changes("KEY with a zero ahead", 32, 1, x -> x.key(7, 0, 0), "row 7");
    Check.due("32 BYTES", made(scene, x -> x.key(7, 0, 0)), Rows.number(dot.x()));
    Check.due("33 BYTES", made(scene, x -> x.key(7, 0, 1)), (dot.even() ? "02" : "03") + Rows.number(dot.x()));
  }

  private static void keyRows() {
    SIGNED.becomes("key", 33, new int[] {7, 1}, new int[] {0, 1}, 0, (x, a) -> x.key(a[0], a[1], 1));
  }

  private static void keyOntoItself() {
    String key = made(SIGNED, x -> x.key(7, 0, 1));
    Check.due("the same", made(SIGNED, x -> x.copy(7, 0, -1) + x.key(7, 7, 1)), key);
    SIGNED.changes("onto the secret", 33, 1, x -> x.key(0, 0, 1), "row 0");
  }

  private static void keySpent() {
    SIGNED.spends("key", 1, 32, x -> x.key(7, 0, 0));
    SIGNED.spends("point", 1, 33, x -> x.key(7, 0, 1));
  }

  private static void keyRefusesTheFirstOfSeveral() {
    SIGNED.still("no form, no SECRET", BAD, x -> x.key(7, 5, 2));
    Scene spent = SIGNED.spent();
    spent.still("no SECRET, SPENT", NO, x -> x.key(7, 5, 0));
    spent.still("no form, SPENT", BAD, x -> x.key(7, 0, 2));
    spent.still("no row, SPENT", BAD, x -> x.key(16, 0, 0));
  }

  // ---- promise 10: sign

  private static void signByTheFirstAndTheLastSecret() {
    BigInteger[] secrets = {ONE, BigInteger.TWO, LAST_SECRET, LAST_SECRET.subtract(ONE)};
    for (BigInteger secret : secrets) {
      Scene scene = SIGNED.behind(x -> Rows.number(x, 0, secret));
      scene.changes("sign by " + secret.toString(16), 64, 2, x -> x.sign(7, 0, 5, 4), "row 7");
      JointSigns x = scene.open();
      x.sign(7, 0, 5, 4);
      x.key(6, 0, 0);
      Check.due("it holds", x.holds(6, 5, 7), 1);
    }
  }

  private static void signByNoSecret() {
    SIGNED.noSecrets("sign", 0, x -> x.sign(7, 0, 5, 4));
  }

  private static void signBy32Bytes() {
    SIGNED.sizes("sign by a", 4, NOT_32, NO, x -> x.sign(7, 0, 5, 4));
    String[] some = {Rows.repeat("00", 32), Rows.repeat("ff", 32)};
    for (String a : some) {
      Scene scene = SIGNED.behind(x -> Rows.fill(x, 4, a));
      scene.changes("sign by any 32 bytes", 64, 2, x -> x.sign(7, 0, 5, 4), "row 7");
    }
  }

  private static void signMessages() {
    int[] sizes = {0, 1, 40, 41, 63, 64, 99, 100};
    for (int size : sizes) {
      Pair p = new Pair();
      p.number(0, 77);
      for (int i = 0; i < size; i++) {
        p.put(5, 1, i * 37 + 3);
      }
      Check.due("sign " + size + " bytes", p.sign(7, 0, 5, 0), 64);
      p.row(7);
      p.key(6, 0, 0);
      Check.due("it holds", p.holds(6, 5, 7), 1);
    }
  }

  /** d and k are turned, each if its point has an odd y: all four ways come about. */
  private static void signOddAndEven() {
    Set<String> ways = new TreeSet<>();
    for (int i = 1; i <= 16; i++) {
      Pair p = new Pair();
      p.number(0, i);
      p.number(4, i);
      Check.due("sign", p.sign(7, 0, 5, 4), 64);
      p.row(7);
      ways.add(way(BigInteger.valueOf(i)));
    }
    Check.due("ways", ways.toString(), "[false false, false true, true false, true true]");
  }

  /** Whether the points of d and of k', for no message and d as the 32 bytes, have an even y. */
  private static String way(BigInteger d) {
    Model.Dot own = Model.G.times(d);
    byte[] turned = Model.bytes32(own.even() ? d : N.subtract(d));
    byte[] t = Model.turned(turned, Model.digestBy(0, Model.bytes32(d)));
    return own.even() + " " + Model.G.times(Model.numberBy(1, t, Model.bytes32(own.x()))).even();
  }

  private static void signRows() {
    SIGNED.becomes("sign", 64, new int[] {7, 1, 5, 4}, new int[] {0, 1, 2, 3}, 0,
        (x, a) -> x.sign(a[0], a[1], a[2], a[3]));
  }

  private static void signOntoItself() {
    String signature = made(SIGNED, x -> x.sign(7, 0, 5, 4));
    int[] own = {0, 5, 4};
    for (int to : own) {
      SIGNED.changes("onto row " + to, 64, 2, x -> x.sign(to, 0, 5, 4), "row " + to);
      Check.due("the same", made(SIGNED, x -> x.sign(to, 0, 5, 4) + x.copy(7, to, -1)), signature);
    }
  }

  private static void signSpent() {
    SIGNED.spends("sign", 2, 64, x -> x.sign(7, 0, 5, 4));
  }

  private static void signRefusesTheFirstOfSeveral() {
    SIGNED.still("no row, no SECRET", BAD, x -> x.sign(16, 5, 5, 5));
    Scene spent = SIGNED.spent();
    spent.still("no SECRET, SPENT", NO, x -> x.sign(7, 5, 5, 4));
    spent.still("a is not 32 bytes, SPENT", NO, x -> x.sign(7, 0, 5, 5));
    spent.still("no row, SPENT", BAD, x -> x.sign(7, 0, 16, 4));
  }

  // ---- promise 11: holds

  private static void holdsSizes() {
    SIGNED.still("it holds", 1, 2, x -> x.holds(2, 5, 3));
    SIGNED.sizes("KEY", 2, NOT_32, 0, x -> x.holds(2, 5, 3));
    SIGNED.sizes("SIGNATURE", 3, NOT_64, 0, x -> x.holds(2, 5, 3));
    SIGNED.behind(x -> x.put(2, 1, 0)).still("a byte behind the KEY", 0, x -> x.holds(2, 5, 3));
    SIGNED.behind(x -> x.put(3, 1, 0)).still("a byte behind the SIGNATURE", 0, x -> x.holds(2, 5, 3));
  }

  private static void holdsMessages() {
    int[] sizes = {0, 1, 40, 41, 63, 64, 99, 100};
    for (int size : sizes) {
      Scene scene = SIGNED.behind(x -> {
        Rows.size(x, 5, size);
        x.sign(3, 0, 5, 4);
      });
      scene.still("it holds for " + size + " bytes", 1, 2, x -> x.holds(2, 5, 3));
      Scene another = scene.behind(x -> {
        if (size == 0) {
          x.put(5, 1, 0);
        } else {
          x.bend(5, size - 1, 1);
        }
      });
      another.still("not for others", 0, 2, x -> x.holds(2, 5, 3));
    }
  }

  /** A KEY, and whether a point is lifted by it, which is told by the WORK. */
  private static void holdsKeyIsLifted() {
    BigInteger[] lifted = {ONE, BigInteger.TWO, LAST_X};
    for (BigInteger key : lifted) {
      SIGNED.behind(x -> Rows.number(x, 2, key)).still("KEY " + key, 0, 2, x -> x.holds(2, 5, 3));
    }
    BigInteger[] none = {BigInteger.ZERO, NO_X, LAST_X.add(ONE), P.subtract(ONE), P, P.add(ONE), P.add(BigInteger.TWO),
        LAST};
    for (BigInteger key : none) {
      SIGNED.behind(x -> Rows.number(x, 2, key)).still("KEY " + key, 0, x -> x.holds(2, 5, 3));
    }
  }

  private static void holdsRBelowP() {
    BigInteger[] below = {BigInteger.ZERO, ONE, NO_X, LAST_X, P.subtract(ONE)};
    for (BigInteger r : below) {
      SIGNED.behind(x -> Rows.numbers(x, 3, r, ONE)).still("r " + r, 0, 2, x -> x.holds(2, 5, 3));
    }
    BigInteger[] none = {P, P.add(ONE), LAST};
    for (BigInteger r : none) {
      SIGNED.behind(x -> Rows.numbers(x, 3, r, ONE)).still("r " + r, 0, x -> x.holds(2, 5, 3));
    }
  }

  private static void holdsSBelowN() {
    BigInteger[] below = {BigInteger.ZERO, ONE, LAST_SECRET};
    for (BigInteger s : below) {
      SIGNED.behind(x -> Rows.numbers(x, 3, ONE, s)).still("s " + s, 0, 2, x -> x.holds(2, 5, 3));
    }
    BigInteger[] none = {N, N.add(ONE), P, LAST};
    for (BigInteger s : none) {
      SIGNED.behind(x -> Rows.numbers(x, 3, ONE, s)).still("s " + s, 0, x -> x.holds(2, 5, 3));
    }
  }

  /** By the SECRET 1 and no message: s G less e C is R, the same with the other y, NOUGHT, twice R. */
  private static void holdsEvenPoint() {
    BigInteger k = BigInteger.valueOf(6);
    Model.Dot r = Model.G.times(k);
    k = r.even() ? k : N.subtract(k);
    BigInteger e = Model.numberBy(2, Model.bytes32(r.x()), Model.bytes32(Model.G.x()));
    BigInteger[] points = {k, N.subtract(k), BigInteger.ZERO, k.add(k)};
    int[] wanted = {1, 0, 0, 0};
    for (int i = 0; i < points.length; i++) {
      BigInteger s = points[i].add(e).mod(N);
      Scene scene = new Scene(x -> {
        Rows.number(x, 2, Model.G.x());
        Rows.numbers(x, 3, r.x(), s);
      });
      scene.still("point " + i, wanted[i], 2, x -> x.holds(2, 5, 3));
    }
  }

  private static void holdsRows() {
    SIGNED.rows("holds", 1, new int[] {2, 5, 3}, new int[] {0, 1, 2}, -1, (x, a) -> x.holds(a[0], a[1], a[2]));
  }

  private static void holdsSpent() {
    SIGNED.spends("holds", 2, 1, x -> x.holds(2, 5, 3));
    SIGNED.behind(x -> x.bend(3, 63, 1)).spends("holds not", 2, 0, x -> x.holds(2, 5, 3));
  }

  private static void holdsAmissAheadOfSpent() {
    Scene spent = SIGNED.spent();
    spent.still("KEY of 40 bytes, SPENT", 0, x -> x.holds(5, 5, 3));
    spent.still("SIGNATURE of 32 bytes, SPENT", 0, x -> x.holds(2, 5, 2));
    spent.behind(x -> Rows.number(x, 2, NO_X)).still("no point, SPENT", 0, x -> x.holds(2, 5, 3));
    spent.behind(x -> Rows.numbers(x, 3, P, ONE)).still("r is P, SPENT", 0, x -> x.holds(2, 5, 3));
    spent.behind(x -> Rows.numbers(x, 3, ONE, N)).still("s is N, SPENT", 0, x -> x.holds(2, 5, 3));
    spent.still("no row, SPENT", BAD, x -> x.holds(2, 5, 16));
  }

  // ---- promise 12: entry

  private static Scene entries(int n) {
    return SIGNED.behind(x -> {
      for (int i = 0; i < n; i++) {
        x.entry(2, 5, 3, 1 + i);
      }
    });
  }

  private static void entryFactors() {
    Scene none = entries(0);
    Scene one = entries(1);
    none.changes("1 for the first", 1, 0, x -> x.entry(2, 5, 3, 1), ENTRIES);
    long[] others = {1, 2, (1L << 32) - 1, 1L << 32, MOST - 1, MOST};
    for (long a : others) {
      one.changes(a + " for the second", 2, 0, x -> x.entry(2, 5, 3, a), ENTRIES);
      Check.due("they hold", one.behind(x -> x.entry(2, 5, 3, a)).open().manyHold(), 1);
      entries(3).changes(a + " for the fourth", 4, 0, x -> x.entry(2, 5, 3, a), ENTRIES);
    }
    long[] bad = {0, -1, MOST + 1, 1L << 63, Long.MAX_VALUE, -MOST, (1L << 62) + (1L << 32) + 1};
    for (long a : bad) {
      none.still(a + " for the first", BAD, x -> x.entry(2, 5, 3, a));
      one.still(a + " for the second", BAD, x -> x.entry(2, 5, 3, a));
    }
    long[] notFirst = {2, (1L << 32) + 1, MOST};
    for (long a : notFirst) {
      none.still(a + " for the first", BAD, x -> x.entry(2, 5, 3, a));
      Scene again = one.behind(JointSigns::manyHold);
      again.still(a + " for the first after others", BAD, x -> x.entry(2, 5, 3, a));
    }
  }

  private static void entrySizes() {
    for (int n = 0; n < 4; n++) {
      entries(n).sizes("KEY", 2, NOT_32, NO, x -> x.entry(2, 5, 3, 1));
      entries(n).sizes("SIGNATURE", 3, NOT_64, NO, x -> x.entry(2, 5, 3, 1));
    }
  }

  private static void entryMessages() {
    int[] taken = {0, 1, 39, 40};
    for (int size : taken) {
      Scene scene = SIGNED.behind(x -> {
        Rows.size(x, 5, size);
        x.sign(3, 0, 5, 4);
      });
      scene.changes("message of " + size + " bytes", 1, 0, x -> x.entry(2, 5, 3, 1), ENTRIES);
      Check.due("it holds", scene.behind(x -> x.entry(2, 5, 3, 1)).open().manyHold(), 1);
    }
    SIGNED.sizes("message", 5, new int[] {41, 42, 64, 99, 100}, NO, x -> x.entry(2, 5, 3, 1));
  }

  private static void entryFull() {
    for (int n = 0; n < 4; n++) {
      int has = n;
      entries(n).changes("entry " + (n + 1), n + 1, 0, x -> x.entry(2, 5, 3, 1 + has), ENTRIES);
    }
    entries(4).still("entry 5", FULL, x -> x.entry(2, 5, 3, 1));
    entries(4).still("entry 5", FULL, x -> x.entry(2, 5, 3, MOST));
    entries(4).behind(JointSigns::manyHold).changes("a first one anew", 1, 0, x -> x.entry(2, 5, 3, 1), ENTRIES);
  }

  private static void entryRefusesTheFirstOfSeveral() {
    Scene none = entries(0);
    none.still("not 1, KEY of 40 bytes", BAD, x -> x.entry(5, 5, 3, 2));
    none.still("no row, KEY of 40 bytes", BAD, x -> x.entry(5, 5, 16, 1));
    Scene full = entries(4);
    full.still("KEY of 40 bytes, FULL", NO, x -> x.entry(5, 5, 3, 1));
    full.still("SIGNATURE of 32 bytes, FULL", NO, x -> x.entry(2, 5, 2, 1));
    full.still("message of 64 bytes, FULL", NO, x -> x.entry(2, 3, 3, 1));
    full.still("0, FULL", BAD, x -> x.entry(2, 5, 3, 0));
    full.still("no row, FULL", BAD, x -> x.entry(2, 16, 3, 1));
  }

  private static void entryAsRowsAreNow() {
    int[] rows = {2, 5, 3};
    for (int row : rows) {
      JointSigns x = entries(2).open();
      x.clear(row);
      Check.due("row " + row + " is cleared", x.manyHold(), 1);
      JointSigns y = entries(2).behind(z -> z.bend(row, 0, 1)).open();
      y.entry(2, 5, 3, 1);
      Check.due("row " + row + " is bent ahead of the third", y.manyHold(), 0);
    }
  }

  /** Sizes alone are asked: what is no point or no NUMBER below N is an entry. */
  private static void entryOfAnything() {
    Scene zeros = SIGNED.behind(x -> {
      Rows.number(x, 2, 0);
      Rows.numbers(x, 3, LAST, LAST);
    });
    zeros.changes("an entry of anything", 1, 0, x -> x.entry(2, 5, 3, 1), ENTRIES);
  }

  private static void entryRows() {
    SIGNED.rows("entry", 1, new int[] {2, 5, 3}, new int[] {0, 1, 2}, -1, (x, a) -> {
      int n = x.entry(a[0], a[1], a[2], 1);
      return n < 0 ? n : x.manyHold();
    });
  }

  private static void entryTakesNoWork() {
    JointSigns x = SIGNED.spent().open();
    for (int i = 1; i <= 4; i++) {
      Check.due("entry " + i + " with no WORK left", x.entry(2, 5, 3, i), i);
    }
    Check.due("no room, no WORK left", x.entry(2, 5, 3, 1), FULL);
    Check.due("WORK", x.count(5), Scene.MOST_WORK);
  }

  // ---- promise 13: manyHold

  private static void manyHoldNone() {
    entries(0).still("no entries", NO, JointSigns::manyHold);
    entries(4).behind(JointSigns::manyHold).still("none any more", NO, JointSigns::manyHold);
    entries(0).spent().still("no entries, SPENT", NO, JointSigns::manyHold);
  }

  private static void manyHoldOneToFour() {
    for (int n = 1; n <= 4; n++) {
      entries(n).changes(n + " entries", 1, 1 + 2 * n, JointSigns::manyHold, ENTRIES);
    }
  }

  /** One of so many entries does not hold, the first or the last one. */
  private static void manyHoldOneBent() {
    for (int n = 1; n <= 4; n++) {
      for (int which = 0; which < n; which++) {
        Scene scene = with(n, which, x -> x.bend(3, 63, 1));
        scene.changes("entry " + which + " of " + n + " is bent", 0, 1 + 2 * n, JointSigns::manyHold, ENTRIES);
      }
    }
  }

  /** So many entries; a change comes ahead of one of them, and goes behind it. */
  private static Scene with(int n, int which, Consumer<JointSigns> change) {
    return SIGNED.behind(x -> {
      x.copy(8, 2, -1);
      x.copy(9, 3, -1);
      for (int i = 0; i < n; i++) {
        if (i == which) {
          change.accept(x);
        }
        x.entry(2, 5, 3, 1 + i);
        x.copy(2, 8, -1);
        x.copy(3, 9, -1);
      }
    });
  }

  private static void numberIn(JointSigns x, boolean isKey, BigInteger number) {
    if (isKey) {
      Rows.number(x, 2, number);
    } else {
      Rows.numbers(x, 3, number, ONE);
    }
  }

  private static void manyHoldAmiss() {
    BigInteger[] noPoints = {BigInteger.ZERO, NO_X, LAST_X.add(ONE), P.subtract(ONE), P, P.add(ONE), LAST};
    BigInteger[] noNumbers = {N, N.add(ONE), P, LAST};
    for (int n = 1; n <= 4; n++) {
      for (int which = 0; which < n; which += Math.max(1, n - 1)) {
        for (BigInteger number : noPoints) {
          amiss("KEY " + number, with(n, which, x -> numberIn(x, true, number)));
          amiss("r " + number, with(n, which, x -> numberIn(x, false, number)));
        }
        for (BigInteger number : noNumbers) {
          amiss("s " + number, with(n, which, x -> Rows.numbers(x, 3, Model.G.x(), number)));
        }
      }
    }
  }

  private static void amiss(String what, Scene scene) {
    scene.changes(what, 0, 0, JointSigns::manyHold, ENTRIES);
  }

  private static void manyHoldBounds() {
    BigInteger[] points = {ONE, LAST_X};
    for (BigInteger number : points) {
      with(2, 1, x -> numberIn(x, true, number)).changes("KEY " + number, 0, 5, JointSigns::manyHold, ENTRIES);
      with(2, 1, x -> numberIn(x, false, number)).changes("r " + number, 0, 5, JointSigns::manyHold, ENTRIES);
    }
    BigInteger[] numbers = {BigInteger.ZERO, ONE, LAST_SECRET};
    for (BigInteger s : numbers) {
      Scene scene = with(2, 1, x -> Rows.numbers(x, 3, Model.G.x(), s));
      scene.changes("s " + s, 0, 5, JointSigns::manyHold, ENTRIES);
    }
  }

  /** Nothing is left of four entries that do not hold. */
  private static void manyHoldAfterMore() {
    Scene four = SIGNED.behind(x -> {
      x.bend(5, 0, 1);
      for (int i = 1; i <= 4; i++) {
        x.entry(2, 5, 3, i);
      }
      x.manyHold();
      x.bend(5, 0, 1);
    });
    for (int n = 1; n <= 4; n++) {
      int entries = n;
      Scene fewer = four.behind(x -> {
        for (int i = 1; i <= entries; i++) {
          x.entry(2, 5, 3, i);
        }
      });
      fewer.changes(n + " entries where 4 were", 1, 1 + 2 * n, JointSigns::manyHold, ENTRIES);
    }
  }

  private static void manyHoldSpent() {
    for (int n = 1; n <= 4; n++) {
      entries(n).spends(n + " entries", 1 + 2 * n, 1, JointSigns::manyHold);
      JointSigns x = entries(n).spent().open();
      Check.due("SPENT", x.manyHold(), -5);
      Check.due("entries stay", x.count(4), n);
    }
  }

  private static void manyHoldAmissAheadOfSpent() {
    for (int n = 1; n <= 4; n++) {
      Scene scene = with(n, n - 1, x -> Rows.numbers(x, 3, ONE, N)).spent();
      JointSigns x = scene.open();
      Check.due("amiss, SPENT", x.manyHold(), 0);
      Check.due("entries go", x.count(4), 0);
      Check.due("WORK", x.count(5), Scene.MOST_WORK);
      Check.due("none any more", x.manyHold(), NO);
    }
  }
}
