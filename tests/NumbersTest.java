import java.math.BigInteger;

/** NUMBERS and points that are nearly like others, in each of their 256 bits, and the ends of their ranges. */
public final class NumbersTest {
  private static final BigInteger ONE = BigInteger.ONE, LAST = Rows.TOP.subtract(ONE);
  private static final BigInteger LAST_X = Model.P.subtract(BigInteger.valueOf(3));
  // The points with y 1: x x x is P - 6, which runs over P with 7 more.
  private static final BigInteger[] WITH_Y_1 = {
      new BigInteger("1fe1e5ef3fceb5c135ab7741333ce5a6e80d68167653f6b2b24bcbcfaaaff507", 16),
      new BigInteger("146d3b65add9f54ccca28533c88e2cbc63f7443e1658783ab41f8ef97c2a10b5", 16),
      new BigInteger("cbb0deab125754f1fdb2038b0434ed9cb3fb53ab735391129994a535d925f673", 16)};

  public static void main(String[] args) {
    rBelowP();
    sBelowN();
    xOfOneOtherBit();
    sumsOfPointsOfOneOtherBit();
    sumsAtTheEnds();
    sumsOfPointsWithOneY();
    pointsWithY1AreRead();
    secretsOfOneBit();
    partsOfOneBit();
    Check.end();
  }

  // ---- which r is below P and which s below N is told by the WORK of judging

  private static void rBelowP() {
    for (int i = 0; i < 256; i++) {
      BigInteger bit = ONE.shiftLeft(i);
      BigInteger[] numbers = {bit, LAST.subtract(bit), Model.P.subtract(bit), Model.P.add(bit)};
      for (BigInteger r : numbers) {
        if (r.compareTo(LAST) <= 0) {
          judged("r " + r.toString(16), r, ONE, r.compareTo(Model.P) < 0 ? 2 : 0);
        }
      }
    }
  }

  private static void sBelowN() {
    for (int i = 0; i < 256; i++) {
      BigInteger bit = ONE.shiftLeft(i);
      BigInteger[] numbers = {bit, LAST.subtract(bit), Model.N.subtract(bit), Model.N.add(bit)};
      for (BigInteger s : numbers) {
        if (s.compareTo(LAST) <= 0) {
          judged("s " + s.toString(16), ONE, s, s.compareTo(Model.N) < 0 ? 2 : 0);
        }
      }
    }
  }

  private static void judged(String what, BigInteger r, BigInteger s, int work) {
    JointSigns x = new JointSigns();
    Rows.number(x, 2, Model.G.x());
    Rows.numbers(x, 3, r, s);
    Check.due(what + " holds", x.holds(2, 5, 3), 0);
    Check.due(what + ": WORK", x.count(5), work);
  }

  /** s G less e C is a point with an even y whose x is r, but for one bit. */
  private static void xOfOneOtherBit() {
    BigInteger k = BigInteger.valueOf(9);
    k = Model.G.times(k).even() ? k : Model.N.subtract(k);
    BigInteger x = Model.G.times(k).x();
    Check.due("its x", judge(x, k), 1);
    for (int i = 0; i < 256; i++) {
      BigInteger r = x.flipBit(i);
      Check.due("bit " + i + " of x", r.compareTo(Model.P) < 0 ? judge(r, k) : 0, 0);
    }
  }

  /** By the SECRET 1: r as it is told, and s for the point of k. */
  private static int judge(BigInteger r, BigInteger k) {
    JointSigns x = new JointSigns();
    BigInteger e = Model.numberBy(2, Model.bytes32(r), Model.bytes32(Model.G.x()));
    Rows.number(x, 2, Model.G.x());
    Rows.numbers(x, 3, r, k.add(e).mod(Model.N));
    return x.holds(2, 5, 3);
  }

  // ---- points are added in THE SUM OF NONCES

  private static void sum(String what, Model.Dot a, Model.Dot b) {
    JointSigns x = new JointSigns();
    Stage.signers(x, 5, 6);
    Rows.fill(x, 8, Rows.hex(a.bytes()) + Rows.hex(b.bytes()));
    Rows.fill(x, 9, Rows.hex(b.bytes()) + Rows.hex(a.minus().bytes()));
    Check.due("told", x.told(0, 8), 1);
    Check.due("told", x.told(1, 9), 1);
    Check.due("SESSION", x.session(5), 1);
    Check.due("sums", x.about(7, 0), 66);
    String want = Rows.hex(a.plus(b).bytes()) + Rows.hex(b.plus(a.minus()).bytes());
    Check.due("sums of " + what, Rows.read(x, 7), want);
  }

  private static void sumsOfPointsOfOneOtherBit() {
    for (int i = 0; i < 256; i++) {
      BigInteger x = Model.G.x();
      while (Model.lift(x) == null || Model.lift(x.flipBit(i)) == null) {
        x = x.add(ONE);
      }
      sum("points of another bit " + i, Model.lift(x), Model.lift(x.flipBit(i)));
    }
  }

  private static void sumsAtTheEnds() {
    BigInteger[] ends = {ONE, BigInteger.TWO, BigInteger.valueOf(3), LAST_X, Model.P.subtract(BigInteger.valueOf(4)),
        Model.G.x()};
    for (BigInteger one : ends) {
      for (BigInteger other : ends) {
        sum("x " + one + " and " + other, Model.lift(one), Model.lift(other));
        sum("x " + one + " and " + other + ", odd", Model.lift(one).minus(), Model.lift(other));
      }
    }
  }

  /** Three points of one y and different x, and their opposites. */
  private static void sumsOfPointsWithOneY() {
    for (BigInteger one : WITH_Y_1) {
      Check.due("even y", Rows.number(Model.lift(one).y()), Rows.number(Model.P.subtract(ONE)));
      for (BigInteger other : WITH_Y_1) {
        sum("y P - 1", Model.lift(one), Model.lift(other));
        sum("y 1", Model.lift(one).minus(), Model.lift(other).minus());
        sum("y 1 and P - 1", Model.lift(one).minus(), Model.lift(other));
      }
    }
  }

  private static void pointsWithY1AreRead() {
    for (BigInteger number : WITH_Y_1) {
      JointSigns x = new JointSigns();
      Rows.point(x, 6, 2, number);
      Check.due("y P - 1", x.signer(6), 1);
      Rows.point(x, 6, 3, number);
      Check.due("y 1", x.signer(6), 2);
      Rows.number(x, 2, number);
      Rows.numbers(x, 3, number, ONE);
      Check.due("holds", x.holds(2, 5, 3), 0);
      Check.due("WORK", x.count(5), 2);
      Check.due("an entry", x.entry(2, 5, 3, 1), 1);
      Check.due("many hold", x.manyHold(), 0);
      Check.due("WORK", x.count(5), 5);
    }
  }

  // ---- multiples

  private static void secretsOfOneBit() {
    Model.Dot dot = Model.G;
    for (int i = 0; i < 256; i++) {
      JointSigns x = new JointSigns();
      Rows.number(x, 0, ONE.shiftLeft(i));
      Check.due("key", x.key(7, 0, 1), 33);
      Check.due("point of 2^" + i, Rows.read(x, 7), Rows.hex(dot.bytes()));
      Rows.number(x, 0, Model.N.subtract(ONE.shiftLeft(i)));
      Check.due("key", x.key(7, 0, 1), 33);
      Check.due("point of N - 2^" + i, Rows.read(x, 7), Rows.hex(dot.minus().bytes()));
      dot = dot.plus(dot);
    }
  }

  /** Two PARTS that make N less 1, N, and N and 1. */
  private static void partsOfOneBit() {
    for (int i = 0; i < 256; i++) {
      JointSigns x = new JointSigns();
      Stage.session(x, 5, 6);
      BigInteger bit = ONE.shiftLeft(i);
      for (int more = -1; more <= 1; more++) {
        BigInteger other = Model.N.subtract(bit).add(BigInteger.valueOf(more));
        boolean below = other.compareTo(Model.N) < 0;
        Rows.number(x, 12, bit);
        Rows.number(x, 13, other);
        Check.due("together", x.together(7, 12), below ? 64 : -2);
        if (below) {
          Check.due("2^" + i + " and " + other, Rows.read(x, 7).substring(64), Rows.number(Stage.secret(more)));
        }
      }
    }
  }
}
