import java.math.BigInteger;

/** Long walks of mixed calls, most of them sensible and some wrong, against the model. */
public final class WalkTest {
  private static final int WALKS = 100;

  private long seed;
  private final Pair pair = new Pair();

  private WalkTest(long seed) {
    this.seed = seed;
  }

  public static void main(String[] args) {
    for (int i = 1; i <= WALKS; i++) {
      new WalkTest(i * 7919L).walk();
    }
    Check.end();
  }

  private long next() {
    seed = seed * 6364136223846793005L + 1442695040888963407L;
    long x = seed ^ seed >>> 33;
    x *= 0xff51afd7ed558ccdL;
    return x ^ x >>> 29;
  }

  private int below(int n) {
    return (int) Long.remainderUnsigned(next(), n);
  }

  /** The one asked for, or now and then any other, a wrong one among them. */
  private int about(int row) {
    return below(25) == 0 ? below(20) - 2 : row;
  }

  // Rows 0 to 3 are secrets, 4 is a seed, 5 a message, 6 to 15 take what is made.
  private void walk() {
    for (int row = 0; row < 5; row++) {
      pair.number(row, secret());
    }
    pair.put(5, 1 + below(8), next());
    while (pair.calls < Pair.MOST_CALLS - 100) {
      step();
    }
    pair.counts();
    for (int what = 0; what < 4; what++) {
      pair.about(15, what);
      pair.glance(15);
    }
  }

  private BigInteger secret() {
    BigInteger n = BigInteger.ZERO;
    for (int i = 0; i < 4; i++) {
      n = n.shiftLeft(64).add(new BigInteger(Long.toUnsignedString(next())));
    }
    switch (below(6)) {
      case 0: return BigInteger.valueOf(1 + below(5));
      case 1: return Model.N.subtract(BigInteger.valueOf(below(4)));
      default: return n;
    }
  }

  private void step() {
    switch (below(20)) {
      case 0: case 1: case 2: rows(); break;
      case 3: pair.key(about(6), about(below(4)), below(3)); pair.glance(6); break;
      case 4: signing(); break;
      case 5: entries(); break;
      case 6: case 7: joining(); break;
      case 8: case 9: wrong(); break;
      case 10: pair.bend(about(below(16)), below(34), 1 << below(8)); break;
      case 11: pair.bend(12 + below(4), below(32), 1 << below(8)); break;
      case 12: pair.counts(); break;
      default: together(); break;
    }
  }

  private void rows() {
    int row = about(5);
    switch (below(6)) {
      case 0: pair.put(row, about(1 + below(8)), next()); break;
      case 1: pair.clear(row); break;
      case 2: pair.copy(about(15), about(below(16)), below(17) - 1); pair.glance(15); break;
      case 3: pair.same(about(below(16)), about(below(16))); break;
      case 4: pair.hash(about(14), below(11) - 2, about(below(16))); pair.glance(14); break;
      default: pair.at(row, below(103) - 2); break;
    }
  }

  private void signing() {
    int secret = below(4);
    pair.key(6, about(secret), 0);
    pair.sign(about(7), secret, 5, about(4));
    pair.glance(7);
    pair.holds(about(6), about(5), 7);
  }

  private void entries() {
    signing();
    int n = 1 + below(2);
    for (int i = 0; i < n; i++) {
      pair.entry(about(6), about(5), about(7), below(8) == 0 ? next() : pair.count(4) == 0 ? 1 : 1 + below(1000));
    }
    if (below(2) == 0) {
      pair.manyHold();
    }
  }

  private void joining() {
    if (below(4) == 0) {
      pair.noSigners();
    }
    if (pair.count(0) < 2 || below(3) == 0) {
      pair.key(6, below(4), 1);
      pair.signer(about(6));
    }
    if (below(3) == 0) {
      pair.jointKey(about(6));
      pair.glance(6);
    }
  }

  private void together() {
    int n = pair.model.signers.size();
    int j = n == 0 ? 0 : below(n);
    switch (below(6)) {
      case 0: case 1: everyNonce(n); break;
      case 2: pair.nonce(about(8 + j), about(j), about(secretOf(j)), about(4), about(5)); pair.glance(8 + j); break;
      case 3: pair.told(about(j), about(8 + j)); break;
      case 4: pair.session(about(5)); break;
      default: pair.part(about(12 + j), about(j), about(secretOf(j))); pair.glance(12 + j); break;
    }
    if (pair.count(3) == 1) {
      parts(n);
    }
  }

  private void everyNonce(int n) {
    for (int j = 0; j < n; j++) {
      pair.nonce(8 + j, j, secretOf(j), 4, 5);
      pair.glance(8 + j);
      pair.told(j, about(8 + j));
    }
    pair.session(5);
  }

  private void parts(int n) {
    for (int j = 0; j < n; j++) {
      if (below(4) != 0) {
        pair.part(12 + j, j, secretOf(j));
        pair.glance(12 + j);
      }
    }
    pair.partHolds(about(0), about(12));
    pair.together(about(7), about(12));
    pair.glance(7);
  }

  /** The row of the secret that a signer's point is of; any, if none is. */
  private int secretOf(int j) {
    for (int row = 0; row < 4 && j < pair.model.signers.size(); row++) {
      BigInteger d = Model.secretOf(pair.model.rows[row]);
      if (d != null && java.util.Arrays.equals(Model.G.times(d).bytes(), pair.model.signers.get(j).key)) {
        return row;
      }
    }
    return below(4);
  }

  private void wrong() {
    int a = below(20) - 2;
    int b = below(20) - 2;
    int c = below(20) - 2;
    switch (below(12)) {
      case 0: pair.key(a, b, c); break;
      case 1: pair.sign(a, b, c, below(16)); break;
      case 2: pair.holds(a, b, c); break;
      case 3: pair.entry(a, b, c, next() >> below(64)); break;
      case 4: pair.signer(a); break;
      case 5: pair.nonce(a, below(6) - 1, b, c, below(16)); break;
      case 6: pair.told(below(6) - 1, a); break;
      case 7: pair.session(a); break;
      case 8: pair.about(a, below(6) - 1); break;
      case 9: pair.part(a, below(6) - 1, b); break;
      case 10: pair.partHolds(below(6) - 1, a); break;
      default: pair.together(a, b); break;
    }
  }
}
