import java.math.BigInteger;

/** Promises 9 to 11: keys, signatures, and the judging of one. */
public final class SingleTest {
  private static final int BAD = -1, NO = -2, SPENT = -5;
  private static final int[] NO_ROWS = {-1, 16, Integer.MIN_VALUE, Integer.MAX_VALUE};

  public static void main(String[] args) {
    keys();
    manyKeys();
    keyRefused();
    signatures();
    signOntoItself();
    signRefused();
    holds();
    holdsNot();
    amissAhead();
    bounds();
    oddAndNought();
    holdsRefused();
    Check.end();
  }

  private static void keys() {
    Pair p = new Pair();
    p.number(0, 1);
    Check.due("key", p.key(1, 0, 0), 32);
    p.row(1);
    Check.due("point", p.key(1, 0, 1), 33);
    p.row(1);
    Check.due("G has an even y", p.at(1, 0), 2);
    p.number(0, Model.N.subtract(BigInteger.ONE));
    Check.due("point", p.key(1, 0, 1), 33);
    p.row(1);
    Check.due("less G has an odd y", p.at(1, 0), 3);
    Check.due("onto itself", p.key(0, 0, 1), 33);
    p.row(0);
    Check.due("work", p.count(5), 4);
  }

  private static void manyKeys() {
    Pair p = null;
    for (int i = 0; i < 44; i++) {
      p = i % 22 == 0 ? new Pair() : p;
      BigInteger d = BigInteger.ONE.shiftLeft(i * 6);
      p.number(0, i % 3 == 0 ? d : i % 3 == 1 ? d.subtract(BigInteger.ONE) : Model.N.subtract(d));
      p.key(1, 0, 1);
      p.glance(1);
    }
  }

  private static void keyRefused() {
    Pair p = new Pair();
    p.number(0, 5);
    p.put(1, 4, 77);
    for (int row : NO_ROWS) {
      Check.due("no row to go to", p.key(row, 0, 0), BAD);
      Check.due("no row of a secret", p.key(1, row, 0), BAD);
    }
    int[] forms = {-1, 2, 3, Integer.MIN_VALUE, Integer.MAX_VALUE};
    for (int form : forms) {
      Check.due("no form", p.key(1, 0, form), BAD);
      Check.due("BAD comes first", p.key(1, 2, form), BAD);
    }
    noSecrets(p);
    Check.due("no work", p.count(5), 0);
    Check.due("nothing has come", p.at(1, -1), 4);
    spend(p, 48);
    Check.due("spent", p.key(1, 0, 0), SPENT);
    Check.due("no secret comes first", p.key(1, 2, 0), NO);
    Check.due("BAD comes first", p.key(1, 0, 2), BAD);
    Check.due("work", p.count(5), 48);
    Check.due("nothing has come", p.at(1, -1), 4);
  }

  private static void noSecrets(Pair p) {
    Check.due("an empty row", p.key(1, 2, 0), NO);
    p.number(2, 0);
    Check.due("0", p.key(1, 2, 0), NO);
    p.number(2, Model.N);
    Check.due("N", p.key(1, 2, 0), NO);
    p.number(2, Model.N.add(BigInteger.ONE));
    Check.due("above N", p.key(1, 2, 0), NO);
    p.copy(2, 0, -1);
    p.put(2, 1, 0);
    Check.due("33 bytes", p.key(1, 2, 0), NO);
    p.clear(2);
    p.put(2, 8, 1);
    p.put(2, 8, 1);
    p.put(2, 8, 1);
    p.put(2, 7, 1);
    Check.due("31 bytes", p.key(1, 2, 0), NO);
  }

  /** Takes work by keys that nobody needs. */
  private static void spend(Pair p, int work) {
    p.number(14, 3);
    for (int i = 0; i < work; i++) {
      p.real.key(13, 14, 0);
    }
    p.model.work += work;
    p.model.rows[13] = Model.bytes32(Model.G.times(BigInteger.valueOf(3)).x());
  }

  private static void signatures() {
    BigInteger[] secrets = {BigInteger.ONE, BigInteger.valueOf(2), BigInteger.valueOf(6), Model.P.shiftRight(1),
        Model.N.subtract(BigInteger.ONE), Model.N.subtract(BigInteger.valueOf(3)), BigInteger.TEN.pow(50)};
    for (int i = 0; i < secrets.length; i++) {
      Pair p = new Pair();
      p.number(0, secrets[i]);
      p.number(2, BigInteger.ONE.shiftLeft(30 * i));
      int size = i == 6 ? 100 : 9 * i;
      for (int n = 0; n < size; n++) {
        p.put(1, 1, n * 31 + i);
      }
      Check.due("sign", p.sign(3, 0, 1, 2), 64);
      p.row(3);
      p.key(4, 0, 0);
      Check.due("holds", p.holds(4, 1, 3), 1);
      Check.due("work", p.count(5), 5);
    }
  }

  private static void signOntoItself() {
    for (int to = 0; to < 3; to++) {
      Pair p = new Pair();
      p.number(0, 11);
      p.number(1, 12);
      p.number(2, 13);
      Check.due("onto its own", p.sign(to, 0, 1, 2), 64);
      p.row(to);
    }
    Pair p = new Pair();
    p.number(0, 11);
    Check.due("one row for all", p.sign(0, 0, 0, 0), 64);
    p.row(0);
  }

  private static void signRefused() {
    Pair p = new Pair();
    p.number(0, 5);
    p.number(2, 6);
    p.put(3, 1, 9);
    for (int row : NO_ROWS) {
      Check.due("no row to go to", p.sign(row, 0, 1, 2), BAD);
      Check.due("no row of a secret", p.sign(3, row, 1, 2), BAD);
      Check.due("no row of a message", p.sign(3, 0, row, 2), BAD);
      Check.due("no row of a", p.sign(3, 0, 1, row), BAD);
    }
    Check.due("no secret", p.sign(3, 1, 1, 2), NO);
    p.number(4, Model.N);
    Check.due("N is no secret", p.sign(3, 4, 1, 2), NO);
    Check.due("a has no bytes", p.sign(3, 0, 1, 1), NO);
    p.put(2, 1, 0);
    Check.due("a has 33 bytes", p.sign(3, 0, 1, 2), NO);
    p.number(2, 6);
    Check.due("no work", p.count(5), 0);
    spend(p, 47);
    Check.due("47 and 2", p.sign(3, 0, 1, 2), SPENT);
    Check.due("NO comes first", p.sign(3, 0, 1, 1), NO);
    Check.due("BAD comes first", p.sign(3, 0, 16, 1), BAD);
    Check.due("work", p.count(5), 47);
    Check.due("nothing has come", p.at(3, -1), 1);
    Pair q = new Pair();
    q.number(0, 5);
    spend(q, 46);
    Check.due("46 and 2", q.sign(3, 0, 1, 0), 64);
    Check.due("work", q.count(5), 48);
  }

  /** Row 0 a secret, 1 a message, 3 the signature, 4 the key. */
  private static Pair signed() {
    Pair p = new Pair();
    p.number(0, 987654321);
    p.put(1, 8, 0x1122334455667788L);
    p.sign(3, 0, 1, 0);
    p.key(4, 0, 0);
    return p;
  }

  private static void holds() {
    Pair p = signed();
    Check.due("holds", p.holds(4, 1, 3), 1);
    Check.due("work", p.count(5), 5);
    p.row(3);
    p.row(4);
    p.copy(5, 1, -1);
    Check.due("by another row", p.holds(4, 5, 3), 1);
  }

  private static void holdsNot() {
    int[] places = {0, 15, 31, 32, 47, 63};
    for (int i : places) {
      Pair p = signed();
      p.bend(3, i, 1);
      Check.due("bent signature", p.holds(4, 1, 3), 0);
      Check.due("work", p.count(5), 5);
      p.bend(3, i, 1);
      Check.due("bent back", p.holds(4, 1, 3), 1);
    }
    Pair p = signed();
    p.bend(1, 7, 1);
    Check.due("bent message", p.holds(4, 1, 3), 0);
    p.bend(1, 7, 1);
    p.put(1, 1, 0);
    Check.due("longer message", p.holds(4, 1, 3), 0);
    p.number(7, 5);
    p.key(4, 7, 0);
    Check.due("another key", p.holds(4, 1, 3), 0);
  }

  private static void amissAhead() {
    Pair p = signed();
    p.copy(5, 3, -1);
    p.put(5, 1, 0);
    Check.due("65 bytes", p.holds(4, 1, 5), 0);
    Check.due("32 bytes", p.holds(4, 1, 4), 0);
    Check.due("no bytes", p.holds(4, 1, 6), 0);
    p.copy(5, 4, -1);
    p.put(5, 1, 0);
    Check.due("key of 33 bytes", p.holds(5, 1, 3), 0);
    Check.due("key of no bytes", p.holds(6, 1, 3), 0);
    p.number(5, 5);
    Check.due("5 is no x of the curve", p.holds(5, 1, 3), 0);
    p.number(5, Model.P.add(BigInteger.ONE));
    Check.due("1 is one, P + 1 is not", p.holds(5, 1, 3), 0);
    p.number(6, Model.P);
    p.number(7, Model.N);
    p.copy(5, 6, 0);
    Check.due("r is P", p.holds(4, 1, 5), 0);
    p.copy(5, 4, 7);
    Check.due("s is N", p.holds(4, 1, 5), 0);
    Check.due("no work", p.count(5), 3);
    p.number(6, 5);
    p.copy(5, 6, 0);
    Check.due("r is no x of the curve", p.holds(4, 1, 5), 0);
    Check.due("but is judged", p.count(5), 5);
    p.number(7, 0);
    p.copy(5, 4, 7);
    Check.due("s is 0", p.holds(4, 1, 5), 0);
    Check.due("is judged", p.count(5), 7);
  }

  /** Which r and s are below P and N is told by the work that is taken. */
  private static void bounds() {
    BigInteger top = BigInteger.ONE.shiftLeft(256);
    BigInteger low = BigInteger.ONE.shiftLeft(58).subtract(BigInteger.ONE);
    BigInteger[] numbers = {Model.P.subtract(BigInteger.ONE), Model.P, Model.P.add(BigInteger.ONE),
        top.subtract(BigInteger.ONE), top.subtract(BigInteger.ONE.shiftLeft(200)).add(low),
        top.subtract(BigInteger.ONE.shiftLeft(90)).add(low), top.shiftRight(24).subtract(BigInteger.ONE), low,
        Model.N.subtract(BigInteger.ONE), Model.N, Model.N.add(BigInteger.ONE),
        Model.N.subtract(BigInteger.ONE.shiftLeft(128)).add(low), Model.N.add(BigInteger.ONE.shiftLeft(64))};
    Pair p = signed();
    p.number(8, 1);
    for (BigInteger number : numbers) {
      p.number(7, number);
      p.copy(5, 7, 8);
      int work = p.count(5);
      p.holds(4, 1, 5);
      Check.due("work for r " + number.toString(16), p.count(5) - work, number.compareTo(Model.P) < 0 ? 2 : 0);
      p.copy(5, 8, 7);
      work = p.count(5);
      p.holds(4, 1, 5);
      Check.due("work for s " + number.toString(16), p.count(5) - work, number.compareTo(Model.N) < 0 ? 2 : 0);
    }
  }

  /** The right x with an odd y, and nought in the place of a point. */
  private static void oddAndNought() {
    Pair p = new Pair();
    BigInteger k = BigInteger.valueOf(6);
    Model.Dot r = Model.G.times(k);
    if (r.even()) {
      k = Model.N.subtract(k);
      r = r.minus();
    }
    byte[] key = Model.bytes32(Model.G.x());
    BigInteger e = Model.numberBy(2, Model.bytes32(r.x()), key);
    p.number(0, Model.G.x());
    p.number(1, r.x());
    p.number(2, k.add(e).mod(Model.N));
    p.copy(3, 1, 2);
    Check.due("odd y", p.holds(0, 9, 3), 0);
    p.number(2, Model.N.subtract(k).add(e).mod(Model.N));
    p.copy(3, 1, 2);
    Check.due("even y", p.holds(0, 9, 3), 1);
    p.number(2, e);
    p.copy(3, 1, 2);
    Check.due("nought", p.holds(0, 9, 3), 0);
    p.number(2, Model.N.subtract(e));
    p.copy(3, 1, 2);
    Check.due("twice the same point", p.holds(0, 9, 3), 0);
    Check.due("work", p.count(5), 8);
  }

  private static void holdsRefused() {
    Pair p = signed();
    for (int row : NO_ROWS) {
      Check.due("no row of a key", p.holds(row, 1, 3), BAD);
      Check.due("no row of a message", p.holds(4, row, 3), BAD);
      Check.due("no row of a signature", p.holds(4, 1, row), BAD);
    }
    spend(p, 44);
    Check.due("47 and 2", p.holds(4, 1, 3), SPENT);
    Check.due("amiss comes first", p.holds(1, 1, 3), 0);
    p.number(5, Model.N);
    p.copy(6, 4, 5);
    Check.due("amiss comes first", p.holds(4, 1, 6), 0);
    Check.due("BAD comes first", p.holds(4, 16, 3), BAD);
    Check.due("work", p.count(5), 47);
    Pair q = signed();
    spend(q, 43);
    Check.due("46 and 2", q.holds(4, 1, 3), 1);
    Check.due("work", q.count(5), 48);
  }
}
