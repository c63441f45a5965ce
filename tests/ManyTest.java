import java.math.BigInteger;

/** Promises 12 and 13: many signatures judged at once. */
public final class ManyTest {
  private static final int BAD = -1, NO = -2, FULL = -3, SPENT = -5;
  private static final long MOST = 1L << 62;

  public static void main(String[] args) {
    entries();
    entryRefused();
    entryFull();
    hold();
    holdNot();
    errorsThatMakeNought();
    amiss();
    spent();
    Check.end();
  }

  /** Row 0 a secret, 1 a message of 40 bytes, 2 the key, 3 the signature; 4, 5, 6 the same by another. */
  private static Pair signed() {
    Pair p = new Pair();
    p.number(0, 77);
    p.number(1, 123456789);
    p.put(1, 8, -1);
    p.key(2, 0, 0);
    p.sign(3, 0, 1, 0);
    p.number(4, Model.N.subtract(BigInteger.valueOf(12345)));
    p.key(5, 4, 0);
    p.sign(6, 4, 7, 0);
    return p;
  }

  private static void entries() {
    Pair p = signed();
    Check.due("first", p.entry(2, 1, 3, 1), 1);
    Check.due("second", p.entry(5, 7, 6, MOST), 2);
    Check.due("third", p.entry(2, 1, 3, 2), 3);
    Check.due("count", p.count(4), 3);
    Check.due("work", p.count(5), 6);
    // entries are of the rows as they were
    p.clear(2);
    p.bend(1, 0, 1);
    p.bend(3, 0, 1);
    p.clear(5);
    p.clear(6);
    Check.due("hold", p.manyHold(), 1);
    Check.due("work", p.count(5), 13);
    Check.due("gone", p.count(4), 0);
    Check.due("none", p.manyHold(), NO);
  }

  private static void entryRefused() {
    Pair p = signed();
    int[] noRows = {-1, 16, Integer.MIN_VALUE, Integer.MAX_VALUE};
    for (int row : noRows) {
      Check.due("no row of a key", p.entry(row, 1, 3, 1), BAD);
      Check.due("no row of a message", p.entry(2, row, 3, 1), BAD);
      Check.due("no row of a signature", p.entry(2, 1, row, 1), BAD);
    }
    long[] notFirst = {2, 0, -1, MOST, MOST + 1, Long.MIN_VALUE, Long.MAX_VALUE};
    for (long a : notFirst) {
      Check.due("the first has 1", p.entry(2, 1, 3, a), BAD);
    }
    sizes(p);
    Check.due("none has come", p.count(4), 0);
    p.entry(2, 1, 3, 1);
    long[] none = {0, -1, MOST + 1, Long.MIN_VALUE, Long.MAX_VALUE};
    for (long a : none) {
      Check.due("no a", p.entry(2, 1, 3, a), BAD);
      Check.due("BAD comes first", p.entry(9, 1, 3, a), BAD);
    }
    Check.due("1 again", p.entry(2, 1, 3, 1), 2);
    p.manyHold();
    Check.due("a first one again", p.entry(2, 1, 3, 2), BAD);
    Check.due("no work but that", p.count(5), 11);
  }

  private static void sizes(Pair p) {
    p.copy(8, 2, -1);
    p.put(8, 1, 0);
    Check.due("key of 33 bytes", p.entry(8, 1, 3, 1), NO);
    Check.due("key of no bytes", p.entry(9, 1, 3, 1), NO);
    p.copy(8, 3, -1);
    p.put(8, 1, 0);
    Check.due("signature of 65 bytes", p.entry(2, 1, 8, 1), NO);
    Check.due("signature of 32 bytes", p.entry(2, 1, 2, 1), NO);
    p.copy(8, 1, -1);
    Check.due("message of 40 bytes", p.at(8, -1), 40);
    p.put(8, 1, 0);
    Check.due("message of 41 bytes", p.entry(2, 8, 3, 1), NO);
  }

  private static void entryFull() {
    Pair p = signed();
    for (int i = 1; i <= 4; i++) {
      Check.due("entry", p.entry(2, 1, 3, 1), i);
    }
    Check.due("four are all", p.entry(2, 1, 3, 1), FULL);
    Check.due("NO comes first", p.entry(2, 1, 2, 1), NO);
    Check.due("BAD comes first", p.entry(2, 1, 2, 0), BAD);
    Check.due("four", p.count(4), 4);
    Check.due("hold", p.manyHold(), 1);
    Check.due("work", p.count(5), 15);
  }

  private static void hold() {
    Pair p = signed();
    p.entry(5, 7, 6, 1);
    Check.due("one", p.manyHold(), 1);
    Check.due("work", p.count(5), 9);
    p.entry(5, 7, 6, 1);
    p.entry(2, 1, 3, 1);
    p.entry(5, 7, 6, 3);
    p.entry(2, 1, 3, MOST);
    Check.due("four", p.manyHold(), 1);
    Check.due("work", p.count(5), 18);
  }

  private static void holdNot() {
    int[] places = {32, 63};
    for (int i : places) {
      Pair p = signed();
      p.entry(5, 7, 6, 1);
      p.bend(3, i, 1);
      p.entry(2, 1, 3, 5);
      Check.due("bent signature", p.manyHold(), 0);
      Check.due("gone", p.count(4), 0);
      Check.due("work", p.count(5), 11);
    }
    Pair p = signed();
    p.bend(1, 39, 1);
    p.entry(2, 1, 3, 1);
    Check.due("bent message", p.manyHold(), 0);
    p.bend(1, 39, 1);
    p.entry(5, 1, 3, 1);
    Check.due("another key", p.manyHold(), 0);
    Check.due("work", p.count(5), 12);
    p.entry(2, 1, 3, 1);
    p.entry(5, 1, 3, 7);
    Check.due("another key beside a good one", p.manyHold(), 0);
    p.entry(2, 1, 3, 1);
    Check.due("what is gone does not count", p.manyHold(), 1);
    Check.due("work", p.count(5), 20);
  }

  /** One s is too great and one too small: they hold together just by the weights that make that nought. */
  private static void errorsThatMakeNought() {
    long[] factors = {1, 2, (1L << 32) + 1, (1L << 32) + 1, 1L << 61, MOST, MOST};
    long[] errors = {1, 1, 1, (1L << 32) + 1, 1L << 61, MOST, MOST - 1};
    int[] wanted = {1, 0, 0, 1, 1, 1, 0};
    Pair p = signed();
    spoil(p, 6, 8, BigInteger.ONE.negate());
    for (int i = 0; i < factors.length; i++) {
      spoil(p, 3, 9, BigInteger.valueOf(errors[i]));
      p.entry(2, 1, 9, 1);
      p.entry(5, 7, 8, factors[i]);
      Check.due("factor " + factors[i] + ", error " + errors[i], p.manyHold(), wanted[i]);
    }
    Check.due("none of them alone", p.holds(2, 1, 9), 0);
    Check.due("none of them alone", p.holds(5, 7, 8), 0);
  }

  /** A signature with another s in row to. */
  private static void spoil(Pair p, int from, int to, BigInteger error) {
    p.number(10, Model.number(p.model.rows[from], 0, 32));
    p.number(11, Model.number(p.model.rows[from], 32, 64).add(error).mod(Model.N));
    p.copy(to, 10, 11);
  }

  private static void amiss() {
    Pair p = signed();
    p.number(8, 5);
    p.entry(8, 1, 3, 1);
    p.entry(2, 1, 3, 1);
    Check.due("a key that is no x", p.manyHold(), 0);
    p.entry(2, 1, 3, 1);
    p.copy(9, 8, 8);
    p.entry(2, 1, 9, 1);
    Check.due("r that is no x", p.manyHold(), 0);
    p.number(8, Model.P.add(BigInteger.ONE));
    p.copy(9, 8, 2);
    p.entry(2, 1, 9, 1);
    Check.due("r not below P", p.manyHold(), 0);
    p.entry(8, 1, 3, 1);
    Check.due("key not below P", p.manyHold(), 0);
    p.number(8, Model.N);
    p.copy(9, 2, 8);
    p.entry(2, 1, 3, 1);
    p.entry(2, 1, 9, 1);
    Check.due("s not below N", p.manyHold(), 0);
    Check.due("no work", p.count(5), 6);
    Check.due("gone", p.count(4), 0);
    p.number(8, 1);
    p.copy(9, 2, 8);
    p.entry(2, 1, 9, 1);
    Check.due("another s", p.manyHold(), 0);
    Check.due("work", p.count(5), 9);
  }

  private static void spent() {
    Pair p = signed();
    while (p.count(5) < 44) {
      p.key(10, 0, 0);
    }
    p.entry(2, 1, 3, 1);
    p.entry(2, 1, 3, 1);
    Check.due("44 and 5", p.manyHold(), SPENT);
    Check.due("they stay", p.count(4), 2);
    Check.due("work", p.count(5), 44);
    p.number(8, Model.N);
    p.copy(9, 2, 8);
    p.entry(2, 1, 9, 1);
    Check.due("amiss takes no work", p.manyHold(), 0);
    Check.due("gone", p.count(4), 0);
    p.key(10, 0, 0);
    p.entry(2, 1, 3, 1);
    Check.due("45 and 3", p.manyHold(), 1);
    Check.due("work", p.count(5), 48);
    p.entry(2, 1, 3, 1);
    Check.due("48 and 3", p.manyHold(), SPENT);
    Check.due("it stays", p.count(4), 1);
  }
}
