import java.math.BigInteger;

/** Promises 17 to 24: nonces, sessions, parts, and what they make. */
public final class SessionTest {
  private static final int BAD = -1, NO = -2, SPENT = -5;
  private static final int[] NO_ROWS = {-1, 16, Integer.MIN_VALUE, Integer.MAX_VALUE};
  private static final int[] NO_SIGNERS = {-1, 2, 3, 4, Integer.MIN_VALUE, Integer.MAX_VALUE};

  public static void main(String[] args) {
    wholeSignatures();
    nonces();
    nonceRefused();
    nonceSpent();
    told();
    sessionRefused();
    sessionSpent();
    sessionThatStays();
    noncesThatMakeNought();
    about();
    partOnce();
    partRefused();
    partSpent();
    partHolds();
    partHoldsRefused();
    together();
    count();
    Check.end();
  }

  // Rows of every object here: 0 to 3 secrets, 4 a seed, 5 a message, 6 what is made,
  // 7 the joint key, 8 to 11 nonces told, 12 to 15 parts.
  private static Pair group(long... secrets) {
    Pair p = new Pair();
    p.number(4, 271828);
    p.put(5, 8, 0x0102030405060708L);
    for (int j = 0; j < secrets.length; j++) {
      p.number(j, secrets[j] < 0 ? Model.N.add(BigInteger.valueOf(secrets[j])) : BigInteger.valueOf(secrets[j]));
      p.key(6, j, 1);
      p.signer(6);
    }
    return p;
  }

  private static void tell(Pair p) {
    for (int j = 0; j < p.model.signers.size(); j++) {
      Check.due("nonce", p.nonce(8 + j, j, j, 4, 5), 66);
      Check.due("told", p.told(j, 8 + j), 1);
    }
  }

  private static Pair inSession(long... secrets) {
    Pair p = group(secrets);
    tell(p);
    Check.due("session", p.session(5), 1);
    return p;
  }

  private static void counts(Pair p, int... wanted) {
    for (int what = 0; what < wanted.length; what++) {
      Check.due("count(" + what + ")", p.count(what), wanted[what]);
    }
  }

  private static void workUpTo(Pair p, int work) {
    while (p.count(5) < work) {
      p.key(6, 0, 0);
    }
  }

  /** Odd and even points of every kind come about among these. */
  private static void wholeSignatures() {
    long[][] groups = {{5}, {-5}, {6}, {5, 7}, {7, 5}, {-5, 6}, {9, 9}, {-11, -12}, {13, -14}, {5, 6, 7}, {8, 8, -9}};
    for (long[] secrets : groups) {
      Pair p = inSession(secrets);
      for (int what = 0; what < 4; what++) {
        p.about(6, what);
        p.glance(6);
      }
      for (int j = 0; j < secrets.length; j++) {
        Check.due("part", p.part(12 + j, j, j), 32);
        p.glance(12 + j);
      }
      if (secrets.length < 3) {
        Check.due("part holds", p.partHolds(0, 12), 1);
      }
      Check.due("together", p.together(6, 12), 64);
      p.glance(6);
      Check.due("joint key", p.jointKey(7), 32);
      Check.due("holds", p.holds(7, 5, 6), 1);
    }
  }

  private static void nonces() {
    Pair p = group(5, 6);
    Check.due("nonce", p.nonce(8, 1, 1, 4, 5), 66);
    p.row(8);
    Check.due("work", p.count(5), 7);
    counts(p, 2, 1, 0, 0);
    p.clear(5);
    Check.due("of no message", p.nonce(9, 1, 1, 4, 5), 66);
    p.row(9);
    Check.due("the one it had goes", p.count(1), 1);
    for (int i = 0; i < 5; i++) {
      p.put(5, 8, i);
    }
    Check.due("of 40 bytes", p.nonce(4, 0, 0, 4, 5), 66);
    p.row(4);
    counts(p, 2, 2, 0, 0);
    Check.due("work", p.count(5), 17);
  }

  private static void nonceRefused() {
    Pair p = group(5, 6);
    p.put(8, 3, 1);
    for (int row : NO_ROWS) {
      Check.due("no row to go to", p.nonce(row, 0, 0, 4, 5), BAD);
      Check.due("no row of a secret", p.nonce(8, 0, row, 4, 5), BAD);
      Check.due("no row of z", p.nonce(8, 0, 0, row, 5), BAD);
      Check.due("no row of a message", p.nonce(8, 0, 0, 4, row), BAD);
    }
    for (int j : NO_SIGNERS) {
      Check.due("no signer", p.nonce(8, j, 0, 4, 5), BAD);
    }
    Check.due("no secret", p.nonce(8, 0, 9, 4, 5), NO);
    p.number(9, 0);
    Check.due("0 is no secret", p.nonce(8, 0, 9, 4, 5), NO);
    Check.due("z of no bytes", p.nonce(8, 0, 0, 10, 5), NO);
    p.put(4, 1, 0);
    Check.due("z of 33 bytes", p.nonce(8, 0, 0, 4, 5), NO);
    p.number(4, 3);
    for (int i = 0; i < 5; i++) {
      p.put(10, 8, i);
    }
    p.put(10, 1, 0);
    Check.due("a message of 41 bytes", p.nonce(8, 0, 0, 4, 10), NO);
    Check.due("no work", p.count(5), 2);
    Check.due("another's secret", p.nonce(8, 0, 1, 4, 5), NO);
    Check.due("work", p.count(5), 3);
    p.number(9, Model.N.subtract(BigInteger.valueOf(5)));
    Check.due("the secret of the point with the other y", p.nonce(8, 0, 9, 4, 5), NO);
    Check.due("work", p.count(5), 4);
    counts(p, 2, 0, 0, 0);
    Check.due("nothing has come", p.at(8, -1), 3);
  }

  private static void nonceSpent() {
    Pair p = group(5, 6);
    workUpTo(p, 44);
    Check.due("44 and 5", p.nonce(8, 0, 0, 4, 5), SPENT);
    Check.due("44 and 5, with another's secret", p.nonce(8, 0, 1, 4, 5), SPENT);
    Check.due("NO comes first", p.nonce(8, 0, 0, 5, 5), NO);
    Check.due("BAD comes first", p.nonce(8, 2, 0, 5, 5), BAD);
    Check.due("work", p.count(5), 44);
    Check.due("none is had", p.count(1), 0);
    p = group(5, 6);
    workUpTo(p, 43);
    Check.due("43 and 5", p.nonce(8, 0, 0, 4, 5), 66);
    Check.due("work", p.count(5), 48);
    Check.due("no work any more", p.nonce(8, 0, 0, 4, 5), SPENT);
    Check.due("it is still had", p.count(1), 1);
  }

  private static void told() {
    Pair p = inSession(5, 6);
    for (int row : NO_ROWS) {
      Check.due("no row", p.told(0, row), BAD);
    }
    for (int j : NO_SIGNERS) {
      Check.due("no signer", p.told(j, 8), BAD);
    }
    Check.due("no bytes", p.told(0, 14), NO);
    Check.due("8 bytes", p.told(0, 5), NO);
    p.copy(14, 8, -1);
    p.put(14, 1, 0);
    Check.due("67 bytes", p.told(0, 14), NO);
    p.copy(14, 8, -1);
    p.bend(14, 0, 4);
    Check.due("the first is not read", p.told(0, 14), NO);
    p.copy(14, 8, -1);
    p.bend(14, 33, 4);
    Check.due("the second is not read", p.told(0, 14), NO);
    p.key(13, 0, 1);
    p.clear(14);
    for (int i = 0; i < 33; i++) {
      p.put(14, 1, 0);
    }
    p.copy(15, 13, 14);
    Check.due("the second is nought", p.told(0, 15), NO);
    p.copy(15, 14, 13);
    Check.due("the first is nought", p.told(0, 15), NO);
    counts(p, 2, 2, 2, 1);
    p.copy(15, 13, 13);
    Check.due("any two points", p.told(0, 15), 1);
    counts(p, 2, 2, 2, 0);
    Check.due("a session by them", p.session(5), 1);
    p.about(6, 0);
    p.glance(6);
    Check.due("the same again", p.told(0, 15), 1);
    Check.due("ends the session too", p.count(3), 0);
    // what was told is the row as it was
    p.clear(15);
    Check.due("session", p.session(5), 1);
  }

  private static void sessionRefused() {
    Pair p = new Pair();
    Check.due("no signers", p.session(5), NO);
    p = group(5, 6);
    for (int row : NO_ROWS) {
      Check.due("no row", p.session(row), BAD);
    }
    Check.due("none told", p.session(5), NO);
    p.nonce(8, 0, 0, 4, 5);
    p.nonce(9, 1, 1, 4, 5);
    Check.due("had, but not told", p.session(5), NO);
    p.told(1, 9);
    Check.due("not all told", p.session(5), NO);
    p.told(0, 8);
    Check.due("no work but that", p.count(5), 12);
    for (int i = 0; i < 4; i++) {
      p.put(5, 8, i);
    }
    Check.due("40 bytes", p.session(5), 1);
    Check.due("work", p.count(5), 15);
    p.about(6, 1);
    p.glance(6);
    p.put(5, 1, 1);
    Check.due("41 bytes", p.session(5), NO);
    counts(p, 2, 2, 2, 1);
    p.clear(5);
    Check.due("no bytes", p.session(5), 1);
    p.about(6, 2);
    p.glance(6);
  }

  private static void sessionSpent() {
    Pair p = group(5, 6);
    tell(p);
    workUpTo(p, 46);
    Check.due("46 and 3", p.session(5), SPENT);
    counts(p, 2, 2, 2, 0);
    p.copy(14, 4, 4);
    Check.due("NO comes first", p.session(14), NO);
    Check.due("BAD comes first", p.session(16), BAD);
    p = group(5, 6);
    tell(p);
    workUpTo(p, 45);
    Check.due("45 and 3", p.session(5), 1);
    counts(p, 2, 2, 2, 1, 0, 48);
  }

  /** A session goes just if there is a new one. */
  private static void sessionThatStays() {
    Pair p = inSession(5, 6);
    p.about(6, 2);
    p.copy(15, 5, -1);
    p.bend(5, 0, 1);
    p.about(14, 2);
    Check.due("the message as it was", p.same(6, 14), 1);
    workUpTo(p, 45);
    Check.due("a new one", p.session(5), 1);
    p.about(14, 2);
    p.glance(14);
    Check.due("by another message", p.same(6, 14), 0);
    Check.due("spent", p.session(15), SPENT);
    p.about(6, 2);
    Check.due("it stays", p.same(6, 14), 1);
    Check.due("work", p.count(5), 48);
  }

  /** Two that tell one another's points with the other y: the sums are nought, and R is G. */
  private static void noncesThatMakeNought() {
    Pair p = group(5, 6);
    p.key(12, 0, 1);
    p.key(13, 1, 1);
    p.copy(8, 12, 13);
    p.copy(9, 8, -1);
    p.bend(9, 0, 1);
    p.told(0, 8);
    p.told(1, 9);
    Check.due("the first sum is nought", p.session(5), 1);
    p.about(6, 0);
    p.row(6);
    p.bend(9, 33, 1);
    p.told(1, 9);
    Check.due("both sums are nought", p.session(5), 1);
    Check.due("sums", p.about(6, 0), 66);
    for (int i = 0; i < 66; i++) {
      Check.due("nought", p.at(6, i), 0);
    }
    p.about(6, 1);
    p.number(14, Model.G.x());
    Check.due("R is G", p.same(6, 14), 1);
    for (int what = 2; what < 4; what++) {
      p.about(6, what);
      p.glance(6);
    }
    p.number(14, 1);
    p.partHolds(0, 14);
    counts(p, 2, 0, 2, 1, 0, 13);
  }

  private static void about() {
    Pair p = group(5, 6);
    tell(p);
    Check.due("no session", p.about(6, 0), NO);
    Check.due("BAD comes first", p.about(6, 4), BAD);
    p.session(5);
    int[] sizes = {66, 32, 32, 32};
    for (int what = 0; what < 4; what++) {
      Check.due("about", p.about(6, what), sizes[what]);
      p.row(6);
    }
    int[] none = {-1, 4, 5, Integer.MIN_VALUE, Integer.MAX_VALUE};
    for (int what : none) {
      Check.due("no such thing", p.about(6, what), BAD);
    }
    for (int row : NO_ROWS) {
      Check.due("no row", p.about(row, 0), BAD);
    }
    Check.due("no work", p.count(5), 15);
  }

  private static void partOnce() {
    Pair p = inSession(5, 6);
    Check.due("part", p.part(12, 0, 0), 32);
    p.row(12);
    counts(p, 2, 1, 2, 1);
    Check.due("part again", p.part(13, 0, 0), NO);
    Check.due("work", p.count(5), 16);
    p.about(14, 2);
    Check.due("a new session does not bring it back", p.session(5), 1);
    Check.due("part again", p.part(13, 0, 0), NO);
    Check.due("no new nonce of 66 bytes", p.nonce(8, 0, 0, 9, 5), NO);
    p.number(4, 99);
    Check.due("a new nonce", p.nonce(8, 0, 0, 4, 5), 66);
    Check.due("is not what it told", p.part(13, 0, 0), NO);
    Check.due("told", p.told(0, 8), 1);
    Check.due("no session", p.part(13, 0, 0), NO);
    Check.due("session", p.session(5), 1);
    Check.due("part", p.part(0, 0, 0), 32);
    p.row(0);
  }

  private static void partRefused() {
    Pair p = inSession(5, 6);
    p.put(12, 2, 5);
    for (int row : NO_ROWS) {
      Check.due("no row to go to", p.part(row, 0, 0), BAD);
      Check.due("no row of a secret", p.part(12, 0, row), BAD);
    }
    for (int j : NO_SIGNERS) {
      Check.due("no signer", p.part(12, j, 0), BAD);
    }
    Check.due("no secret", p.part(12, 0, 5), NO);
    p.number(14, Model.N);
    Check.due("N is no secret", p.part(12, 0, 14), NO);
    Check.due("no work", p.count(5), 15);
    Check.due("another's secret", p.part(12, 0, 1), NO);
    Check.due("work", p.count(5), 16);
    p.number(14, Model.N.subtract(BigInteger.valueOf(5)));
    Check.due("the secret of the point with the other y", p.part(12, 0, 14), NO);
    Check.due("work", p.count(5), 17);
    Check.due("nothing has come", p.at(12, -1), 2);
    counts(p, 2, 2, 2, 1);
    Check.due("the nonce is still had", p.part(12, 0, 0), 32);
    p.number(13, 17);
    p.key(14, 13, 1);
    p.copy(15, 14, 14);
    p.told(1, 15);
    p.session(5);
    Check.due("that is not what it told", p.part(12, 1, 1), NO);
    p = group(5, 6);
    tell(p);
    Check.due("no session", p.part(12, 0, 0), NO);
    Check.due("work", p.count(5), 12);
  }

  private static void partSpent() {
    Pair p = inSession(5, 6);
    workUpTo(p, 48);
    Check.due("48 and 1", p.part(12, 0, 0), SPENT);
    Check.due("with another's secret too", p.part(12, 0, 1), SPENT);
    Check.due("NO comes first", p.part(12, 0, 5), NO);
    Check.due("BAD comes first", p.part(12, 2, 5), BAD);
    counts(p, 2, 2, 2, 1, 0, 48);
    p = inSession(5, 6);
    workUpTo(p, 47);
    Check.due("47 and 1", p.part(12, 0, 0), 32);
    Check.due("work", p.count(5), 48);
  }

  private static void partHolds() {
    Pair p = inSession(5, 6);
    p.part(12, 0, 0);
    p.part(13, 1, 1);
    Check.due("part 0", p.partHolds(0, 12), 1);
    Check.due("part 1", p.partHolds(1, 13), 1);
    Check.due("work", p.count(5), 23);
    Check.due("the part of another", p.partHolds(1, 12), 0);
    p.bend(12, 31, 1);
    Check.due("bent", p.partHolds(0, 12), 0);
    p.bend(12, 31, 1);
    p.bend(12, 0, 64);
    Check.due("bent", p.partHolds(0, 12), 0);
    Check.due("work", p.count(5), 32);
    p.number(14, Model.N);
    Check.due("N", p.partHolds(0, 14), 0);
    p.number(14, Model.number(p.model.rows[13]).add(Model.N).mod(BigInteger.ONE.shiftLeft(256)));
    p.number(15, BigInteger.ONE.shiftLeft(256).subtract(BigInteger.ONE));
    Check.due("2^256 - 1", p.partHolds(0, 15), 0);
    Check.due("no work", p.count(5), 32);
    p.number(14, 0);
    Check.due("0", p.partHolds(0, 14), 0);
    p.number(14, Model.N.subtract(BigInteger.ONE));
    Check.due("N - 1", p.partHolds(0, 14), 0);
    Check.due("work", p.count(5), 38);
    // a part needs no nonce that is had here
    Check.due("another object", told(p).partHolds(1, 13), 1);
  }

  /** The same session, where nothing but what was told is known. */
  private static Pair told(Pair from) {
    Pair p = group(5, 6);
    for (int j = 0; j < 2; j++) {
      for (int i = 0; i < 66; i++) {
        p.put(8 + j, 1, from.model.rows[8 + j][i]);
      }
      p.told(j, 8 + j);
    }
    p.session(5);
    counts(p, 2, 0, 2, 1);
    p.number(13, Model.number(from.model.rows[13]));
    return p;
  }

  private static void partHoldsRefused() {
    Pair p = inSession(5, 6);
    p.part(12, 0, 0);
    for (int row : NO_ROWS) {
      Check.due("no row", p.partHolds(0, row), BAD);
    }
    for (int j : NO_SIGNERS) {
      Check.due("no signer", p.partHolds(j, 12), BAD);
    }
    Check.due("8 bytes", p.partHolds(0, 5), NO);
    p.copy(14, 12, -1);
    p.put(14, 1, 0);
    Check.due("33 bytes", p.partHolds(0, 14), NO);
    workUpTo(p, 46);
    Check.due("46 and 3", p.partHolds(0, 12), SPENT);
    Check.due("NO comes first", p.partHolds(0, 14), NO);
    Check.due("BAD comes first", p.partHolds(2, 14), BAD);
    p.number(14, Model.N);
    Check.due("N takes no work", p.partHolds(0, 14), 0);
    Check.due("work", p.count(5), 46);
    p = inSession(5, 6);
    p.part(12, 0, 0);
    workUpTo(p, 45);
    Check.due("45 and 3", p.partHolds(0, 12), 1);
    Check.due("work", p.count(5), 48);
    p.told(0, 8);
    Check.due("no session", p.partHolds(0, 12), NO);
  }

  private static void together() {
    Pair p = group(5, 6);
    tell(p);
    Check.due("no session", p.together(6, 12), NO);
    Check.due("BAD comes first", p.together(6, 15), BAD);
    p.session(5);
    for (int row : NO_ROWS) {
      Check.due("no row to go to", p.together(row, 12), BAD);
      Check.due("no rows to take", p.together(6, row), BAD);
    }
    Check.due("the second would be row 16", p.together(6, 15), BAD);
    Check.due("empty rows", p.together(6, 14), NO);
    p.number(14, 3);
    Check.due("the second is empty", p.together(6, 14), NO);
    p.number(15, Model.N);
    Check.due("the second is N", p.together(6, 14), NO);
    p.number(15, Model.N.subtract(BigInteger.ONE));
    Check.due("rows 14 and 15", p.together(6, 14), 64);
    p.row(6);
    p.number(14, 1);
    Check.due("1 and one less than N", p.together(6, 14), 64);
    p.row(6);
    p.number(14, Model.N);
    Check.due("the first is N", p.together(6, 14), NO);
    p.number(14, 0);
    Check.due("nothing and one less than N", p.together(15, 14), 64);
    p.row(15);
    Check.due("the second has 64 bytes", p.together(6, 14), NO);
    Check.due("no work", p.count(5), 15);
    p.noSigners();
    Check.due("no signers, no session", p.together(6, 15), NO);
    Check.due("no signers, no row", p.together(6, 16), BAD);
  }

  private static void count() {
    Pair p = new Pair();
    int[] none = {-1, 6, 7, Integer.MIN_VALUE, Integer.MAX_VALUE};
    for (int what : none) {
      Check.due("no such thing", p.count(what), BAD);
    }
    counts(p, 0, 0, 0, 0, 0, 0);
    p = inSession(5);
    counts(p, 1, 1, 1, 1, 0, 7);
    p.part(12, 0, 0);
    p.key(7, 0, 0);
    p.together(6, 12);
    p.entry(7, 5, 6, 1);
    counts(p, 1, 0, 1, 1, 1, 9);
    p.manyHold();
    counts(p, 1, 0, 1, 1, 0, 12);
    p.told(0, 8);
    counts(p, 1, 0, 1, 0, 0, 12);
  }
}
