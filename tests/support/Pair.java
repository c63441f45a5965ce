/** An object and the model of it: every call goes to both, and their answers are compared. */
final class Pair {
  static final int MOST_CALLS = 512;

  final JointSigns real = new JointSigns();
  final Model model = new Model();
  int calls = 0;

  private int due(String call, int got, int want) {
    calls++;
    Check.due("call " + calls + ", " + call, got, want);
    return want;
  }

  private static String text(String name, long... values) {
    StringBuilder text = new StringBuilder(name).append('(');
    for (int i = 0; i < values.length; i++) {
      text.append(i == 0 ? "" : ", ").append(values[i]);
    }
    return text.append(')').toString();
  }

  int put(int row, int n, long v) {
    return due(text("put", row, n, v), real.put(row, n, v), model.put(row, n, v));
  }

  int clear(int row) {
    return due(text("clear", row), real.clear(row), model.clear(row));
  }

  int at(int row, int i) {
    return due(text("at", row, i), real.at(row, i), model.at(row, i));
  }

  int bend(int row, int i, int mask) {
    return due(text("bend", row, i, mask), real.bend(row, i, mask), model.bend(row, i, mask));
  }

  int copy(int row, int from, int more) {
    return due(text("copy", row, from, more), real.copy(row, from, more), model.copy(row, from, more));
  }

  int same(int row, int other) {
    return due(text("same", row, other), real.same(row, other), model.same(row, other));
  }

  int hash(int row, int tag, int from) {
    return due(text("hash", row, tag, from), real.hash(row, tag, from), model.hash(row, tag, from));
  }

  int key(int to, int secret, int form) {
    return due(text("key", to, secret, form), real.key(to, secret, form), model.key(to, secret, form));
  }

  int sign(int to, int secret, int m, int a) {
    return due(text("sign", to, secret, m, a), real.sign(to, secret, m, a), model.sign(to, secret, m, a));
  }

  int holds(int key, int m, int s) {
    return due(text("holds", key, m, s), real.holds(key, m, s), model.holds(key, m, s));
  }

  int entry(int key, int m, int s, long a) {
    return due(text("entry", key, m, s, a), real.entry(key, m, s, a), model.entry(key, m, s, a));
  }

  int manyHold() {
    return due(text("manyHold"), real.manyHold(), model.manyHold());
  }

  int signer(int row) {
    return due(text("signer", row), real.signer(row), model.signer(row));
  }

  int noSigners() {
    return due(text("noSigners"), real.noSigners(), model.noSigners());
  }

  int jointKey(int to) {
    return due(text("jointKey", to), real.jointKey(to), model.jointKey(to));
  }

  int nonce(int to, int j, int secret, int z, int m) {
    return due(text("nonce", to, j, secret, z, m), real.nonce(to, j, secret, z, m), model.nonce(to, j, secret, z, m));
  }

  int told(int j, int row) {
    return due(text("told", j, row), real.told(j, row), model.told(j, row));
  }

  int session(int m) {
    return due(text("session", m), real.session(m), model.session(m));
  }

  int about(int to, int what) {
    return due(text("about", to, what), real.about(to, what), model.about(to, what));
  }

  int part(int to, int j, int secret) {
    return due(text("part", to, j, secret), real.part(to, j, secret), model.part(to, j, secret));
  }

  int partHolds(int j, int row) {
    return due(text("partHolds", j, row), real.partHolds(j, row), model.partHolds(j, row));
  }

  int together(int to, int from) {
    return due(text("together", to, from), real.together(to, from), model.together(to, from));
  }

  int count(int what) {
    return due(text("count", what), real.count(what), model.count(what));
  }

  void counts() {
    for (int what = 0; what < 6; what++) {
      count(what);
    }
  }

  /** A whole row, a byte a call. */
  void row(int row) {
    int length = at(row, -1);
    for (int i = 0; i < length; i++) {
      at(row, i);
    }
  }

  /** Some bytes of a row: the ends, the middle and the place where a second point begins. */
  void glance(int row) {
    int length = at(row, -1);
    int[] places = {0, 1, 17, 31, 32, 33, 34, 63};
    for (int i : places) {
      if (i < length) {
        at(row, i);
      }
    }
  }

  void number(int row, java.math.BigInteger n) {
    clear(row);
    for (int i = 3; i >= 0; i--) {
      put(row, 8, n.shiftRight(64 * i).longValue());
    }
  }

  void number(int row, long n) {
    number(row, java.math.BigInteger.valueOf(n));
  }
}
