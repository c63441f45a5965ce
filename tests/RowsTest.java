/** Promises 1 to 8: a new object, and the rows. */
public final class RowsTest {
  private static final int BAD = -1, NO = -2, FULL = -3, NONE = -4;
  private static final int[] NO_ROWS = {-1, 16, 17, -2, 100, Integer.MIN_VALUE, Integer.MAX_VALUE};

  public static void main(String[] args) {
    newObject();
    put();
    putFull();
    clear();
    at();
    bend();
    copy();
    copyOntoItself();
    copyFull();
    same();
    hash();
    hashOfAllSizes();
    Check.end();
  }

  private static void newObject() {
    Pair p = new Pair();
    for (int row = 0; row < 16; row++) {
      Check.due("size of a new row", p.at(row, -1), 0);
      Check.due("byte of a new row", p.at(row, 0), NONE);
    }
    for (int what = 0; what < 6; what++) {
      Check.due("count of a new object", p.count(what), 0);
    }
    Check.due("no entries", p.manyHold(), NO);
    Check.due("no session", p.about(0, 0), NO);
    Check.due("no signers", p.noSigners(), 0);
    Check.due("no signers", p.jointKey(0), NO);
    Check.due("no signer 0", p.told(0, 0), BAD);
  }

  private static void put() {
    Pair p = new Pair();
    int had = 0;
    for (int n = 1; n <= 8; n++) {
      had += n;
      Check.due("put", p.put(3, n, 0x8192a3b4c5d6e7f8L), had);
    }
    p.row(3);
    Check.due("highest of one byte", p.at(3, 0), 0xf8);
    Check.due("highest of two bytes", p.at(3, 1), 0xe7);
    Check.due("lowest of two bytes", p.at(3, 2), 0xf8);
    Check.due("highest of eight bytes", p.at(3, 28), 0x81);
    Check.due("of -1", p.put(15, 3, -1), 3);
    p.row(15);
    for (int row : NO_ROWS) {
      Check.due("no row", p.put(row, 1, 1), BAD);
    }
    int[] sizes = {0, -1, 9, 10, Integer.MIN_VALUE, Integer.MAX_VALUE};
    for (int n : sizes) {
      Check.due("no size", p.put(0, n, 1), BAD);
    }
    Check.due("nothing has come", p.at(0, -1), 0);
  }

  private static void putFull() {
    Pair p = new Pair();
    for (int i = 0; i < 12; i++) {
      p.put(0, 8, i);
    }
    Check.due("96 and 5", p.put(0, 5, 1), FULL);
    Check.due("96 still", p.at(0, -1), 96);
    Check.due("96 and 4", p.put(0, 4, 1), 100);
    Check.due("100 and 1", p.put(0, 1, 1), FULL);
    Check.due("BAD comes first", p.put(0, 9, 1), BAD);
    Check.due("last byte", p.at(0, 99), 1);
    Check.due("behind it", p.at(0, 100), NONE);
    Check.due("another row is not full", p.put(1, 1, 1), 1);
  }

  private static void clear() {
    Pair p = new Pair();
    p.put(0, 8, -1);
    p.put(0, 3, -1);
    p.put(1, 2, 7);
    Check.due("clear", p.clear(0), 11);
    Check.due("clear again", p.clear(0), 0);
    Check.due("size", p.at(0, -1), 0);
    Check.due("byte", p.at(0, 0), NONE);
    Check.due("another row stays", p.at(1, -1), 2);
    for (int row : NO_ROWS) {
      Check.due("no row", p.clear(row), BAD);
    }
  }

  private static void at() {
    Pair p = new Pair();
    p.put(7, 4, 0x7f80ff00L);
    Check.due("127", p.at(7, 0), 127);
    Check.due("128", p.at(7, 1), 128);
    Check.due("255", p.at(7, 2), 255);
    Check.due("0", p.at(7, 3), 0);
    Check.due("size", p.at(7, -1), 4);
    int[] behind = {4, 5, 99, 100, 101, Integer.MAX_VALUE};
    for (int i : behind) {
      Check.due("behind the last", p.at(7, i), NONE);
    }
    int[] ahead = {-2, -3, Integer.MIN_VALUE};
    for (int i : ahead) {
      Check.due("below -1", p.at(7, i), BAD);
    }
    for (int row : NO_ROWS) {
      Check.due("no row", p.at(row, 0), BAD);
      Check.due("no row", p.at(row, -1), BAD);
    }
  }

  private static void bend() {
    Pair p = new Pair();
    p.put(2, 3, 0x00ff81L);
    Check.due("all bits", p.bend(2, 0, 255), 255);
    Check.due("all bits back", p.bend(2, 0, 255), 0);
    Check.due("one bit", p.bend(2, 1, 128), 127);
    Check.due("two bits", p.bend(2, 2, 0x81), 0);
    p.row(2);
    int[] masks = {0, -1, 256, 257, Integer.MIN_VALUE, Integer.MAX_VALUE};
    for (int mask : masks) {
      Check.due("no mask", p.bend(2, 0, mask), BAD);
    }
    int[] places = {-1, -2, 3, 100, Integer.MIN_VALUE, Integer.MAX_VALUE};
    for (int i : places) {
      Check.due("no byte", p.bend(2, i, 1), BAD);
    }
    for (int row : NO_ROWS) {
      Check.due("no row", p.bend(row, 0, 1), BAD);
    }
    p.row(2);
  }

  private static void copy() {
    Pair p = new Pair();
    p.put(0, 3, 0x010203L);
    p.put(1, 2, 0xfffeL);
    p.put(2, 8, 9);
    Check.due("one behind another", p.copy(2, 0, 1), 5);
    p.row(2);
    Check.due("one alone", p.copy(2, 1, -1), 2);
    p.row(2);
    Check.due("of nothing", p.copy(2, 3, 4), 0);
    Check.due("the same twice", p.copy(3, 0, 0), 6);
    p.row(3);
    p.row(0);
    for (int row : NO_ROWS) {
      Check.due("no row to go to", p.copy(row, 0, 1), BAD);
      Check.due("no row to take", p.copy(3, row, 1), BAD);
      if (row != -1) {
        Check.due("no row behind", p.copy(3, 0, row), BAD);
      }
    }
    p.row(3);
  }

  private static void copyOntoItself() {
    Pair p = new Pair();
    p.put(0, 3, 0x010203L);
    p.put(1, 2, 0xfffeL);
    Check.due("itself and another", p.copy(0, 0, 1), 5);
    p.row(0);
    Check.due("another and itself", p.copy(0, 1, 0), 7);
    p.row(0);
    Check.due("itself twice", p.copy(0, 0, 0), 14);
    p.row(0);
    Check.due("itself alone", p.copy(0, 0, -1), 14);
    p.row(0);
  }

  private static void copyFull() {
    Pair p = new Pair();
    for (int i = 0; i < 6; i++) {
      p.put(0, 8, i);
    }
    p.put(0, 2, 5);
    Check.due("50 and 50", p.copy(1, 0, 0), 100);
    p.put(2, 1, 1);
    Check.due("100 and 1", p.copy(3, 1, 2), FULL);
    Check.due("it stays empty", p.at(3, -1), 0);
    Check.due("1 and 100", p.copy(2, 2, 1), FULL);
    Check.due("it stays", p.at(2, -1), 1);
    Check.due("100 and none", p.copy(3, 1, -1), 100);
    Check.due("100 and an empty one", p.copy(3, 1, 9), 100);
    Check.due("BAD comes first", p.copy(16, 1, 1), BAD);
  }

  private static void same() {
    Pair p = new Pair();
    Check.due("both empty", p.same(0, 1), 1);
    p.put(0, 4, 0x01020304L);
    p.put(1, 4, 0x01020304L);
    p.put(2, 4, 0x01020305L);
    p.put(3, 3, 0x010203L);
    p.put(4, 4, 0x11020304L);
    Check.due("like", p.same(0, 1), 1);
    Check.due("itself", p.same(0, 0), 1);
    Check.due("last byte", p.same(0, 2), 0);
    Check.due("shorter", p.same(0, 3), 0);
    Check.due("longer", p.same(3, 0), 0);
    Check.due("first byte", p.same(0, 4), 0);
    Check.due("one empty", p.same(0, 5), 0);
    // what a row held before it was cleared does not count
    p.clear(2);
    p.put(2, 3, 0x010203L);
    Check.due("after clear", p.same(2, 3), 1);
    for (int row : NO_ROWS) {
      Check.due("no row", p.same(row, 0), BAD);
      Check.due("no other row", p.same(0, row), BAD);
    }
  }

  private static void hash() {
    Pair p = new Pair();
    p.put(0, 8, 0x123456789abcdef0L);
    for (int tag = -1; tag < 8; tag++) {
      Check.due("hash", p.hash(1, tag, 0), 32);
      p.row(1);
    }
    int[] tags = {-2, 8, 9, Integer.MIN_VALUE, Integer.MAX_VALUE};
    for (int tag : tags) {
      Check.due("no tag", p.hash(1, tag, 0), BAD);
    }
    for (int row : NO_ROWS) {
      Check.due("no row to go to", p.hash(row, 0, 0), BAD);
      Check.due("no row to take", p.hash(1, 0, row), BAD);
    }
    p.row(1);
    Check.due("onto itself", p.hash(0, 3, 0), 32);
    p.row(0);
    Check.due("no work", p.count(5), 0);
  }

  private static void hashOfAllSizes() {
    Pair p = new Pair();
    for (int n = 0; n <= 100; n++) {
      p.hash(1, n % 9 - 1, 0);
      p.at(1, 0);
      p.at(1, 31);
      p.put(0, 1, n * 37);
    }
  }
}
