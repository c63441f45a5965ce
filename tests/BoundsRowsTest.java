import java.util.Arrays;

/** Promises 1 to 8 and paragraph 1: a test of its own for each sentence that names a boundary. */
public final class BoundsRowsTest {
  private static final int BAD = -1, NO = -2, FULL = -3, NONE = -4;
  private static final int MIN = Integer.MIN_VALUE, MAX = Integer.MAX_VALUE;

  // Row 1 has no bytes, 2 one, 3 eight, 4 and 5 fifty, 6 ninety-nine, 7 a hundred.
  private static final Scene ROWS = new Scene(x -> {
    int[] sizes = {0, 0, 1, 8, 50, 50, 99, 100};
    for (int row = 0; row < sizes.length; row++) {
      Rows.size(x, row, sizes[row]);
    }
  });

  public static void main(String[] args) {
    newRowsAreEmpty();
    newObjectHasNothing();
    newObjectBesideAUsedOne();
    call512();
    putTakes1To8();
    putTakesNoOtherSize();
    putTakesTheLowestBytes();
    putUpTo100();
    putIntoFull();
    putRefusesTheFirstOfSeveral();
    putRows();
    clearTellsHowMany();
    clearRows();
    atFirstAndLast();
    atSize();
    atBehindTheLast();
    atBelow();
    atRows();
    bendMasks();
    bendPlaces();
    bendNothingElse();
    bendRows();
    copyOfOne();
    copyMore();
    copyUpTo100();
    copyAbove100();
    copyShorter();
    copyOntoItself();
    copyRows();
    sameSizes();
    sameBytes();
    sameRows();
    hashTags();
    hashSizes();
    hashOntoItself();
    hashRows();
    withAllWorkDone();
    Check.end();
  }

  // ---- promise 1

  private static void newRowsAreEmpty() {
    for (int row = 0; row < 16; row++) {
      JointSigns x = new JointSigns();
      Check.due("size of new row " + row, x.at(row, -1), 0);
      Check.due("byte 0 of new row " + row, x.at(row, 0), NONE);
      Check.due("clear new row " + row, x.clear(row), 0);
    }
  }

  private static void newObjectHasNothing() {
    Scene scene = new Scene(x -> { });
    for (int what = 0; what < 6; what++) {
      int asked = what;
      scene.still("count(" + what + ") of a new object", 0, x -> x.count(asked));
    }
    scene.still("no entries", NO, JointSigns::manyHold);
    scene.still("no SIGNERS", 0, JointSigns::noSigners);
    scene.still("no SIGNERS, no JOINT KEY", NO, x -> x.jointKey(0));
    scene.still("no SIGNER 0", BAD, x -> x.told(0, 0));
    scene.still("no SIGNERS, no SESSION", NO, x -> x.session(0));
    scene.still("no SESSION", NO, x -> x.about(0, 0));
  }

  private static void newObjectBesideAUsedOne() {
    JointSigns used = new JointSigns();
    Stage.session(used, 5, 6);
    used.entry(0, 5, 8, 1);
    String nonce = Rows.read(used, 8);
    newObjectHasNothing();
    newRowsAreEmpty();
    Check.due("SIGNERS of the used one", used.count(0), 2);
    Check.due("SESSION of the used one", used.count(3), 1);
    Check.due("row of the used one", Rows.read(used, 8), nonce);
    Check.due("part of the used one", used.part(12, 0, 0), 32);
    Check.due("it holds", used.partHolds(0, 12), 1);
  }

  /** An object is used for at most 512 calls: the last of them is answered as all others. */
  private static void call512() {
    JointSigns x = new JointSigns();
    Rows.number(x, 0, 1);
    for (int calls = 5; calls < 510; calls++) {
      Check.due("call " + (calls + 1), x.at(0, calls % 32), calls % 32 == 31 ? 1 : 0);
    }
    Check.due("call 511", x.key(0, 0, 0), 32);
    Check.due("call 512", x.at(0, 31), 0x98);
  }

  // ---- promise 2: put

  private static void putTakes1To8() {
    for (int n = 1; n <= 8; n++) {
      int size = n;
      ROWS.changes("put " + n, 8 + n, 0, x -> x.put(3, size, -1), "row 3");
    }
  }

  private static void putTakesNoOtherSize() {
    ROWS.bad("put of a size", new int[] {0, 9, -1, 10, 16, 257, MIN, MAX}, (x, a) -> x.put(3, a[0], -1));
  }

  private static void putTakesTheLowestBytes() {
    long[] values = {0, 1, -1, 0xff, 0x100, 0x8070605040302010L, Long.MIN_VALUE, Long.MAX_VALUE, 1L << 32, -256};
    for (long v : values) {
      for (int n = 1; n <= 8; n++) {
        JointSigns x = new JointSigns();
        x.put(9, 1, 7);
        Check.due("put " + n + " of " + v, x.put(9, n, v), n + 1);
        String all = String.format("%016x", v);
        Check.due("bytes of " + v, Rows.read(x, 9), "07" + all.substring(16 - 2 * n));
      }
    }
  }

  private static void putUpTo100() {
    for (int n = 1; n <= 8; n++) {
      int size = n;
      Scene scene = new Scene(x -> Rows.size(x, 3, 100 - size));
      scene.changes((100 - n) + " and " + n, 100, 0, x -> x.put(3, size, 5), "row 3");
      JointSigns full = scene.behind(x -> x.put(3, size, 5)).open();
      Check.due("the last byte", full.at(3, 99), 5);
      Scene above = new Scene(x -> Rows.size(x, 3, 101 - size));
      above.still((101 - n) + " and " + n, FULL, x -> x.put(3, size, 5));
    }
  }

  private static void putIntoFull() {
    for (int n = 1; n <= 8; n++) {
      int size = n;
      ROWS.still("100 and " + n, FULL, x -> x.put(7, size, 5));
    }
    ROWS.changes("another row is not full", 51, 0, x -> x.put(4, 1, 5), "row 4");
  }

  private static void putRefusesTheFirstOfSeveral() {
    ROWS.still("no size, and full", BAD, x -> x.put(7, 9, 5));
    ROWS.still("no size, and full", BAD, x -> x.put(7, 0, 5));
  }

  private static void putRows() {
    ROWS.rows("put", 9, new int[] {3}, new int[] {0}, 0, (x, a) -> x.put(a[0], 1, 5));
  }

  // ---- promise 3: clear

  private static void clearTellsHowMany() {
    int[] sizes = {0, 1, 8, 50, 50, 99, 100};
    for (int i = 0; i < sizes.length; i++) {
      int row = i + 1;
      String[] changed = sizes[i] == 0 ? new String[0] : new String[] {"row " + row};
      ROWS.changes("clear of " + sizes[i], sizes[i], 0, x -> x.clear(row), changed);
      JointSigns x = ROWS.open();
      x.clear(row);
      Check.due("clear again", x.clear(row), 0);
      Check.due("nothing is there", x.at(row, 0), NONE);
      Check.due("what comes then is the first", x.put(row, 1, 200), 1);
      Check.due("its byte", x.at(row, 0), 200);
    }
  }

  private static void clearRows() {
    ROWS.rows("clear", 8, new int[] {3}, new int[] {0}, 0, (x, a) -> x.clear(a[0]));
  }

  // ---- promise 4: at

  private static void atFirstAndLast() {
    JointSigns x = new JointSigns();
    Rows.fill(x, 3, "007f80ff");
    int[] bytes = {0, 127, 128, 255};
    for (int i = 0; i < 4; i++) {
      Check.due("byte " + i, x.at(3, i), bytes[i]);
    }
    ROWS.still("the first of 100", 3, y -> y.at(7, 0));
    ROWS.still("the last of 100", (99 * 37 + 3) & 255, y -> y.at(7, 99));
    ROWS.still("the one of one", 3, y -> y.at(2, 0));
  }

  private static void atSize() {
    int[] sizes = {0, 1, 8, 50, 50, 99, 100};
    for (int i = 0; i < sizes.length; i++) {
      int row = i + 1;
      ROWS.still("how many", sizes[i], x -> x.at(row, -1));
    }
  }

  private static void atBehindTheLast() {
    ROWS.still("the first of none", NONE, x -> x.at(1, 0));
    ROWS.still("the second of one", NONE, x -> x.at(2, 1));
    ROWS.still("the ninth of eight", NONE, x -> x.at(3, 8));
    ROWS.still("the last of 100 in a row of 99", NONE, x -> x.at(6, 99));
    int[] places = {100, 101, 127, 128, 255, 256, 65536, MAX};
    for (int i : places) {
      ROWS.still("byte " + i + " of 100", NONE, x -> x.at(7, i));
    }
  }

  private static void atBelow() {
    ROWS.bad("at", new int[] {-2, -3, -100, MIN}, (x, a) -> x.at(7, a[0]));
    ROWS.bad("at of an empty row", new int[] {-2, MIN}, (x, a) -> x.at(1, a[0]));
  }

  private static void atRows() {
    ROWS.rows("at", 3, new int[] {3}, new int[] {0}, -1, (x, a) -> x.at(a[0], 0));
    ROWS.rows("size", 8, new int[] {3}, new int[] {0}, -1, (x, a) -> x.at(a[0], -1));
  }

  // ---- promise 5: bend

  private static void bendMasks() {
    for (int mask = 1; mask <= 255; mask++) {
      JointSigns x = ROWS.open();
      Check.due("bend by " + mask, x.bend(7, 4, mask), (4 * 37 + 3) ^ mask);
      Check.due("the byte then", x.at(7, 4), (4 * 37 + 3) ^ mask);
      Check.due("and back", x.bend(7, 4, mask), 4 * 37 + 3);
    }
    ROWS.bad("bend by mask", new int[] {0, 256, -1, 257, 511, -256, MIN, MAX}, (x, a) -> x.bend(7, 4, a[0]));
  }

  private static void bendPlaces() {
    ROWS.changes("the first of 100", 2, 0, x -> x.bend(7, 0, 1), "row 7");
    ROWS.changes("the last of 100", ((99 * 37 + 3) & 255) ^ 128, 0, x -> x.bend(7, 99, 128), "row 7");
    ROWS.changes("the one of one", 252, 0, x -> x.bend(2, 0, 255), "row 2");
    ROWS.bad("bend of 100", new int[] {-1, 100, 101, MIN, MAX}, (x, a) -> x.bend(7, a[0], 1));
    ROWS.bad("bend of 8", new int[] {-1, 8, 9, 99}, (x, a) -> x.bend(3, a[0], 1));
    ROWS.bad("bend of one", new int[] {-1, 1}, (x, a) -> x.bend(2, a[0], 1));
    ROWS.bad("bend of none", new int[] {-1, 0, 1}, (x, a) -> x.bend(1, a[0], 1));
  }

  private static void bendNothingElse() {
    JointSigns x = ROWS.open();
    x.bend(3, 3, 255);
    byte[] bytes = Rows.pattern(8);
    bytes[3] ^= -1;
    Check.due("the other bytes", Rows.read(x, 3), Rows.hex(bytes));
  }

  private static void bendRows() {
    ROWS.rows("bend", 2, new int[] {3}, new int[] {0}, 0, (x, a) -> x.bend(a[0], 0, 1));
  }

  // ---- promise 6: copy

  private static void copyOfOne() {
    ROWS.changes("the bytes of one", 8, 0, x -> x.copy(12, 3, -1), "row 12");
    ROWS.changes("100 of one", 100, 0, x -> x.copy(12, 7, -1), "row 12");
    ROWS.changes("no bytes of one", 0, 0, x -> x.copy(3, 1, -1), "row 3");
    ROWS.still("no bytes for none", 0, x -> x.copy(12, 1, -1));
  }

  private static void copyMore() {
    ROWS.bad("copy with more", new int[] {-2, 16, 17, MIN, MAX}, (x, a) -> x.copy(12, 3, a[0]));
    int[] sizes = {0, 0, 1, 8, 50, 50};
    for (int i = 0; i < sizes.length; i++) {
      int more = i;
      Check.due("with row " + i, ROWS.open().copy(12, 3, more), 8 + sizes[i]);
      Check.due("behind row " + i, ROWS.open().copy(12, more, 3), 8 + sizes[i]);
    }
    JointSigns x = ROWS.open();
    x.copy(12, 2, 3);
    Check.due("one behind another", Rows.read(x, 12), "03" + Rows.hex(Rows.pattern(8)));
  }

  private static void copyUpTo100() {
    int[][] pairs = {{4, 5}, {6, 2}, {2, 6}, {7, 1}, {1, 7}, {4, 4}};
    for (int[] pair : pairs) {
      ROWS.changes("100 in all", 100, 0, x -> x.copy(12, pair[0], pair[1]), "row 12");
      JointSigns x = ROWS.open();
      String all = Rows.read(x, pair[0]) + Rows.read(x, pair[1]);
      x.copy(12, pair[0], pair[1]);
      Check.due("all 100", Rows.read(x, 12), all);
    }
  }

  private static void copyAbove100() {
    int[][] pairs = {{7, 2}, {2, 7}, {6, 3}, {3, 6}, {6, 6}, {7, 7}, {7, 4}};
    for (int[] pair : pairs) {
      ROWS.still("above 100, to an empty row", FULL, x -> x.copy(12, pair[0], pair[1]));
      ROWS.still("above 100, to its own first", FULL, x -> x.copy(pair[0], pair[0], pair[1]));
      ROWS.still("above 100, to its own second", FULL, x -> x.copy(pair[1], pair[0], pair[1]));
    }
    Scene scene = ROWS.behind(x -> Rows.size(x, 12, 51));
    scene.still("51 and 50", FULL, x -> x.copy(13, 12, 4));
    scene.still("50 and 51", FULL, x -> x.copy(13, 4, 12));
  }

  private static void copyShorter() {
    JointSigns x = ROWS.open();
    Check.due("one byte for 100", x.copy(7, 2, -1), 1);
    Check.due("nothing behind it", x.at(7, 1), NONE);
    Check.due("like the other", x.same(7, 2), 1);
    Check.due("the other stays", x.at(2, -1), 1);
  }

  private static void copyOntoItself() {
    String one = Rows.hex(Rows.pattern(8));
    String two = Rows.hex(Rows.pattern(1));
    int[][] calls = {{3, 3, 2}, {3, 2, 3}, {3, 3, 3}, {3, 3, -1}, {3, 3, 1}, {3, 1, 3}};
    String[] wanted = {one + two, two + one, one + one, one, one, one};
    for (int i = 0; i < calls.length; i++) {
      JointSigns x = ROWS.open();
      Check.due("onto itself", x.copy(calls[i][0], calls[i][1], calls[i][2]), wanted[i].length() / 2);
      Check.due("onto itself", Rows.read(x, 3), wanted[i]);
    }
  }

  private static void copyRows() {
    ROWS.becomes("copy", 9, new int[] {12, 3, 2}, new int[] {0, 1}, 0, (x, a) -> x.copy(a[0], a[1], a[2]));
    JointSigns x = ROWS.open();
    x.put(15, 2, 0x0102);
    Check.due("more is row 15", x.copy(12, 2, 15), 3);
    Check.due("more is row 0", x.copy(12, 2, 0), 1);
    ROWS.still("no row, and above 100", BAD, y -> y.copy(16, 7, 7));
    ROWS.still("no row to take, and above 100", BAD, y -> y.copy(12, 16, 7));
    ROWS.still("no row behind, and 100", BAD, y -> y.copy(12, 7, 16));
  }

  // ---- promise 7: same

  private static void sameSizes() {
    ROWS.still("both empty", 1, x -> x.same(0, 1));
    ROWS.still("itself, empty", 1, x -> x.same(1, 1));
    ROWS.still("itself, 100", 1, x -> x.same(7, 7));
    ROWS.still("both 50", 1, x -> x.same(4, 5));
    ROWS.still("one more", 0, x -> x.same(6, 7));
    ROWS.still("one less", 0, x -> x.same(7, 6));
    ROWS.still("none and one", 0, x -> x.same(1, 2));
    ROWS.still("one and none", 0, x -> x.same(2, 1));
    Scene emptied = ROWS.behind(x -> x.clear(7));
    emptied.still("emptied and empty", 1, x -> x.same(7, 1));
    Scene zero = ROWS.behind(x -> x.put(1, 1, 0));
    zero.still("a zero and nothing", 0, x -> x.same(1, 0));
  }

  private static void sameBytes() {
    Scene copied = ROWS.behind(x -> x.copy(12, 7, -1));
    copied.still("100 alike", 1, x -> x.same(12, 7));
    int[] places = {0, 1, 50, 98, 99};
    for (int i : places) {
      Scene bent = copied.behind(x -> x.bend(12, i, 128));
      bent.still("byte " + i + " is another", 0, x -> x.same(12, 7));
      bent.still("byte " + i + " is another", 0, x -> x.same(7, 12));
    }
  }

  private static void sameRows() {
    ROWS.rows("same", 1, new int[] {4, 5}, new int[] {0, 1}, -1, (x, a) -> x.same(a[0], a[1]));
  }

  // ---- promise 8: hash

  private static void hashTags() {
    for (int tag = -1; tag <= 7; tag++) {
      int by = tag;
      ROWS.changes("hash by " + tag, 32, 0, x -> x.hash(12, by, 3), "row 12");
    }
    ROWS.bad("hash by", new int[] {-2, 8, -3, 9, 16, MIN, MAX}, (x, a) -> x.hash(12, a[0], 3));
  }

  private static void hashSizes() {
    byte[] all = Rows.pattern(100);
    for (int size = 0; size <= 100; size++) {
      JointSigns x = new JointSigns();
      Rows.size(x, 3, size);
      byte[] bytes = Arrays.copyOf(all, size);
      for (int tag = -1; tag <= 7; tag++) {
        Check.due("hash of " + size, x.hash(12, tag, 3), 32);
        byte[] want = tag == -1 ? Model.digest(bytes) : Model.digestBy(tag, bytes);
        Check.due("hash by " + tag + " of " + size + " bytes", Rows.read(x, 12), Rows.hex(want));
      }
    }
  }

  private static void hashOntoItself() {
    for (int row = 0; row < 8; row++) {
      int own = row;
      ROWS.changes("onto itself", 32, 0, x -> x.hash(own, 0, own), "row " + row);
      JointSigns x = ROWS.open();
      x.hash(12, 0, row);
      x.hash(row, 0, row);
      Check.due("the same digest", x.same(12, row), 1);
    }
  }

  private static void hashRows() {
    ROWS.becomes("hash", 32, new int[] {12, 3}, new int[] {0, 1}, 0, (x, a) -> x.hash(a[0], 2, a[1]));
  }

  /** None of these takes WORK: they are answered where no WORK is left. */
  private static void withAllWorkDone() {
    JointSigns x = ROWS.spent().open();
    Check.due("put", x.put(12, 2, 0x0102), 2);
    Check.due("at", x.at(12, 1), 2);
    Check.due("bend", x.bend(12, 1, 1), 3);
    Check.due("copy", x.copy(13, 12, 12), 4);
    Check.due("same", x.same(12, 13), 0);
    Check.due("hash", x.hash(12, 7, 13), 32);
    Check.due("clear", x.clear(12), 32);
    Check.due("WORK", x.count(5), Scene.MOST_WORK);
  }
}
