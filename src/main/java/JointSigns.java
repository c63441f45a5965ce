/*
 * Signatures on a curve over a great prime, by one and by several together. All that a call works with
 * is made in the constructor and used again, as what calls make is never given back.
 */
public final class JointSigns {
  public static final int BAD = -1, NO = -2, FULL = -3, NONE = -4, SPENT = -5;

  private static final int ROWS = 16, ROOM = 100, ENTRIES = 4, SHORT = 40, MOST_WORK = 48;
  private static final long HIGHEST_FACTOR = 1L << 62;

  private final Bytes[] rows = new Bytes[ROWS];
  // Answers are made here first: the row they go to may be one that they are made from.
  private final Bytes made = new Bytes(ROOM);
  private final Sha sha = new Sha();
  private final Single single = new Single(sha, new Curve());
  private final Group group = new Group(sha, single);
  private final Entry[] entries = new Entry[ENTRIES];
  private int entryCount = 0;
  private int work = 0;

  public JointSigns() {
    for (int i = 0; i < ROWS; i++) {
      rows[i] = new Bytes(ROOM);
    }
    for (int i = 0; i < ENTRIES; i++) {
      entries[i] = new Entry();
    }
  }

  // ---- rows

  public int put(int row, int n, long v) {
    if (!isRow(row) || n < 1 || n > 8) {
      return BAD;
    }
    if (rows[row].length + n > ROOM) {
      return FULL;
    }
    rows[row].addNumber(v, n);
    return rows[row].length;
  }

  public int clear(int row) {
    if (!isRow(row)) {
      return BAD;
    }
    int had = rows[row].length;
    rows[row].empty();
    return had;
  }

  public int at(int row, int i) {
    if (!isRow(row) || i < -1) {
      return BAD;
    }
    if (i == -1) {
      return rows[row].length;
    }
    return i < rows[row].length ? rows[row].get(i) : NONE;
  }

  public int bend(int row, int i, int mask) {
    if (!isRow(row) || i < 0 || i >= rows[row].length || mask < 1 || mask > 255) {
      return BAD;
    }
    rows[row].turn(i, mask);
    return rows[row].get(i);
  }

  public int copy(int row, int from, int more) {
    if (!areRows(row, from) || (more != -1 && !isRow(more))) {
      return BAD;
    }
    int behind = more == -1 ? 0 : rows[more].length;
    if (rows[from].length + behind > ROOM) {
      return FULL;
    }
    made.become(rows[from]);
    if (more != -1) {
      made.addAll(rows[more]);
    }
    return answerIn(row);
  }

  public int same(int row, int other) {
    if (!areRows(row, other)) {
      return BAD;
    }
    return rows[row].isLike(rows[other]) ? 1 : 0;
  }

  public int hash(int row, int tag, int from) {
    if (!areRows(row, from) || tag < Sha.PLAIN || tag > Sha.LAST_TAG) {
      return BAD;
    }
    sha.beginBy(tag);
    sha.takeAll(rows[from]);
    sha.finish(made);
    return answerIn(row);
  }

  // ---- one

  public int key(int to, int secret, int form) {
    if (!areRows(to, secret) || form < 0 || form > 1) {
      return BAD;
    }
    if (!single.takeSecret(rows[secret])) {
      return NO;
    }
    if (wouldPass(1)) {
      return SPENT;
    }
    work += 1;
    single.findOwn();
    made.empty();
    made.addPart(single.own, 1 - form, 32 + form);
    return answerIn(to);
  }

  public int sign(int to, int secret, int m, int a) {
    if (!areRows(to, secret) || !areRows(m, a)) {
      return BAD;
    }
    if (!single.takeSecret(rows[secret]) || rows[a].length != 32) {
      return NO;
    }
    if (wouldPass(2)) {
      return SPENT;
    }
    // All of it ahead, as the document tells no other amount for a signature that can not be.
    work += 2;
    single.findOwn();
    if (!single.drawNonce(rows[m], rows[a])) {
      return NO;
    }
    single.makeSignature(rows[m], made);
    return answerIn(to);
  }

  public int holds(int key, int m, int s) {
    if (!areRows(key, m) || !isRow(s)) {
      return BAD;
    }
    if (!single.canJudge(rows[key], rows[s])) {
      return 0;
    }
    if (wouldPass(2)) {
      return SPENT;
    }
    work += 2;
    return single.judge(rows[key], rows[m], rows[s]) ? 1 : 0;
  }

  public int entry(int key, int m, int s, long a) {
    if (!areRows(key, m) || !isRow(s) || a < 1 || a > (entryCount == 0 ? 1 : HIGHEST_FACTOR)) {
      return BAD;
    }
    if (rows[key].length != 32 || rows[s].length != 64 || rows[m].length > SHORT) {
      return NO;
    }
    if (entryCount >= ENTRIES) {
      return FULL;
    }
    entries[entryCount].become(rows[key], rows[m], rows[s], a);
    entryCount++;
    return entryCount;
  }

  public int manyHold() {
    if (entryCount == 0) {
      return NO;
    }
    boolean ready = true;
    for (int i = 0; i < entryCount && i < ENTRIES; i++) {
      ready = ready && single.canJoin(entries[i]);
    }
    int cost = ready ? 1 + 2 * entryCount : 0;
    if (wouldPass(cost)) {
      return SPENT;
    }
    work += cost;
    boolean hold = ready && single.judgeMany(entries, entryCount);
    entryCount = 0;
    return hold ? 1 : 0;
  }

  // ---- several

  public int signer(int row) {
    if (!isRow(row)) {
      return BAD;
    }
    if (!group.canRead(rows[row])) {
      return NO;
    }
    if (group.isFull()) {
      return FULL;
    }
    group.addMember(rows[row]);
    return group.size;
  }

  public int noSigners() {
    int had = group.size;
    group.dissolve();
    return had;
  }

  public int jointKey(int to) {
    if (!isRow(to)) {
      return BAD;
    }
    if (group.size == 0) {
      return NO;
    }
    if (wouldPass(group.size)) {
      return SPENT;
    }
    work += group.size;
    if (!group.joinKeys()) {
      return NO;
    }
    made.become(group.jointKey);
    return answerIn(to);
  }

  public int nonce(int to, int j, int secret, int z, int m) {
    if (!areRows(to, secret) || !areRows(z, m) || !group.hasMember(j)) {
      return BAD;
    }
    if (!single.takeSecret(rows[secret]) || rows[z].length != 32 || rows[m].length > SHORT) {
      return NO;
    }
    if (wouldPass(3 + group.size)) {
      return SPENT;
    }
    work += 1;
    single.findOwn();
    if (!group.isOwn(j)) {
      return NO;
    }
    work += group.size;
    if (!group.joinKeys()) {
      return NO;
    }
    // All of it ahead, as the document tells no other amount for a nonce that can not be.
    work += 2;
    if (!group.drawNonce(j, rows[z], rows[m])) {
      return NO;
    }
    group.tellNonce(j, made);
    return answerIn(to);
  }

  public int told(int j, int row) {
    if (!isRow(row) || !group.hasMember(j)) {
      return BAD;
    }
    return group.hear(j, rows[row]) ? 1 : NO;
  }

  public int session(int m) {
    if (!isRow(m)) {
      return BAD;
    }
    if (rows[m].length > SHORT || group.size == 0 || group.countTold() < group.size) {
      return NO;
    }
    if (wouldPass(1 + group.size)) {
      return SPENT;
    }
    work += group.size;
    if (!group.joinKeys()) {
      return NO;
    }
    work += 1;
    group.open(rows[m]);
    return 1;
  }

  public int about(int to, int what) {
    if (!isRow(to) || what < 0 || what > 3) {
      return BAD;
    }
    if (!group.inSession) {
      return NO;
    }
    group.describe(what, made);
    return answerIn(to);
  }

  public int part(int to, int j, int secret) {
    if (!areRows(to, secret) || !group.hasMember(j)) {
      return BAD;
    }
    if (!group.inSession || !single.takeSecret(rows[secret]) || !group.hasToldNonce(j)) {
      return NO;
    }
    if (wouldPass(1)) {
      return SPENT;
    }
    work += 1;
    single.findOwn();
    if (!group.isOwn(j)) {
      return NO;
    }
    group.makePart(j, made);
    return answerIn(to);
  }

  public int partHolds(int j, int row) {
    if (!isRow(row) || !group.hasMember(j)) {
      return BAD;
    }
    if (!group.inSession || rows[row].length != 32) {
      return NO;
    }
    if (!group.takePart(rows[row])) {
      return 0;
    }
    if (wouldPass(3)) {
      return SPENT;
    }
    work += 3;
    return group.judgePart(j) ? 1 : 0;
  }

  public int together(int to, int from) {
    if (!areRows(to, from) || from + group.size > ROWS) {
      return BAD;
    }
    if (!group.inSession) {
      return NO;
    }
    group.beginSum();
    for (int i = from; i < from + group.size && i < ROWS; i++) {
      if (rows[i].length != 32 || !group.takePart(rows[i])) {
        return NO;
      }
      group.addToSum();
    }
    group.tellSum(made);
    return answerIn(to);
  }

  public int count(int what) {
    switch (what) {
      case 0: return group.size;
      case 1: return group.countNonces();
      case 2: return group.countTold();
      case 3: return group.inSession ? 1 : 0;
      case 4: return entryCount;
      case 5: return work;
      default: return BAD;
    }
  }

  private static boolean isRow(int row) {
    return row >= 0 && row < ROWS;
  }

  private static boolean areRows(int row, int other) {
    return isRow(row) && isRow(other);
  }

  private boolean wouldPass(int cost) {
    return work + cost > MOST_WORK;
  }

  private int answerIn(int row) {
    if (isRow(row)) {
      rows[row].become(made);
    }
    return made.length;
  }

  /* Bytes in order, never more than there is room for. */
  private static final class Bytes {
    private final byte[] held;
    int length = 0;

    Bytes(int room) {
      held = new byte[Math.max(room, 0)];
    }

    int get(int i) {
      return i >= 0 && i < held.length ? held[i] & 255 : 0;
    }

    void turn(int i, int mask) {
      if (i >= 0 && i < held.length) {
        held[i] = (byte) (held[i] ^ mask);
      }
    }

    void empty() {
      length = 0;
    }

    void add(int value) {
      if (length >= 0 && length < held.length) {
        held[length] = (byte) value;
        length++;
      }
    }

    void addNumber(long v, int n) {
      for (int i = n - 1; i >= 0; i--) {
        add((int) (v >>> (8 * i)));
      }
    }

    void addPart(Bytes from, int start, int n) {
      for (int i = 0; i < n; i++) {
        add(from.get(start + i));
      }
    }

    void addAll(Bytes from) {
      addPart(from, 0, from.length);
    }

    void become(Bytes from) {
      empty();
      addAll(from);
    }

    /* The number that n bytes (8 at most) from a place on are. */
    long number(int start, int n) {
      long v = 0;
      for (int i = 0; i < n; i++) {
        v = (v << 8) | get(start + i);
      }
      return v;
    }

    boolean isLike(Bytes other) {
      boolean like = length == other.length;
      for (int i = 0; like && i < length; i++) {
        like = get(i) == other.get(i);
      }
      return like;
    }
  }

  /* SHA-256, plain or behind a tag. */
  private static final class Sha {
    static final int PLAIN = -1, AUX = 0, NONCE = 1, CHALLENGE = 2, KEY_LIST = 3, KEY_WEIGHT = 4;
    static final int JOINT_AUX = 5, JOINT_NONCE = 6, NONCE_WEIGHT = 7, LAST_TAG = 7;

    private static final int[] START = {
      0x6a09e667, 0xbb67ae85, 0x3c6ef372, 0xa54ff53a, 0x510e527f, 0x9b05688c, 0x1f83d9ab, 0x5be0cd19
    };
    private static final int[] ROUND = {
      0x428a2f98, 0x71374491, 0xb5c0fbcf, 0xe9b5dba5, 0x3956c25b, 0x59f111f1, 0x923f82a4, 0xab1c5ed5,
      0xd807aa98, 0x12835b01, 0x243185be, 0x550c7dc3, 0x72be5d74, 0x80deb1fe, 0x9bdc06a7, 0xc19bf174,
      0xe49b69c1, 0xefbe4786, 0x0fc19dc6, 0x240ca1cc, 0x2de92c6f, 0x4a7484aa, 0x5cb0a9dc, 0x76f988da,
      0x983e5152, 0xa831c66d, 0xb00327c8, 0xbf597fc7, 0xc6e00bf3, 0xd5a79147, 0x06ca6351, 0x14292967,
      0x27b70a85, 0x2e1b2138, 0x4d2c6dfc, 0x53380d13, 0x650a7354, 0x766a0abb, 0x81c2c92e, 0x92722c85,
      0xa2bfe8a1, 0xa81a664b, 0xc24b8b70, 0xc76c51a3, 0xd192e819, 0xd6990624, 0xf40e3585, 0x106aa070,
      0x19a4c116, 0x1e376c08, 0x2748774c, 0x34b0bcb5, 0x391c0cb3, 0x4ed8aa4a, 0x5b9cca4f, 0x682e6ff3,
      0x748f82ee, 0x78a5636f, 0x84c87814, 0x8cc70208, 0x90befffa, 0xa4506ceb, 0xbef9a3f7, 0xc67178f2
    };

    private final int[] state = new int[8];
    private final int[] words = new int[64];
    private final Bytes tagDigest = new Bytes(32);
    private long taken = 0;

    private static String tagName(int tag) {
      switch (tag) {
        case AUX: return "BIP0340/aux";
        case NONCE: return "BIP0340/nonce";
        case CHALLENGE: return "BIP0340/challenge";
        case KEY_LIST: return "KeyAgg list";
        case KEY_WEIGHT: return "KeyAgg coefficient";
        case JOINT_AUX: return "MuSig/aux";
        case JOINT_NONCE: return "MuSig/nonce";
        case NONCE_WEIGHT: return "MuSig/noncecoef";
        default: return "";
      }
    }

    void beginBy(int tag) {
      begin();
      if (tag == PLAIN) {
        return;
      }
      String name = tagName(tag);
      for (int i = 0; i < name.length(); i++) {
        take(name.charAt(i));
      }
      finish(tagDigest);
      begin();
      takeAll(tagDigest);
      takeAll(tagDigest);
    }

    private void begin() {
      taken = 0;
      for (int i = 0; i < 8; i++) {
        state[i] = START[i];
      }
    }

    void take(int value) {
      int word = (int) (taken >>> 2) & 15;
      words[word] = (words[word] << 8) | (value & 255);
      taken++;
      if ((taken & 63) == 0) {
        stir();
      }
    }

    void takePart(Bytes from, int start, int n) {
      for (int i = 0; i < n; i++) {
        take(from.get(start + i));
      }
    }

    void takeAll(Bytes from) {
      for (int i = 0; i < from.length; i++) {
        take(from.get(i));
      }
    }

    void takeNumber(long v) {
      for (int i = 7; i >= 0; i--) {
        take((int) (v >>> (8 * i)));
      }
    }

    void finish(Bytes out) {
      long bits = taken * 8;
      take(128);
      for (int i = 0; i < 64 && (taken & 63) != 56; i++) {
        take(0);
      }
      words[14] = (int) (bits >>> 32);
      words[15] = (int) bits;
      stir();
      out.empty();
      for (int i = 0; i < 8; i++) {
        out.addNumber(state[i], 4);
      }
    }

    private void stir() {
      for (int i = 16; i < 64; i++) {
        int x = words[i - 15];
        int y = words[i - 2];
        int low = (x >>> 7 | x << 25) ^ (x >>> 18 | x << 14) ^ (x >>> 3);
        int high = (y >>> 17 | y << 15) ^ (y >>> 19 | y << 13) ^ (y >>> 10);
        words[i] = words[i - 16] + low + words[i - 7] + high;
      }
      int a = state[0], b = state[1], c = state[2], d = state[3];
      int e = state[4], f = state[5], g = state[6], h = state[7];
      for (int i = 0; i < 64; i++) {
        int turnedE = (e >>> 6 | e << 26) ^ (e >>> 11 | e << 21) ^ (e >>> 25 | e << 7);
        int first = h + turnedE + ((e & f) ^ (~e & g)) + ROUND[i] + words[i];
        int turnedA = (a >>> 2 | a << 30) ^ (a >>> 13 | a << 19) ^ (a >>> 22 | a << 10);
        int second = turnedA + ((a & b) ^ (a & c) ^ (b & c));
        h = g;
        g = f;
        f = e;
        e = d + first;
        d = c;
        c = b;
        b = a;
        a = first + second;
      }
      state[0] += a;
      state[1] += b;
      state[2] += c;
      state[3] += d;
      state[4] += e;
      state[5] += f;
      state[6] += g;
      state[7] += h;
    }
  }

  /* A number below N: eight limbs of 32 bits, the lowest first, and a ninth for what runs over. */
  private static final class Scalar {
    private static final long LOW = 0xffffffffL;
    private static final long[] N = {
      0xd0364141L, 0xbfd25e8cL, 0xaf48a03bL, 0xbaaedce6L, 0xfffffffeL, 0xffffffffL, 0xffffffffL, 0xffffffffL
    };
    // 2^256 - N: what 2^256 is worth modulo N.
    private static final long[] GAP = {0x2fc9bebfL, 0x402da173L, 0x50b75fc4L, 0x45512319L, 1L};

    private final long[] limbs = new long[9];

    void become(Scalar from) {
      for (int i = 0; i < 9; i++) {
        limbs[i] = from.limbs[i];
      }
    }

    void becomeNumber(long v) {
      for (int i = 0; i < 9; i++) {
        limbs[i] = 0;
      }
      limbs[0] = v & LOW;
      limbs[1] = v >>> 32;
    }

    /* The 32 bytes from a place on; false, if they are not below N. */
    boolean take(Bytes from, int start) {
      for (int i = 0; i < 8; i++) {
        limbs[i] = from.number(start + 28 - 4 * i, 4);
      }
      limbs[8] = 0;
      return isBelowN();
    }

    void takeDigest(Bytes digest) {
      take(digest, 0);
      reduce();
    }

    void addTo(Bytes out) {
      for (int i = 7; i >= 0; i--) {
        out.addNumber(limbs[i], 4);
      }
    }

    boolean isZero() {
      long any = 0;
      for (int i = 0; i < 9; i++) {
        any |= limbs[i];
      }
      return any == 0;
    }

    /* Four bits, as a digit of base 16. */
    int digit(int i) {
      int limb = i >> 3;
      return limb >= 0 && limb < 8 ? (int) (limbs[limb] >>> (4 * (i & 7))) & 15 : 0;
    }

    void sum(Scalar a, Scalar b) {
      long carry = 0;
      for (int i = 0; i < 8; i++) {
        carry += a.limbs[i] + b.limbs[i];
        limbs[i] = carry & LOW;
        carry >>>= 32;
      }
      limbs[8] = carry;
      reduce();
    }

    void negate() {
      if (isZero()) {
        return;
      }
      long borrow = 0;
      for (int i = 0; i < 8; i++) {
        borrow += N[i] - limbs[i];
        limbs[i] = borrow & LOW;
        borrow >>= 32;
      }
    }

    /* Neither factor may be this number. */
    void product(Scalar a, Scalar b) {
      becomeNumber(0);
      for (int i = 7; i >= 0; i--) {
        for (int j = 8; j > 0; j--) {
          limbs[j] = limbs[j - 1];
        }
        limbs[0] = 0;
        reduce();
        addMultiple(a.limbs, b.limbs[i]);
        reduce();
      }
    }

    private boolean isBelowN() {
      for (int i = 7; i >= 0; i--) {
        if (limbs[i] != N[i]) {
          return limbs[i] < N[i];
        }
      }
      return false;
    }

    // A first fold of the ninth limb leaves 0 or 1 there; a second one leaves 0.
    private void reduce() {
      for (int i = 0; i < 2; i++) {
        long over = limbs[8];
        limbs[8] = 0;
        addMultiple(GAP, over);
      }
      if (!isBelowN()) {
        addMultiple(GAP, 1);
        limbs[8] = 0;
      }
    }

    private void addMultiple(long[] other, long factor) {
      long carry = 0;
      for (int i = 0; i < 8; i++) {
        carry += limbs[i];
        if (i < other.length) {
          carry += other[i] * factor;
        }
        limbs[i] = carry & LOW;
        carry >>>= 32;
      }
      limbs[8] += carry;
    }
  }

  /*
   * A number modulo P: nine limbs of 29 bits, the lowest first. Nine products of such limbs can be
   * added without running over. A limb may lie a little outside its 29 bits, and the number a little
   * outside 0 to 2^256; normalize() alone makes it the one below P.
   */
  private static final class Coordinate {
    private static final int WIDTH = 29, TOP_WIDTH = 24;
    private static final long MASK = (1L << 29) - 1, TOP_MASK = (1L << 24) - 1;
    // 2^256 modulo P is 2^32 + 977: 977, and 8 one limb up. 2^261 is 32 times that: 31264, and 256 one limb up.
    private static final long OVER_256 = 977, OVER_261 = 31264;
    private static final long TWO_LOW_LIMBS_OF_P = (1L << 58) - (1L << 32) - 977;

    private long l0, l1, l2, l3, l4, l5, l6, l7, l8;

    void become(Coordinate a) {
      l0 = a.l0;
      l1 = a.l1;
      l2 = a.l2;
      l3 = a.l3;
      l4 = a.l4;
      l5 = a.l5;
      l6 = a.l6;
      l7 = a.l7;
      l8 = a.l8;
    }

    /* 256 bits in four words, the highest first. */
    void becomeWords(long w3, long w2, long w1, long w0) {
      l0 = w0 & MASK;
      l1 = (w0 >>> 29) & MASK;
      l2 = ((w0 >>> 58) | (w1 << 6)) & MASK;
      l3 = (w1 >>> 23) & MASK;
      l4 = ((w1 >>> 52) | (w2 << 12)) & MASK;
      l5 = (w2 >>> 17) & MASK;
      l6 = ((w2 >>> 46) | (w3 << 18)) & MASK;
      l7 = (w3 >>> 11) & MASK;
      l8 = w3 >>> 40;
    }

    /* The 32 bytes from a place on; false, if they are not below P. */
    boolean take(Bytes from, int start) {
      becomeWords(from.number(start, 8), from.number(start + 8, 8), from.number(start + 16, 8),
          from.number(start + 24, 8));
      return isBelowP();
    }

    void addTo(Bytes out) {
      normalize();
      out.addNumber((l6 >>> 18) | (l7 << 11) | (l8 << 40), 8);
      out.addNumber((l4 >>> 12) | (l5 << 17) | (l6 << 46), 8);
      out.addNumber((l2 >>> 6) | (l3 << 23) | (l4 << 52), 8);
      out.addNumber(l0 | (l1 << 29) | (l2 << 58), 8);
    }

    boolean isZero() {
      normalize();
      return (l0 | l1 | l2 | l3 | l4 | l5 | l6 | l7 | l8) == 0;
    }

    boolean isOdd() {
      normalize();
      return (l0 & 1) == 1;
    }

    boolean isLike(Coordinate a) {
      normalize();
      a.normalize();
      long low = (l0 ^ a.l0) | (l1 ^ a.l1) | (l2 ^ a.l2) | (l3 ^ a.l3) | (l4 ^ a.l4);
      return (low | (l5 ^ a.l5) | (l6 ^ a.l6) | (l7 ^ a.l7) | (l8 ^ a.l8)) == 0;
    }

    void addSmall(int value) {
      l0 += value;
      carry();
    }

    void difference(Coordinate a, Coordinate b) {
      l0 = a.l0 - b.l0;
      l1 = a.l1 - b.l1;
      l2 = a.l2 - b.l2;
      l3 = a.l3 - b.l3;
      l4 = a.l4 - b.l4;
      l5 = a.l5 - b.l5;
      l6 = a.l6 - b.l6;
      l7 = a.l7 - b.l7;
      l8 = a.l8 - b.l8;
      carry();
    }

    /* A small factor (-8 to 8) times a. */
    void multiple(Coordinate a, int factor) {
      l0 = a.l0 * factor;
      l1 = a.l1 * factor;
      l2 = a.l2 * factor;
      l3 = a.l3 * factor;
      l4 = a.l4 * factor;
      l5 = a.l5 * factor;
      l6 = a.l6 * factor;
      l7 = a.l7 * factor;
      l8 = a.l8 * factor;
      carry();
    }

    void product(Coordinate a, Coordinate b) {
      long a0 = a.l0, a1 = a.l1, a2 = a.l2, a3 = a.l3, a4 = a.l4, a5 = a.l5, a6 = a.l6, a7 = a.l7, a8 = a.l8;
      long b0 = b.l0, b1 = b.l1, b2 = b.l2, b3 = b.l3, b4 = b.l4, b5 = b.l5, b6 = b.l6, b7 = b.l7, b8 = b.l8;
      // The nine upper columns come first: what they are worth modulo P is added to the nine lower ones.
      long t = a1 * b8 + a2 * b7 + a3 * b6 + a4 * b5 + a5 * b4 + a6 * b3 + a7 * b2 + a8 * b1;
      long h0 = t & MASK;
      t = (t >> WIDTH) + a2 * b8 + a3 * b7 + a4 * b6 + a5 * b5 + a6 * b4 + a7 * b3 + a8 * b2;
      long h1 = t & MASK;
      t = (t >> WIDTH) + a3 * b8 + a4 * b7 + a5 * b6 + a6 * b5 + a7 * b4 + a8 * b3;
      long h2 = t & MASK;
      t = (t >> WIDTH) + a4 * b8 + a5 * b7 + a6 * b6 + a7 * b5 + a8 * b4;
      long h3 = t & MASK;
      t = (t >> WIDTH) + a5 * b8 + a6 * b7 + a7 * b6 + a8 * b5;
      long h4 = t & MASK;
      t = (t >> WIDTH) + a6 * b8 + a7 * b7 + a8 * b6;
      long h5 = t & MASK;
      t = (t >> WIDTH) + a7 * b8 + a8 * b7;
      long h6 = t & MASK;
      t = (t >> WIDTH) + a8 * b8;
      long h7 = t & MASK;
      long h8 = t >> WIDTH;
      // Folded, h8 would reach the first upper column again.
      h0 += h8 << 8;
      t = a0 * b0 + OVER_261 * h0;
      l0 = t & MASK;
      t = (t >> WIDTH) + a0 * b1 + a1 * b0 + OVER_261 * h1 + (h0 << 8);
      l1 = t & MASK;
      t = (t >> WIDTH) + a0 * b2 + a1 * b1 + a2 * b0 + OVER_261 * h2 + (h1 << 8);
      l2 = t & MASK;
      t = (t >> WIDTH) + a0 * b3 + a1 * b2 + a2 * b1 + a3 * b0 + OVER_261 * h3 + (h2 << 8);
      l3 = t & MASK;
      t = (t >> WIDTH) + a0 * b4 + a1 * b3 + a2 * b2 + a3 * b1 + a4 * b0 + OVER_261 * h4 + (h3 << 8);
      l4 = t & MASK;
      t = (t >> WIDTH) + a0 * b5 + a1 * b4 + a2 * b3 + a3 * b2 + a4 * b1 + a5 * b0 + OVER_261 * h5 + (h4 << 8);
      l5 = t & MASK;
      t = (t >> WIDTH) + a0 * b6 + a1 * b5 + a2 * b4 + a3 * b3 + a4 * b2 + a5 * b1 + a6 * b0
          + OVER_261 * h6 + (h5 << 8);
      l6 = t & MASK;
      t = (t >> WIDTH) + a0 * b7 + a1 * b6 + a2 * b5 + a3 * b4 + a4 * b3 + a5 * b2 + a6 * b1 + a7 * b0
          + OVER_261 * h7 + (h6 << 8);
      l7 = t & MASK;
      t = (t >> WIDTH) + a0 * b8 + a1 * b7 + a2 * b6 + a3 * b5 + a4 * b4 + a5 * b3 + a6 * b2 + a7 * b1 + a8 * b0
          + OVER_261 * h8 + (h7 << 8);
      l8 = t & TOP_MASK;
      long over = t >> TOP_WIDTH;
      t = l0 + over * OVER_256;
      l0 = t & MASK;
      t = (t >> WIDTH) + l1 + (over << 3);
      l1 = t & MASK;
      l2 += t >> WIDTH;
    }

    /* The factor times a squared so many times; the factor may not be this number. */
    void raise(Coordinate a, int squarings, Coordinate factor) {
      become(a);
      for (int i = 0; i < squarings; i++) {
        product(this, this);
      }
      product(this, factor);
    }

    private void carry() {
      long over = l8 >> TOP_WIDTH;
      long t = l0 + over * OVER_256;
      l0 = t & MASK;
      t = (t >> WIDTH) + l1 + (over << 3);
      l1 = t & MASK;
      t = (t >> WIDTH) + l2;
      l2 = t & MASK;
      t = (t >> WIDTH) + l3;
      l3 = t & MASK;
      t = (t >> WIDTH) + l4;
      l4 = t & MASK;
      t = (t >> WIDTH) + l5;
      l5 = t & MASK;
      t = (t >> WIDTH) + l6;
      l6 = t & MASK;
      t = (t >> WIDTH) + l7;
      l7 = t & MASK;
      l8 = (l8 & TOP_MASK) + (t >> WIDTH);
    }

    // A first carry leaves the number within 2^256 of its place, a second one leaves it from 0 to 2^256.
    private void normalize() {
      carry();
      carry();
      if (isBelowP()) {
        return;
      }
      long low = (l0 | (l1 << WIDTH)) - TWO_LOW_LIMBS_OF_P;
      becomeWords(0, 0, 0, low);
    }

    private boolean isBelowP() {
      boolean full = (l2 & l3 & l4 & l5 & l6 & l7) == MASK && l8 == TOP_MASK;
      return !full || (l0 | (l1 << WIDTH)) < TWO_LOW_LIMBS_OF_P;
    }
  }

  /* Powers modulo P, for inverses and roots. */
  private static final class Powers {
    private final Coordinate x2 = new Coordinate(), x3 = new Coordinate(), x22 = new Coordinate();
    private final Coordinate x44 = new Coordinate(), x88 = new Coordinate(), run = new Coordinate();

    /*
     * a to the (P - 3) / 4. Times a it is a root of a, if there is one; its fourth power times a is the
     * inverse of a. The exponent is 223 ones, a zero, 22 ones, 00001011; a run of ones becomes longer by
     * squarings and one product.
     */
    void stem(Coordinate out, Coordinate a) {
      x2.raise(a, 1, a);
      x3.raise(x2, 1, a);
      run.raise(x3, 3, x3);
      run.raise(run, 3, x3);
      run.raise(run, 2, x2);
      x22.raise(run, 11, run);
      x44.raise(x22, 22, x22);
      x88.raise(x44, 44, x44);
      run.raise(x88, 88, x88);
      run.raise(run, 44, x44);
      run.raise(run, 3, x3);
      run.raise(run, 23, x22);
      run.raise(run, 5, a);
      run.raise(run, 3, x2);
      out.become(run);
    }
  }

  /* A point of the curve: x / z^2 and y / z^3, or nought. */
  private static final class Point {
    final Coordinate x = new Coordinate(), y = new Coordinate(), z = new Coordinate();
    boolean nought = true;

    void become(Point p) {
      x.become(p.x);
      y.become(p.y);
      z.become(p.z);
      nought = p.nought;
    }

    void negate() {
      y.multiple(y, -1);
    }

    /* Its 33 bytes; the point has been settled before. */
    void addTo(Bytes out) {
      if (nought) {
        for (int i = 0; i < 33; i++) {
          out.add(0);
        }
        return;
      }
      out.add(y.isOdd() ? 3 : 2);
      x.addTo(out);
    }
  }

  /* Sums and multiples of points, and points from bytes. */
  private static final class Curve {
    private static final int DIGITS = 64, BASE = 16;

    final Point generator = new Point();
    private final Point[] multiples = new Point[BASE];
    private final Powers powers = new Powers();
    private final Coordinate one = new Coordinate();
    private final Coordinate u = new Coordinate(), s = new Coordinate(), h = new Coordinate();
    private final Coordinate r = new Coordinate(), t = new Coordinate();

    Curve() {
      one.becomeWords(0, 0, 0, 1);
      for (int i = 0; i < BASE; i++) {
        multiples[i] = new Point();
      }
      generator.x.becomeWords(0x79be667ef9dcbbacL, 0x55a06295ce870b07L, 0x029bfcdb2dce28d9L, 0x59f2815b16f81798L);
      generator.y.becomeWords(0x483ada7726a3c465L, 0x5da4fbfc0e1108a8L, 0xfd17b448a6855419L, 0x9c47d08ffb10d4b8L);
      generator.z.become(one);
      generator.nought = false;
    }

    void twice(Point p) {
      if (p.nought) {
        return;
      }
      s.product(p.y, p.y);
      u.product(p.x, s);
      u.multiple(u, 4);
      s.product(s, s);
      s.multiple(s, 8);
      r.product(p.x, p.x);
      r.multiple(r, 3);
      p.z.product(p.z, p.y);
      p.z.multiple(p.z, 2);
      p.x.product(r, r);
      p.x.difference(p.x, u);
      p.x.difference(p.x, u);
      u.difference(u, p.x);
      u.product(u, r);
      p.y.difference(u, s);
    }

    /* p becomes p + q. */
    void plus(Point p, Point q) {
      if (q.nought) {
        return;
      }
      if (p.nought) {
        p.become(q);
        return;
      }
      t.product(q.z, q.z);
      u.product(p.x, t);
      s.product(p.y, t);
      s.product(s, q.z);
      t.product(p.z, p.z);
      h.product(q.x, t);
      h.difference(h, u);
      r.product(q.y, t);
      r.product(r, p.z);
      r.difference(r, s);
      if (h.isZero() && r.isZero()) {
        twice(p);
        return;
      }
      if (h.isZero()) {
        p.nought = true;
        return;
      }
      p.z.product(p.z, q.z);
      p.z.product(p.z, h);
      t.product(h, h);
      u.product(u, t);
      h.product(h, t);
      p.x.product(r, r);
      p.x.difference(p.x, h);
      p.x.difference(p.x, u);
      p.x.difference(p.x, u);
      u.difference(u, p.x);
      u.product(u, r);
      s.product(s, h);
      p.y.difference(u, s);
    }

    /* out becomes k times p; both may be one point. */
    void times(Point out, Point p, Scalar k) {
      multiples[1].become(p);
      for (int i = 2; i < BASE; i++) {
        multiples[i].become(multiples[i - 1]);
        plus(multiples[i], multiples[1]);
      }
      out.nought = true;
      for (int i = DIGITS - 1; i >= 0; i--) {
        for (int j = 0; j < 4; j++) {
          twice(out);
        }
        int digit = k.digit(i);
        if (digit > 0 && digit < BASE) {
          plus(out, multiples[digit]);
        }
      }
    }

    /* The same point, with z 1. */
    void settle(Point p) {
      if (p.nought) {
        return;
      }
      powers.stem(t, p.z);
      t.raise(t, 2, p.z);
      u.product(t, t);
      p.x.product(p.x, u);
      u.product(u, t);
      p.y.product(p.y, u);
      p.z.become(one);
    }

    /* The point with the x in 32 bytes and an even y; false, if there is none. */
    boolean lift(Point out, Bytes from, int start) {
      if (!out.x.take(from, start)) {
        return false;
      }
      t.product(out.x, out.x);
      t.product(t, out.x);
      t.addSmall(7);
      powers.stem(out.y, t);
      out.y.product(out.y, t);
      u.product(out.y, out.y);
      if (!u.isLike(t)) {
        return false;
      }
      if (out.y.isOdd()) {
        out.negate();
      }
      out.z.become(one);
      out.nought = false;
      return true;
    }

    /* The point that 33 bytes are; false, if they are none. */
    boolean read(Point out, Bytes from, int start) {
      int first = from.get(start);
      if (first != 2 && first != 3 || !lift(out, from, start + 1)) {
        return false;
      }
      if (first == 3) {
        out.negate();
      }
      return true;
    }
  }

  /* Key, message and signature, as they are to be judged with others. */
  private static final class Entry {
    final Bytes pubKey = new Bytes(32), message = new Bytes(SHORT), signature = new Bytes(64);
    final Scalar factor = new Scalar(), s = new Scalar();
    final Point c = new Point(), r = new Point();

    void become(Bytes key, Bytes m, Bytes sig, long a) {
      pubKey.become(key);
      message.become(m);
      signature.become(sig);
      factor.becomeNumber(a);
    }
  }

  /* What one signer does with a secret, and what anybody does to judge it. */
  private static final class Single {
    final Curve curve;
    final Scalar d = new Scalar();
    final Bytes own = new Bytes(33);
    final Bytes digest = new Bytes(32);

    private final Sha sha;
    private final Scalar k = new Scalar(), e = new Scalar(), s = new Scalar(), product = new Scalar();
    private final Point point = new Point(), other = new Point();
    private final Coordinate x = new Coordinate();
    private final Bytes plain = new Bytes(32);

    Single(Sha sha, Curve curve) {
      this.sha = sha;
      this.curve = curve;
    }

    boolean takeSecret(Bytes row) {
      return row.length == 32 && d.take(row, 0) && !d.isZero();
    }

    /* The 33 bytes of the secret's point. */
    void findOwn() {
      curve.times(point, curve.generator, d);
      curve.settle(point);
      own.empty();
      point.addTo(own);
    }

    /* The secret's bytes, turned by a digest of the seed, are put into the digest. */
    void hideSecret(int tag, Bytes seed) {
      sha.beginBy(tag);
      sha.takeAll(seed);
      sha.finish(digest);
      plain.empty();
      d.addTo(plain);
      for (int i = 0; i < 32; i++) {
        digest.turn(i, plain.get(i));
      }
    }

    boolean drawNonce(Bytes m, Bytes a) {
      if (own.get(0) == 3) {
        d.negate();
      }
      hideSecret(Sha.AUX, a);
      sha.beginBy(Sha.NONCE);
      sha.takeAll(digest);
      sha.takePart(own, 1, 32);
      sha.takeAll(m);
      sha.finish(digest);
      k.takeDigest(digest);
      return !k.isZero();
    }

    void makeSignature(Bytes m, Bytes out) {
      curve.times(point, curve.generator, k);
      curve.settle(point);
      if (point.y.isOdd()) {
        k.negate();
      }
      out.empty();
      point.x.addTo(out);
      challenge(e, out, own, 1, m);
      s.product(e, d);
      s.sum(s, k);
      s.addTo(out);
    }

    /* The first 32 bytes of one row, 32 of another, and the message. */
    void challenge(Scalar out, Bytes r, Bytes key, int keyStart, Bytes m) {
      sha.beginBy(Sha.CHALLENGE);
      sha.takePart(r, 0, 32);
      sha.takePart(key, keyStart, 32);
      sha.takeAll(m);
      sha.finish(digest);
      out.takeDigest(digest);
    }

    boolean canJudge(Bytes key, Bytes sig) {
      return key.length == 32 && sig.length == 64 && curve.lift(other, key, 0) && x.take(sig, 0) && s.take(sig, 32);
    }

    /* Of what canJudge() has read. */
    boolean judge(Bytes key, Bytes m, Bytes sig) {
      challenge(e, sig, key, 0, m);
      e.negate();
      curve.times(point, curve.generator, s);
      curve.times(other, other, e);
      curve.plus(point, other);
      curve.settle(point);
      return !point.nought && !point.y.isOdd() && point.x.isLike(x);
    }

    boolean canJoin(Entry entry) {
      return curve.lift(entry.c, entry.pubKey, 0) && curve.lift(entry.r, entry.signature, 0)
          && entry.s.take(entry.signature, 32);
    }

    /* Of entries that canJoin() has read. */
    boolean judgeMany(Entry[] entries, int n) {
      point.nought = true;
      s.becomeNumber(0);
      for (int i = 0; i < n && i < entries.length; i++) {
        Entry entry = entries[i];
        product.product(entry.factor, entry.s);
        s.sum(s, product);
        curve.times(other, entry.r, entry.factor);
        curve.plus(point, other);
        challenge(e, entry.signature, entry.pubKey, 0, entry.message);
        product.product(entry.factor, e);
        curve.times(other, entry.c, product);
        curve.plus(point, other);
      }
      s.negate();
      curve.times(other, curve.generator, s);
      curve.plus(point, other);
      return point.nought;
    }
  }

  /* One of several signers, the nonce it has here, and what it told of one. */
  private static final class Member {
    final Bytes pubKey = new Bytes(33);
    final Point point = new Point();
    final Scalar weight = new Scalar();

    boolean hasNonce = false;
    final Scalar k1 = new Scalar(), k2 = new Scalar();
    final Bytes nonceBytes = new Bytes(66);

    boolean hasTold = false;
    final Bytes toldBytes = new Bytes(66);
    final Point first = new Point(), second = new Point();
  }

  /* What several signers do together. */
  private static final class Group {
    private static final int MOST = 4;

    int size = 0;
    boolean inSession = false;
    final Bytes jointKey = new Bytes(32);

    private final Sha sha;
    private final Single single;
    private final Curve curve;
    private final Member[] members = new Member[MOST];
    private final Bytes digest = new Bytes(32), list = new Bytes(32);
    private final Bytes sums = new Bytes(66), rBytes = new Bytes(32);
    private final Scalar b = new Scalar(), e = new Scalar(), s = new Scalar(), t = new Scalar(), total = new Scalar();
    private final Point point = new Point(), other = new Point();
    private boolean jointOdd = false, rOdd = false;

    Group(Sha sha, Single single) {
      this.sha = sha;
      this.single = single;
      this.curve = single.curve;
      for (int i = 0; i < MOST; i++) {
        members[i] = new Member();
      }
    }

    boolean isFull() {
      return size >= MOST;
    }

    boolean hasMember(int j) {
      return j >= 0 && j < size && j < MOST;
    }

    boolean canRead(Bytes row) {
      return row.length == 33 && curve.read(point, row, 0);
    }

    /* By the bytes that canRead() has read. */
    void addMember(Bytes row) {
      if (size < 0 || isFull()) {
        return;
      }
      members[size].pubKey.become(row);
      members[size].point.become(point);
      size++;
      forgetNonces();
    }

    void dissolve() {
      size = 0;
      forgetNonces();
    }

    private void forgetNonces() {
      inSession = false;
      for (int i = 0; i < MOST; i++) {
        members[i].hasNonce = false;
        members[i].hasTold = false;
      }
    }

    int countNonces() {
      int n = 0;
      for (int i = 0; i < MOST; i++) {
        n += members[i].hasNonce ? 1 : 0;
      }
      return n;
    }

    int countTold() {
      int n = 0;
      for (int i = 0; i < MOST; i++) {
        n += members[i].hasTold ? 1 : 0;
      }
      return n;
    }

    /* False, if the sum of all keys is nought. */
    boolean joinKeys() {
      listKeys();
      int second = findSecond();
      point.nought = true;
      for (int i = 0; i < size && i < MOST; i++) {
        weigh(members[i], second);
        curve.times(other, members[i].point, members[i].weight);
        curve.plus(point, other);
      }
      if (point.nought) {
        return false;
      }
      curve.settle(point);
      jointOdd = point.y.isOdd();
      jointKey.empty();
      point.x.addTo(jointKey);
      return true;
    }

    private void listKeys() {
      sha.beginBy(Sha.KEY_LIST);
      for (int i = 0; i < size && i < MOST; i++) {
        sha.takeAll(members[i].pubKey);
      }
      sha.finish(list);
    }

    /* The first one that is not like the first of all; 0, if there is none. */
    private int findSecond() {
      for (int i = 1; i < size && i < MOST; i++) {
        if (!members[i].pubKey.isLike(members[0].pubKey)) {
          return i;
        }
      }
      return 0;
    }

    private void weigh(Member member, int second) {
      if (second > 0 && second < MOST && member.pubKey.isLike(members[second].pubKey)) {
        member.weight.becomeNumber(1);
        return;
      }
      sha.beginBy(Sha.KEY_WEIGHT);
      sha.takeAll(list);
      sha.takeAll(member.pubKey);
      sha.finish(digest);
      member.weight.takeDigest(digest);
    }

    /* Whether the secret that single has is this member's. */
    boolean isOwn(int j) {
      return hasMember(j) && members[j].pubKey.isLike(single.own);
    }

    /* The member keeps its old nonce, if the new one can not be. */
    boolean drawNonce(int j, Bytes z, Bytes m) {
      single.hideSecret(Sha.JOINT_AUX, z);
      drawHalf(s, 0, m);
      drawHalf(t, 1, m);
      if (!hasMember(j) || s.isZero() || t.isZero()) {
        return false;
      }
      members[j].k1.become(s);
      members[j].k2.become(t);
      members[j].hasNonce = true;
      return true;
    }

    private void drawHalf(Scalar out, int half, Bytes m) {
      sha.beginBy(Sha.JOINT_NONCE);
      sha.takeAll(single.digest);
      sha.take(33);
      sha.takeAll(single.own);
      sha.take(32);
      sha.takeAll(jointKey);
      sha.take(1);
      sha.takeNumber(m.length);
      sha.takeAll(m);
      for (int i = 0; i < 4; i++) {
        sha.take(0);
      }
      sha.take(half);
      sha.finish(digest);
      out.takeDigest(digest);
    }

    void tellNonce(int j, Bytes out) {
      if (!hasMember(j)) {
        return;
      }
      Member member = members[j];
      member.nonceBytes.empty();
      curve.times(point, curve.generator, member.k1);
      curve.settle(point);
      point.addTo(member.nonceBytes);
      curve.times(point, curve.generator, member.k2);
      curve.settle(point);
      point.addTo(member.nonceBytes);
      out.become(member.nonceBytes);
    }

    /* False, if the row is not two points. */
    boolean hear(int j, Bytes row) {
      if (!hasMember(j) || row.length != 66 || !curve.read(point, row, 0) || !curve.read(other, row, 33)) {
        return false;
      }
      Member member = members[j];
      member.first.become(point);
      member.second.become(other);
      member.toldBytes.become(row);
      member.hasTold = true;
      inSession = false;
      return true;
    }

    /* A session by the joint key that joinKeys() has made. */
    void open(Bytes m) {
      addNonces();
      sha.beginBy(Sha.NONCE_WEIGHT);
      sha.takeAll(sums);
      sha.takeAll(jointKey);
      sha.takeAll(m);
      sha.finish(digest);
      b.takeDigest(digest);
      curve.times(other, other, b);
      curve.plus(point, other);
      if (point.nought) {
        point.become(curve.generator);
      }
      curve.settle(point);
      rOdd = point.y.isOdd();
      rBytes.empty();
      point.x.addTo(rBytes);
      single.challenge(e, rBytes, jointKey, 0, m);
      inSession = true;
    }

    private void addNonces() {
      point.nought = true;
      other.nought = true;
      for (int i = 0; i < size && i < MOST; i++) {
        curve.plus(point, members[i].first);
        curve.plus(other, members[i].second);
      }
      curve.settle(point);
      curve.settle(other);
      sums.empty();
      point.addTo(sums);
      other.addTo(sums);
    }

    void describe(int what, Bytes out) {
      out.empty();
      switch (what) {
        case 0: out.addAll(sums); break;
        case 1: out.addAll(rBytes); break;
        case 2: e.addTo(out); break;
        case 3: b.addTo(out); break;
        default: break;
      }
    }

    boolean hasToldNonce(int j) {
      return hasMember(j) && members[j].hasNonce && members[j].nonceBytes.isLike(members[j].toldBytes);
    }

    /* The nonce goes with it: a second part by the same one would give the secret away. */
    void makePart(int j, Bytes out) {
      if (!hasMember(j)) {
        return;
      }
      Member member = members[j];
      s.product(b, member.k2);
      s.sum(s, member.k1);
      if (rOdd) {
        s.negate();
      }
      weighChallenge(member);
      total.product(t, single.d);
      s.sum(s, total);
      out.empty();
      s.addTo(out);
      member.hasNonce = false;
    }

    private void weighChallenge(Member member) {
      t.product(e, member.weight);
      if (jointOdd) {
        t.negate();
      }
    }

    /* False, if the part is not below N. */
    boolean takePart(Bytes row) {
      return s.take(row, 0);
    }

    /* Of the part that takePart() has read. */
    boolean judgePart(int j) {
      if (!hasMember(j)) {
        return false;
      }
      Member member = members[j];
      curve.times(point, member.second, b);
      curve.plus(point, member.first);
      if (rOdd) {
        point.negate();
      }
      weighChallenge(member);
      curve.times(other, member.point, t);
      curve.plus(point, other);
      s.negate();
      curve.times(other, curve.generator, s);
      curve.plus(point, other);
      return point.nought;
    }

    void beginSum() {
      total.becomeNumber(0);
    }

    void addToSum() {
      total.sum(total, s);
    }

    void tellSum(Bytes out) {
      out.become(rBytes);
      total.addTo(out);
    }
  }
}
