import java.math.BigInteger;
import java.nio.charset.StandardCharsets;
import java.security.MessageDigest;
import java.security.NoSuchAlgorithmException;
import java.util.ArrayList;
import java.util.Arrays;
import java.util.List;

/** The document once more: every call in its plainest form, on BigInteger and the Java library. */
final class Model {
  static final BigInteger P = new BigInteger("2").pow(256).subtract(new BigInteger("2").pow(32))
      .subtract(BigInteger.valueOf(977));
  static final BigInteger N = new BigInteger("2").pow(256)
      .subtract(new BigInteger("432420386565659656852420866394968145599"));
  static final String[] TAGS = {"BIP0340/aux", "BIP0340/nonce", "BIP0340/challenge", "KeyAgg list",
      "KeyAgg coefficient", "MuSig/aux", "MuSig/nonce", "MuSig/noncecoef"};
  static final Dot NOUGHT = new Dot(null, null);
  static final Dot G = lift(new BigInteger("79be667ef9dcbbac55a06295ce870b07029bfcdb2dce28d959f2815b16f81798", 16));

  /** What every digest is instead of its own, if it is any. */
  static byte[] forced = null;

  record Dot(BigInteger x, BigInteger y) {
    boolean nought() {
      return x == null;
    }

    boolean even() {
      return !y.testBit(0);
    }

    Dot minus() {
      return nought() ? this : new Dot(x, P.subtract(y));
    }

    Dot plus(Dot o) {
      if (nought() || o.nought()) {
        return nought() ? o : this;
      }
      BigInteger slope;
      if (!x.equals(o.x)) {
        slope = o.y.subtract(y).multiply(o.x.subtract(x).modInverse(P));
      } else if (y.equals(o.y)) {
        slope = x.multiply(x).multiply(BigInteger.valueOf(3)).multiply(y.add(y).modInverse(P));
      } else {
        return NOUGHT;
      }
      BigInteger sum = slope.multiply(slope).subtract(x).subtract(o.x).mod(P);
      return new Dot(sum, slope.multiply(x.subtract(sum)).subtract(y).mod(P));
    }

    Dot times(BigInteger k) {
      Dot sum = NOUGHT;
      for (int i = k.bitLength() - 1; i >= 0; i--) {
        sum = sum.plus(sum);
        sum = k.testBit(i) ? sum.plus(this) : sum;
      }
      return sum;
    }

    byte[] bytes() {
      return nought() ? new byte[33] : join(new byte[] {(byte) (even() ? 2 : 3)}, bytes32(x));
    }
  }

  record Proof(byte[] key, byte[] m, byte[] s, BigInteger a) {
  }

  static final class Signer {
    byte[] key;
    BigInteger k1;
    BigInteger k2;
    byte[] made;
    byte[] told;
  }

  static final class Session {
    byte[] sums;
    BigInteger b;
    BigInteger e;
    Dot r;
    Dot q;
  }

  final byte[][] rows = new byte[16][0];
  final List<Proof> proofs = new ArrayList<>();
  final List<Signer> signers = new ArrayList<>();
  Session session = null;
  int work = 0;

  // ---- bytes, digests, points

  static byte[] join(byte[]... parts) {
    int n = 0;
    for (byte[] part : parts) {
      n += part.length;
    }
    byte[] all = new byte[n];
    n = 0;
    for (byte[] part : parts) {
      System.arraycopy(part, 0, all, n, part.length);
      n += part.length;
    }
    return all;
  }

  static byte[] bytes32(BigInteger n) {
    byte[] raw = n.toByteArray();
    byte[] out = new byte[32];
    for (int i = 0; i < 32 && i < raw.length; i++) {
      out[31 - i] = raw[raw.length - 1 - i];
    }
    return out;
  }

  static BigInteger number(byte[] bytes, int from, int to) {
    return new BigInteger(1, Arrays.copyOfRange(bytes, from, to));
  }

  static BigInteger number(byte[] bytes) {
    return new BigInteger(1, bytes);
  }

  static byte[] digest(byte[] bytes) {
    if (forced != null) {
      return forced;
    }
    try {
      return MessageDigest.getInstance("SHA-256").digest(bytes);
    } catch (NoSuchAlgorithmException e) {
      throw new IllegalStateException(e);
    }
  }

  static byte[] digestBy(int tag, byte[]... bytes) {
    byte[] name = digest(TAGS[tag].getBytes(StandardCharsets.US_ASCII));
    return digest(join(name, name, join(bytes)));
  }

  static BigInteger numberBy(int tag, byte[]... bytes) {
    return number(digestBy(tag, bytes)).mod(N);
  }

  static Dot lift(BigInteger x) {
    if (x.compareTo(P) >= 0) {
      return null;
    }
    BigInteger square = x.pow(3).add(BigInteger.valueOf(7)).mod(P);
    BigInteger y = square.modPow(P.add(BigInteger.ONE).shiftRight(2), P);
    if (!y.multiply(y).mod(P).equals(square)) {
      return null;
    }
    return new Dot(x, y.testBit(0) ? P.subtract(y) : y);
  }

  static Dot readDot(byte[] bytes) {
    if (bytes.length != 33 || bytes[0] != 2 && bytes[0] != 3) {
      return null;
    }
    Dot dot = lift(number(bytes, 1, 33));
    return dot == null || bytes[0] == 2 ? dot : dot.minus();
  }

  static BigInteger secretOf(byte[] bytes) {
    BigInteger d = number(bytes);
    return bytes.length == 32 && d.signum() > 0 && d.compareTo(N) < 0 ? d : null;
  }

  static byte[] turned(byte[] bytes, byte[] by) {
    byte[] out = new byte[bytes.length];
    for (int i = 0; i < out.length; i++) {
      out[i] = (byte) (bytes[i] ^ by[i]);
    }
    return out;
  }

  private static boolean isRow(int... some) {
    for (int row : some) {
      if (row < 0 || row > 15) {
        return false;
      }
    }
    return true;
  }

  private boolean spent(int cost) {
    return work + cost > 48;
  }

  private int become(int row, byte[]... bytes) {
    rows[row] = join(bytes);
    return rows[row].length;
  }

  // ---- rows

  int put(int row, int n, long v) {
    if (!isRow(row) || n < 1 || n > 8) {
      return -1;
    }
    if (rows[row].length + n > 100) {
      return -3;
    }
    byte[] bytes = new byte[n];
    for (int i = 0; i < n; i++) {
      bytes[n - 1 - i] = (byte) (v >> 8 * i);
    }
    return become(row, rows[row], bytes);
  }

  int clear(int row) {
    if (!isRow(row)) {
      return -1;
    }
    int had = rows[row].length;
    rows[row] = new byte[0];
    return had;
  }

  int at(int row, int i) {
    if (!isRow(row) || i < -1) {
      return -1;
    }
    if (i == -1) {
      return rows[row].length;
    }
    return i < rows[row].length ? rows[row][i] & 255 : -4;
  }

  int bend(int row, int i, int mask) {
    if (!isRow(row) || i < 0 || i >= rows[row].length || mask < 1 || mask > 255) {
      return -1;
    }
    rows[row] = rows[row].clone();
    rows[row][i] ^= (byte) mask;
    return rows[row][i] & 255;
  }

  int copy(int row, int from, int more) {
    if (!isRow(row, from) || more != -1 && !isRow(more)) {
      return -1;
    }
    byte[] behind = more == -1 ? new byte[0] : rows[more];
    return rows[from].length + behind.length > 100 ? -3 : become(row, rows[from], behind);
  }

  int same(int row, int other) {
    return !isRow(row, other) ? -1 : Arrays.equals(rows[row], rows[other]) ? 1 : 0;
  }

  int hash(int row, int tag, int from) {
    if (!isRow(row, from) || tag < -1 || tag > 7) {
      return -1;
    }
    return become(row, tag == -1 ? digest(rows[from]) : digestBy(tag, rows[from]));
  }

  // ---- one

  int key(int to, int secret, int form) {
    if (!isRow(to, secret) || form != 0 && form != 1) {
      return -1;
    }
    BigInteger d = secretOf(rows[secret]);
    if (d == null) {
      return -2;
    }
    if (spent(1)) {
      return -5;
    }
    work++;
    Dot dot = G.times(d);
    return become(to, form == 0 ? bytes32(dot.x) : dot.bytes());
  }

  int sign(int to, int secret, int m, int a) {
    if (!isRow(to, secret, m, a)) {
      return -1;
    }
    BigInteger d = secretOf(rows[secret]);
    if (d == null || rows[a].length != 32) {
      return -2;
    }
    if (spent(2)) {
      return -5;
    }
    work += 2;
    Dot own = G.times(d);
    d = own.even() ? d : N.subtract(d);
    byte[] key = bytes32(own.x);
    byte[] t = turned(bytes32(d), digestBy(0, rows[a]));
    BigInteger k = numberBy(1, t, key, rows[m]);
    if (k.signum() == 0) {
      return -2;
    }
    Dot r = G.times(k);
    k = r.even() ? k : N.subtract(k);
    BigInteger e = numberBy(2, bytes32(r.x), key, rows[m]);
    return become(to, bytes32(r.x), bytes32(k.add(e.multiply(d)).mod(N)));
  }

  int holds(int key, int m, int s) {
    if (!isRow(key, m, s)) {
      return -1;
    }
    if (rows[key].length != 32 || rows[s].length != 64) {
      return 0;
    }
    Dot c = lift(number(rows[key]));
    BigInteger r = number(rows[s], 0, 32);
    BigInteger sum = number(rows[s], 32, 64);
    if (c == null || r.compareTo(P) >= 0 || sum.compareTo(N) >= 0) {
      return 0;
    }
    if (spent(2)) {
      return -5;
    }
    work += 2;
    BigInteger e = numberBy(2, bytes32(r), rows[key], rows[m]);
    Dot point = G.times(sum).plus(c.times(e).minus());
    return !point.nought() && point.even() && point.x.equals(r) ? 1 : 0;
  }

  int entry(int key, int m, int s, long a) {
    if (!isRow(key, m, s) || a < 1 || a > 1L << 62 || proofs.isEmpty() && a != 1) {
      return -1;
    }
    if (rows[key].length != 32 || rows[s].length != 64 || rows[m].length > 40) {
      return -2;
    }
    if (proofs.size() == 4) {
      return -3;
    }
    proofs.add(new Proof(rows[key], rows[m], rows[s], BigInteger.valueOf(a)));
    return proofs.size();
  }

  int manyHold() {
    if (proofs.isEmpty()) {
      return -2;
    }
    boolean amiss = false;
    for (Proof p : proofs) {
      amiss |= lift(number(p.key)) == null || lift(number(p.s, 0, 32)) == null
          || number(p.s, 32, 64).compareTo(N) >= 0;
    }
    if (amiss) {
      proofs.clear();
      return 0;
    }
    int cost = 1 + 2 * proofs.size();
    if (spent(cost)) {
      return -5;
    }
    work += cost;
    BigInteger left = BigInteger.ZERO;
    Dot right = NOUGHT;
    for (Proof p : proofs) {
      left = left.add(p.a.multiply(number(p.s, 32, 64))).mod(N);
      BigInteger e = numberBy(2, Arrays.copyOf(p.s, 32), p.key, p.m);
      right = right.plus(lift(number(p.s, 0, 32)).times(p.a));
      right = right.plus(lift(number(p.key)).times(p.a.multiply(e).mod(N)));
    }
    proofs.clear();
    return G.times(left).equals(right) ? 1 : 0;
  }

  // ---- several

  private boolean noSigner(int j) {
    return j < 0 || j >= signers.size();
  }

  private void noNonces() {
    session = null;
    for (Signer signer : signers) {
      signer.k1 = null;
      signer.told = null;
    }
  }

  int signer(int row) {
    if (!isRow(row)) {
      return -1;
    }
    if (readDot(rows[row]) == null) {
      return -2;
    }
    if (signers.size() == 4) {
      return -3;
    }
    Signer signer = new Signer();
    signer.key = rows[row];
    signers.add(signer);
    noNonces();
    return signers.size();
  }

  int noSigners() {
    int had = signers.size();
    signers.clear();
    session = null;
    return had;
  }

  private BigInteger weight(int j) {
    byte[] all = new byte[0];
    byte[] second = null;
    for (Signer signer : signers) {
      all = join(all, signer.key);
      if (second == null && !Arrays.equals(signer.key, signers.get(0).key)) {
        second = signer.key;
      }
    }
    byte[] own = signers.get(j).key;
    return Arrays.equals(own, second) ? BigInteger.ONE : numberBy(4, digestBy(3, all), own);
  }

  private Dot joint() {
    Dot sum = NOUGHT;
    for (int j = 0; j < signers.size(); j++) {
      sum = sum.plus(readDot(signers.get(j).key).times(weight(j)));
    }
    return sum;
  }

  int jointKey(int to) {
    if (!isRow(to)) {
      return -1;
    }
    if (signers.isEmpty()) {
      return -2;
    }
    if (spent(signers.size())) {
      return -5;
    }
    work += signers.size();
    return joint().nought() ? -2 : become(to, bytes32(joint().x));
  }

  int nonce(int to, int j, int secret, int z, int m) {
    if (!isRow(to, secret, z, m) || noSigner(j)) {
      return -1;
    }
    BigInteger d = secretOf(rows[secret]);
    if (d == null || rows[z].length != 32 || rows[m].length > 40) {
      return -2;
    }
    if (spent(3 + signers.size())) {
      return -5;
    }
    Signer signer = signers.get(j);
    work++;
    if (!Arrays.equals(G.times(d).bytes(), signer.key)) {
      return -2;
    }
    work += signers.size();
    if (joint().nought()) {
      return -2;
    }
    work += 2;
    byte[] hidden = turned(bytes32(d), digestBy(5, rows[z]));
    byte[] key = bytes32(joint().x);
    byte[] length = {0, 0, 0, 0, 0, 0, 0, (byte) rows[m].length};
    BigInteger[] k = new BigInteger[2];
    for (int i = 0; i < 2; i++) {
      k[i] = numberBy(6, hidden, new byte[] {33}, signer.key, new byte[] {32}, key, new byte[] {1}, length, rows[m],
          new byte[] {0, 0, 0, 0, (byte) i});
    }
    if (k[0].signum() == 0 || k[1].signum() == 0) {
      return -2;
    }
    signer.k1 = k[0];
    signer.k2 = k[1];
    signer.made = join(G.times(k[0]).bytes(), G.times(k[1]).bytes());
    return become(to, signer.made);
  }

  private static Dot half(byte[] told, int i) {
    return readDot(Arrays.copyOfRange(told, 33 * i, 33 * i + 33));
  }

  int told(int j, int row) {
    if (!isRow(row) || noSigner(j)) {
      return -1;
    }
    if (rows[row].length != 66 || half(rows[row], 0) == null || half(rows[row], 1) == null) {
      return -2;
    }
    signers.get(j).told = rows[row];
    session = null;
    return 1;
  }

  int session(int m) {
    if (!isRow(m)) {
      return -1;
    }
    if (rows[m].length > 40 || signers.isEmpty() || count(2) < signers.size()) {
      return -2;
    }
    if (spent(1 + signers.size())) {
      return -5;
    }
    work += signers.size();
    Session made = new Session();
    made.q = joint();
    if (made.q.nought()) {
      return -2;
    }
    work++;
    byte[] key = bytes32(made.q.x);
    Dot first = NOUGHT;
    Dot second = NOUGHT;
    for (Signer signer : signers) {
      first = first.plus(half(signer.told, 0));
      second = second.plus(half(signer.told, 1));
    }
    made.sums = join(first.bytes(), second.bytes());
    made.b = numberBy(7, made.sums, key, rows[m]);
    made.r = first.plus(second.times(made.b));
    made.r = made.r.nought() ? G : made.r;
    made.e = numberBy(2, bytes32(made.r.x), key, rows[m]);
    session = made;
    return 1;
  }

  int about(int to, int what) {
    if (!isRow(to) || what < 0 || what > 3) {
      return -1;
    }
    if (session == null) {
      return -2;
    }
    return switch (what) {
      case 0 -> become(to, session.sums);
      case 1 -> become(to, bytes32(session.r.x));
      case 2 -> become(to, bytes32(session.e));
      default -> become(to, bytes32(session.b));
    };
  }

  private BigInteger h() {
    return session.r.even() ? BigInteger.ONE : BigInteger.ONE.negate();
  }

  private BigInteger g() {
    return session.q.even() ? BigInteger.ONE : BigInteger.ONE.negate();
  }

  int part(int to, int j, int secret) {
    if (!isRow(to, secret) || noSigner(j)) {
      return -1;
    }
    BigInteger d = secretOf(rows[secret]);
    Signer signer = signers.get(j);
    if (session == null || d == null || signer.k1 == null || !Arrays.equals(signer.made, signer.told)) {
      return -2;
    }
    if (spent(1)) {
      return -5;
    }
    work++;
    if (!Arrays.equals(G.times(d).bytes(), signer.key)) {
      return -2;
    }
    BigInteger nonces = h().multiply(signer.k1.add(session.b.multiply(signer.k2)));
    BigInteger own = session.e.multiply(weight(j)).multiply(g()).multiply(d);
    signer.k1 = null;
    return become(to, bytes32(nonces.add(own).mod(N)));
  }

  int partHolds(int j, int row) {
    if (!isRow(row) || noSigner(j)) {
      return -1;
    }
    if (session == null || rows[row].length != 32) {
      return -2;
    }
    BigInteger s = number(rows[row]);
    if (s.compareTo(N) >= 0) {
      return 0;
    }
    if (spent(3)) {
      return -5;
    }
    work += 3;
    Signer signer = signers.get(j);
    Dot nonces = half(signer.told, 0).plus(half(signer.told, 1).times(session.b)).times(h().mod(N));
    Dot own = readDot(signer.key).times(session.e.multiply(weight(j)).multiply(g()).mod(N));
    return G.times(s).equals(nonces.plus(own)) ? 1 : 0;
  }

  int together(int to, int from) {
    if (!isRow(to, from) || from + signers.size() > 16) {
      return -1;
    }
    if (session == null) {
      return -2;
    }
    BigInteger sum = BigInteger.ZERO;
    for (int row = from; row < from + signers.size(); row++) {
      if (rows[row].length != 32 || number(rows[row]).compareTo(N) >= 0) {
        return -2;
      }
      sum = sum.add(number(rows[row])).mod(N);
    }
    return become(to, bytes32(session.r.x), bytes32(sum));
  }

  int count(int what) {
    int nonces = 0;
    int told = 0;
    for (Signer signer : signers) {
      nonces += signer.k1 != null ? 1 : 0;
      told += signer.told != null ? 1 : 0;
    }
    return switch (what) {
      case 0 -> signers.size();
      case 1 -> nonces;
      case 2 -> told;
      case 3 -> session != null ? 1 : 0;
      case 4 -> proofs.size();
      case 5 -> work;
      default -> -1;
    };
  }
}
