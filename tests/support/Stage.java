import java.math.BigInteger;
import java.util.HashMap;
import java.util.Map;

/** Calls that bring an object to where a test begins. */
final class Stage {
  private static final Map<Long, String> POINTS = new HashMap<>();

  private Stage() {
  }

  /** Takes WORK for keys that nobody needs; ROWS 6 and 7 are empty behind it. */
  static void spend(JointSigns x, int work) {
    Rows.number(x, 6, 3);
    for (int i = 0; i < work; i++) {
      x.key(7, 6, 0);
    }
    x.clear(6);
    x.clear(7);
  }

  /**
   * ROWS 0 to 3: secrets (a number below 0 is so far below N) of as many SIGNERS; 4: 32 bytes; 5: a message.
   * No WORK: their points are put as bytes.
   */
  static void signers(JointSigns x, long... secrets) {
    Rows.number(x, 4, 271828);
    x.put(5, 8, 0x0102030405060708L);
    for (int j = 0; j < secrets.length; j++) {
      Rows.number(x, j, secret(secrets[j]));
      Rows.fill(x, 6, point(secrets[j]));
      x.signer(6);
    }
    x.clear(6);
  }

  static BigInteger secret(long number) {
    BigInteger n = BigInteger.valueOf(number);
    return number < 0 ? Model.N.add(n) : n;
  }

  /** 33 BYTES of the point of a secret. */
  static String point(long number) {
    return POINTS.computeIfAbsent(number, n -> Rows.hex(Model.G.times(secret(n)).bytes()));
  }

  /** All SIGNERS make NONCES, in ROWS from 8 on, and tell them. */
  static void tell(JointSigns x) {
    int n = x.count(0);
    for (int j = 0; j < n; j++) {
      x.nonce(8 + j, j, j, 4, 5);
      x.told(j, 8 + j);
    }
  }

  static void session(JointSigns x, long... secrets) {
    signers(x, secrets);
    tell(x);
    x.session(5);
  }

  /** All SIGNERS make THE PARTS, in ROWS from 12 on. */
  static void parts(JointSigns x) {
    int n = x.count(0);
    for (int j = 0; j < n; j++) {
      x.part(12 + j, j, j);
    }
  }

  /** ROWS 0 a SECRET, 4 32 bytes, 5 a message of 40 bytes, 2 the KEY, 3 THE SIGNATURE: WORK 3. */
  static void signed(JointSigns x) {
    Rows.number(x, 0, 77);
    Rows.number(x, 4, 123456789);
    x.copy(5, 4, -1);
    x.put(5, 8, -1);
    x.key(2, 0, 0);
    x.sign(3, 0, 5, 4);
  }
}
