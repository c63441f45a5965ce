import java.math.BigInteger;

/** Fills and reads whole rows of an object by its own calls. */
final class Rows {
  static final BigInteger TOP = BigInteger.ONE.shiftLeft(256);

  private Rows() {
  }

  /** A row by hexadecimal digits. */
  static void fill(JointSigns x, int row, String hex) {
    x.clear(row);
    for (int i = 0; i + 1 < hex.length(); i += 16) {
      String piece = hex.substring(i, Math.min(hex.length(), i + 16));
      x.put(row, piece.length() / 2, Long.parseUnsignedLong(piece, 16));
    }
  }

  /** A row of 32 bytes. */
  static void number(JointSigns x, int row, BigInteger n) {
    fill(x, row, number(n));
  }

  static void number(JointSigns x, int row, long n) {
    number(x, row, BigInteger.valueOf(n));
  }

  /** A row of 64 bytes. */
  static void numbers(JointSigns x, int row, BigInteger first, BigInteger second) {
    fill(x, row, number(first) + number(second));
  }

  /** A row of 33 bytes. */
  static void point(JointSigns x, int row, int first, BigInteger n) {
    fill(x, row, hex(new byte[] {(byte) first}) + number(n));
  }

  /** A row of so many bytes, none of them like the one ahead of it. */
  static void size(JointSigns x, int row, int size) {
    fill(x, row, hex(pattern(size)));
  }

  static byte[] pattern(int size) {
    byte[] bytes = new byte[size];
    for (int i = 0; i < size; i++) {
      bytes[i] = (byte) (i * 37 + 3);
    }
    return bytes;
  }

  static String read(JointSigns x, int row) {
    int length = x.at(row, -1);
    byte[] bytes = new byte[Math.max(length, 0)];
    for (int i = 0; i < length; i++) {
      bytes[i] = (byte) x.at(row, i);
    }
    return hex(bytes);
  }

  static String hex(byte[] bytes) {
    StringBuilder hex = new StringBuilder();
    for (byte value : bytes) {
      hex.append(Character.forDigit(value >> 4 & 15, 16)).append(Character.forDigit(value & 15, 16));
    }
    return hex.toString();
  }

  /** A number of 32 bytes. */
  static String number(BigInteger n) {
    return repeat("0", 64 - n.toString(16).length()) + n.toString(16);
  }

  static String number(long n) {
    return number(BigInteger.valueOf(n));
  }

  static String repeat(String text, int times) {
    return text.repeat(Math.max(times, 0));
  }
}
