/** Fills and reads whole rows of an object by its own calls, in hexadecimal. */
final class Rows {
  private Rows() {
  }

  static void fill(JointSigns x, int row, String hex) {
    x.clear(row);
    for (int i = 0; i + 1 < hex.length(); i += 16) {
      String piece = hex.substring(i, Math.min(hex.length(), i + 16));
      x.put(row, piece.length() / 2, Long.parseUnsignedLong(piece, 16));
    }
  }

  static String read(JointSigns x, int row) {
    StringBuilder hex = new StringBuilder();
    int length = x.at(row, -1);
    for (int i = 0; i < length; i++) {
      int value = x.at(row, i);
      hex.append(Character.forDigit(value >> 4 & 15, 16)).append(Character.forDigit(value & 15, 16));
    }
    return hex.toString();
  }

  /** A number of 32 bytes. */
  static String number(java.math.BigInteger n) {
    return repeat("0", 64 - n.toString(16).length()) + n.toString(16);
  }

  static String number(long n) {
    return number(java.math.BigInteger.valueOf(n));
  }

  static String repeat(String text, int times) {
    return text.repeat(Math.max(times, 0));
  }
}
