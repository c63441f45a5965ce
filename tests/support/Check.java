/** Counts answers that are not the ones that are due, and ends a test by them. */
final class Check {
  private static int asked = 0;
  private static int wrong = 0;

  private Check() {
  }

  static void due(String call, long got, long want) {
    asked++;
    if (got != want) {
      wrong++;
      System.out.println(call + " answered " + got + ", due is " + want);
    }
  }

  static void due(String call, String got, String want) {
    asked++;
    if (!got.equals(want)) {
      wrong++;
      System.out.println(call + " answered " + got + ", due is " + want);
    }
  }

  static void end() {
    System.out.println(asked + " answers, " + wrong + " not as due");
    if (wrong != 0 || asked == 0) {
      System.exit(1);
    }
  }
}
