import java.util.LinkedHashMap;
import java.util.Map;
import java.util.Set;
import java.util.TreeSet;
import java.util.function.Supplier;

/**
 * All that answers can tell of an object, but WORK. Asking changes it and takes calls, so it is asked of
 * several objects that stand at the same place. Rows are what Stage makes them: secrets from 0 on, the
 * message 5, parts from 12 on.
 */
final class State {
  // Of the 512 calls of an object the others are left for what came ahead.
  private static final int MOST_BYTES = 350;

  private State() {
  }

  static Map<String, String> of(Supplier<JointSigns> objects) {
    Map<String, String> pieces = new LinkedHashMap<>();
    rows(objects, pieces);
    parts(objects.get(), pieces);
    verdicts(objects.get(), pieces);
    JointSigns x = objects.get();
    pieces.put("session", x.session(5) + about(x));
    pieces.put("jointKey", x.jointKey(15) + ":" + Rows.read(x, 15));
    return pieces;
  }

  private static void rows(Supplier<JointSigns> objects, Map<String, String> pieces) {
    JointSigns x = objects.get();
    for (int what = 0; what < 5; what++) {
      pieces.put("count " + what, "" + x.count(what));
    }
    int read = 0;
    for (int row = 0; row < 16; row++) {
      int size = x.at(row, -1);
      if (read + size > MOST_BYTES) {
        x = objects.get();
        read = 0;
      }
      read += size;
      pieces.put("row " + row, size + ":" + Rows.read(x, row));
    }
  }

  private static void parts(JointSigns x, Map<String, String> pieces) {
    pieces.put("about", about(x));
    for (int j = 0; j < 4; j++) {
      x.clear(15);
      pieces.put("part " + j, x.part(15, j, j) + ":" + Rows.read(x, 15));
    }
  }

  private static void verdicts(JointSigns x, Map<String, String> pieces) {
    for (int j = 0; j < 4; j++) {
      pieces.put("partHolds " + j, "" + x.partHolds(j, 12 + j));
    }
    int had = x.count(5);
    pieces.put("manyHold", x.manyHold() + ":" + (x.count(5) - had));
  }

  /** What is told of a SESSION; ROW 15 is taken for it. */
  static String about(JointSigns x) {
    StringBuilder text = new StringBuilder();
    for (int what = 0; what < 4; what++) {
      x.clear(15);
      text.append(' ').append(x.about(15, what)).append(':').append(Rows.read(x, 15));
    }
    return text.toString();
  }

  /** The names of the pieces in which two states differ. */
  static Set<String> differences(Map<String, String> one, Map<String, String> other) {
    Set<String> names = new TreeSet<>();
    for (String name : one.keySet()) {
      if (!one.get(name).equals(other.get(name))) {
        names.add(name);
      }
    }
    return names;
  }
}
