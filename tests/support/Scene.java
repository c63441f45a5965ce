import java.math.BigInteger;
import java.util.List;
import java.util.Map;
import java.util.TreeSet;
import java.util.function.Consumer;
import java.util.function.ToIntFunction;

/** Where an object stands behind some calls: what a further call answers there, takes and changes. */
final class Scene {
  static final int MOST_WORK = 48;
  private static final int BAD = -1, NO = -2, SPENT = -5;
  private static final int[] NO_ROWS = {-1, 16, Integer.MIN_VALUE, Integer.MAX_VALUE};
  private static final int[] OUTER_ROWS = {0, 15};

  /** A call by numbers, among them the ROWS. */
  interface Call {
    int of(JointSigns x, int[] a);
  }

  private final Consumer<JointSigns> before;
  private Map<String, String> state = null;

  Scene(Consumer<JointSigns> before) {
    this.before = before;
  }

  JointSigns open() {
    JointSigns x = new JointSigns();
    before.accept(x);
    return x;
  }

  Scene behind(Consumer<JointSigns> more) {
    return new Scene(before.andThen(more));
  }

  /** The same, with WORK done ahead of it. */
  Scene after(int work) {
    Consumer<JointSigns> spending = x -> Stage.spend(x, work);
    return new Scene(spending.andThen(before));
  }

  /** The same with no WORK left. */
  Scene spent() {
    return after(MOST_WORK - open().count(5));
  }

  /** The call answers this, takes that WORK, and changes these pieces of the state and no others. */
  void changes(String what, int want, int work, ToIntFunction<JointSigns> call, String... pieces) {
    JointSigns x = open();
    int had = x.count(5);
    Check.due(what, call.applyAsInt(x), want);
    Check.due(what + ": WORK", x.count(5) - had, work);
    if (state == null) {
      state = State.of(this::open);
    }
    Map<String, String> then = State.of(behind(call::applyAsInt)::open);
    Check.due(what + ": changed", State.differences(state, then).toString(), new TreeSet<>(List.of(pieces)).toString());
  }

  /** All is as it is in another scene, but WORK. */
  void like(String what, Scene other) {
    Check.due(what + ": otherwise", State.differences(State.of(this::open), State.of(other::open)).toString(), "[]");
  }

  /** The call answers this and takes that WORK; all else is as it was. */
  void still(String what, int want, int work, ToIntFunction<JointSigns> call) {
    changes(what, want, work, call);
  }

  void still(String what, int want, ToIntFunction<JointSigns> call) {
    changes(what, want, 0, call);
  }

  /** The call is answered as long as its WORK is left, and SPENT from there on. */
  void spends(String what, int work, int want, ToIntFunction<JointSigns> call) {
    int left = MOST_WORK - open().count(5);
    JointSigns x = after(left - work).open();
    Check.due(what + ", the last WORK", call.applyAsInt(x), want);
    Check.due(what + ", all WORK done", x.count(5), MOST_WORK);
    for (int over = 1; over <= work; over++) {
      after(left - work + over).still(what + ", " + over + " above", SPENT, call);
    }
  }

  /**
   * ROWS 0 and 15 are as good as those that the call names at some places, and what comes to a ROW is the
   * same (to is its place; -1, if there is none); what is no ROW is BAD.
   */
  void rows(String what, int want, int[] numbers, int[] places, int to, Call call) {
    JointSigns x = open();
    Check.due(what, call.of(x, numbers), want);
    String came = to < 0 ? "" : Rows.read(x, numbers[to]);
    for (int place : places) {
      for (int row : OUTER_ROWS) {
        int[] a = numbers.clone();
        a[place] = row;
        JointSigns y = open();
        y.copy(row, numbers[place], -1);
        Check.due(what + " by ROW " + row + " at " + place, call.of(y, a), want);
        Check.due(what + " by ROW " + row + " at " + place + ": came", to < 0 ? "" : Rows.read(y, a[to]), came);
      }
      noRows(what, numbers, place, call);
    }
  }

  /** As rows, and what comes takes the place of all 100 bytes that the ROW had. */
  void becomes(String what, int want, int[] numbers, int[] places, int to, Call call) {
    rows(what, want, numbers, places, to, call);
    JointSigns x = open();
    call.of(x, numbers);
    JointSigns y = behind(z -> Rows.size(z, numbers[to], 100)).open();
    Check.due(what + " onto 100 bytes", call.of(y, numbers), want);
    Check.due(what + " onto 100 bytes: size", y.at(numbers[to], -1), want);
    Check.due(what + " onto 100 bytes: came", Rows.read(y, numbers[to]), Rows.read(x, numbers[to]));
  }

  private void noRows(String what, int[] numbers, int place, Call call) {
    for (int row : NO_ROWS) {
      int[] a = numbers.clone();
      a[place] = row;
      still(what + " by no ROW " + row + " at " + place, BAD, x -> call.of(x, a));
    }
  }

  /** What is no SECRET in a ROW is NO. */
  void noSecrets(String what, int row, ToIntFunction<JointSigns> call) {
    BigInteger[] numbers = {BigInteger.ZERO, Model.N, Model.N.add(BigInteger.ONE), Model.P, Rows.TOP.subtract(BigInteger.ONE)};
    for (BigInteger number : numbers) {
      behind(x -> Rows.number(x, row, number)).still(what + " by the number " + number.toString(16), NO, call);
    }
    sizes(what + " by a secret", row, new int[] {0, 1, 31, 33, 64, 100}, NO, call);
    behind(x -> Rows.fill(x, row, "00" + Rows.number(5))).still(what + " by 5 in 33 bytes", NO, call);
    behind(x -> Rows.fill(x, row, Rows.number(5).substring(2))).still(what + " by 5 in 31 bytes", NO, call);
  }

  /** The call answers this, if a ROW has so many bytes. */
  void sizes(String what, int row, int[] sizes, int want, ToIntFunction<JointSigns> call) {
    for (int size : sizes) {
      behind(x -> Rows.size(x, row, size)).still(what + " of " + size + " bytes", want, call);
    }
  }

  /** What is none of the numbers that are told is BAD. */
  void bad(String what, int[] none, Call call) {
    for (int number : none) {
      still(what + " by " + number, BAD, x -> call.of(x, new int[] {number}));
    }
  }
}
