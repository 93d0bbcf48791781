import java.util.ArrayList;
import java.util.List;
import java.util.function.ToLongFunction;

// Each sentence of the document that names a boundary case, with a test of its own; main lists them in their order.
public final class BoundaryTest {
  private static final int MIN = Integer.MIN_VALUE;
  private static final int MAX = Integer.MAX_VALUE;
  private static final long UP = 2147483647L;
  private static final long DOWN = 2147483648L;
  private static final long FAR = 1099511627776L;
  private static final long ROUND = 4294967296L;
  private static final int[] NO_OCTAGON = {-1, 8, 9, MIN, MIN + 7, MAX, 1 << 29, 1 << 30, -8, 256, 65536};
  private static final long[] LONGS = {Long.MIN_VALUE, Long.MIN_VALUE + 1, -(1L << 62), -FAR - 1, -FAR, -ROUND - 1,
      -ROUND, -DOWN - 1, -DOWN, -1, 0, 1, UP, DOWN, ROUND, FAR, FAR + 1, 1L << 62, Long.MAX_VALUE};
  private static final int[] INTS = {MIN, MIN + 1, -(1 << 30), -1, 0, 1, 2, 3, 5, 6, 7, 8, 11, 12, 1 << 30, MAX};

  private static int wrong = 0;
  private static int sentences = 0;
  private static String at = "";

  public static void main(String[] args) {
    is("Not promised", "nothing about an object after its 512th call", BoundaryTest::lastCall);
    is("The public face", "NONE = -1, NO_BOUND = -1099511627776L", BoundaryTest::constants);
    is("Terms", "a VALUE of them is a row of K ints (-2^31 .. 2^31 - 1)", BoundaryTest::ints);
    is("Terms", "SIGNED NUMBERS are 0 .. 2K - 1", BoundaryTest::signedNumbers);
    is("Terms", "2 * x means x, 2 * x + 1 means -x", BoundaryTest::signs);
    is("Terms", "It is NOTHING if there is no value in it", BoundaryTest::noValue);
    is("Terms", "is the greatest value that this has in it", BoundaryTest::greatestValue);
    is("Terms", "by these alone the set is told as well", BoundaryTest::toldByBounds);
    is("Terms", "There are eight octagons, 0 .. 7", BoundaryTest::eightOctagons);
    is("Terms", "What answers NONE changes nothing", BoundaryTest::refusedChangesNothing);
    is("1 to 14", "every call, any arguments, in any state: it answers", BoundaryTest::neverThrows);

    is("Promise 1", "made to be 1 .. 6: too small", BoundaryTest::tooFewNumbers);
    is("Promise 1", "made to be 1 .. 6: too large", BoundaryTest::tooManyNumbers);
    is("Promise 1", "made to be 1 .. 6: within", BoundaryTest::rightNumbers);
    is("Promise 1", "all octagons have all values", BoundaryTest::newHasAll);
    is("Promise 2", "K", BoundaryTest::numbersStay);

    is("Promise 3", "1 if it had them before", BoundaryTest::allOfFull);
    is("Promise 3", "else 0: a bound that is less by 1", BoundaryTest::allOfOneLess);
    is("Promise 3", "else 0: nothing", BoundaryTest::allOfNothing);
    is("Promise 3", "NONE when there is no such octagon", () -> noOctagon((t, o) -> t.all(o)));

    is("Promise 4", "Only values for which i + j .. is c at most stay", BoundaryTest::meetKeepsC);
    is("Promise 4", "(or i, if j is i)", BoundaryTest::meetOne);
    is("Promise 4", "1 if there are less by that, else 0", BoundaryTest::meetTellsLess);
    is("Promise 4", "1 if there are less by that, else 0: c too great for any value", BoundaryTest::meetTooGreat);
    is("Promise 4", "1 if there are less by that, else 0: c too small for any value", BoundaryTest::meetTooSmall);
    is("Promise 4", "(i and its other one together are always 0.)", BoundaryTest::meetOtherOne);
    is("Promise 4", "else 0: nothing can't be less", BoundaryTest::meetOfNothing);
    is("Promise 4", "NONE when there is no such octagon", () -> noOctagon((t, o) -> t.meet(o, 0, 0, 1)));
    is("Promise 4", "NONE when there is no such .. signed number", BoundaryTest::meetNoSigned);

    is("Promise 5", "or of i if j is i", BoundaryTest::boundOfOne);
    is("Promise 5", "0 for i and its other one", BoundaryTest::boundOfOther);
    is("Promise 5", "NO_BOUND when there is no such octagon", BoundaryTest::boundNoOctagon);
    is("Promise 5", "NO_BOUND when there is no such .. signed number", BoundaryTest::boundNoSigned);
    is("Promise 5", "NO_BOUND when .. it is nothing", BoundaryTest::boundOfNothing);

    is("Promise 6", "Whether an octagon is nothing: 1", BoundaryTest::nothingByEach);
    is("Promise 6", "or 0", BoundaryTest::nothingNoMore);
    is("Promise 6", "NONE when there is no such octagon", () -> noOctagon((t, o) -> t.nothing(o)));

    is("Promise 7", "Number x may be any int", BoundaryTest::forgetAnyInt);
    is("Promise 7", "the least octagon of all values that are in it but for x", BoundaryTest::forgetKeeps);
    is("Promise 7", "1 if there are more by that", BoundaryTest::forgetMore);
    is("Promise 7", "else 0", BoundaryTest::forgetNoMore);
    is("Promise 7", "else 0: nothing", BoundaryTest::forgetOfNothing);
    is("Promise 7", "NONE when there is no such octagon", () -> noOctagon((t, o) -> t.forget(o, 0)));
    is("Promise 7", "NONE when there is no such .. number", () -> noNumber((t, x) -> t.forget(0, x)));

    is("Promise 8", "Number x is more by low .. high: one value", BoundaryTest::shiftByOneValue);
    is("Promise 8", "Number x is more by low .. high: some", BoundaryTest::shiftBySome);
    is("Promise 8", "Number x is more by low .. high: each number", BoundaryTest::shiftOfEach);
    is("Promise 8", "and v + w an int: past the greatest", BoundaryTest::shiftPastGreatest);
    is("Promise 8", "and v + w an int: past the least", BoundaryTest::shiftPastLeast);
    is("Promise 8", "and v + w an int: no wrap-around", BoundaryTest::shiftNoWrap);
    is("Promise 8", "the least octagon of all values: others are cut too", BoundaryTest::shiftCutsOthers);
    is("Promise 8", "when it is nothing, it stays so", BoundaryTest::shiftOfNothing);
    is("Promise 8", "1 or 0 for whether it is nothing then", BoundaryTest::shiftToNothing);
    is("Promise 8", "NONE when .. low is above high", BoundaryTest::shiftLowAboveHigh);
    is("Promise 8", "one of them not within -2^40 .. 2^40", BoundaryTest::shiftTooFar);
    is("Promise 8", "within -2^40 .. 2^40", BoundaryTest::shiftAsFarAsMayBe);
    is("Promise 8", "NONE when there is no such octagon", () -> noOctagon((t, o) -> t.shift(o, 0, 0, 0)));
    is("Promise 8", "NONE when there is no such .. number", () -> noNumber((t, x) -> t.shift(0, x, 1, 2)));

    is("Promise 9", "all values with -x for x", BoundaryTest::turnTwice);
    is("Promise 9", "all values with -x for x: of each number", BoundaryTest::turnOfEach);
    is("Promise 9", "where that is an int", BoundaryTest::turnOfLeast);
    is("Promise 9", "where that is an int: others are cut too", BoundaryTest::turnCutsOthers);
    is("Promise 9", "1 .. for whether it is nothing then", BoundaryTest::turnToNothing);
    is("Promise 9", "0 for whether it is nothing then", BoundaryTest::turnOfOneValue);
    is("Promise 9", "NONE when there is no such octagon", () -> noOctagon((t, o) -> t.turn(o, 0)));
    is("Promise 9", "NONE when there is no such .. number", () -> noNumber((t, x) -> t.turn(0, x)));

    is("Promise 10", "the least one in which it and p lie", BoundaryTest::joinLeast);
    is("Promise 10", "1 if it is more by that", BoundaryTest::joinMore);
    is("Promise 10", "else 0", BoundaryTest::joinNoMore);
    is("Promise 10", "1 if it is more by that, else 0: o or p nothing", BoundaryTest::joinNothing);
    is("Promise 10", "1 if it is more by that, else 0: o or p all values", BoundaryTest::joinAll);
    is("Promise 10", "NONE when there is no such octagon", () -> noPair((t, o, p) -> t.join(o, p)));

    is("Promise 11", "made as great as they can be for ints", BoundaryTest::widenToInts);
    is("Promise 11", "what these come to for two", BoundaryTest::widenOfTwo);
    is("Promise 11", "all others stay", BoundaryTest::widenKeeps);
    is("Promise 11", "(whose tight bounds may be less)", BoundaryTest::widenTightens);
    is("Promise 11", "(whose tight bounds may be less): by a chain", BoundaryTest::widenThroughEach);
    is("Promise 11", "(whose tight bounds may be less): by halves", BoundaryTest::widenTwoHalves);
    is("Promise 11", "1 if it is more by that, else 0", BoundaryTest::widenTellsMore);
    is("Promise 11", "when o or p is nothing, o stays", BoundaryTest::widenNothing);
    is("Promise 11", "NONE when there is no such octagon", () -> noPair((t, o, p) -> t.widen(o, p)));

    is("Promise 12", "Octagon o becomes like p", BoundaryTest::copyIsApart);
    is("Promise 12", "1 if it was the same set before", BoundaryTest::copyOfSame);
    is("Promise 12", "else 0", BoundaryTest::copyOfOther);
    is("Promise 12", "1 if it was the same set before, else 0: o or p nothing", BoundaryTest::copyNothing);
    is("Promise 12", "NONE when there is no such octagon", () -> noPair((t, o, p) -> t.copy(o, p)));

    is("Promise 13", "Whether o lies in p: 1", BoundaryTest::liesIn);
    is("Promise 13", "or 0", BoundaryTest::liesNotIn);
    is("Promise 13", "Whether o lies in p: o or p nothing", BoundaryTest::liesNothing);
    is("Promise 13", "NONE when there is no such octagon", () -> noPair((t, o, p) -> t.lies(o, p)));

    is("Promise 14", "Whether a value lies in an octagon: at its bounds", BoundaryTest::hasAtBounds);
    is("Promise 14", "Whether a value lies in an octagon: at the ends of the ints", BoundaryTest::hasAtInts);
    is("Promise 14", "that of number 0, 1, .. is a, b, c, d, e, f", BoundaryTest::hasInOrder);
    is("Promise 14", "(those there are)", BoundaryTest::hasThoseThereAre);
    is("Promise 14", "Whether a value lies in an octagon: in nothing", BoundaryTest::hasNothing);
    is("Promise 14", "Whether a value lies in an octagon: when there is none such", BoundaryTest::hasNoOctagon);

    System.out.println(wrong == 0 ? sentences + " sentences hold" : wrong + " answers are not as due");
    if (wrong != 0) System.exit(1);
  }

  private interface Ask { long of(TightOctagon t, int n); }

  private interface AskTwo { long of(TightOctagon t, int o, int p); }

  // A test that throws has failed; the others go on.
  private static void is(String promise, String sentence, Runnable test) {
    sentences++;
    at = promise + ", '" + sentence + "'";
    try {
      test.run();
    } catch (RuntimeException thrown) {
      wrong++;
      System.out.println(at + ": threw " + thrown);
    }
  }

  private static void due(String what, long got, long want) {
    if (got != want) { wrong++; System.out.println(at + ": " + what + " answered " + got + ", due is " + want); }
  }

  private static void due(String what, boolean got, boolean want) { due(what, got ? 1 : 0, want ? 1 : 0); }

  // Number x is low .. high in octagon o.
  private static void within(TightOctagon t, int o, int x, long low, long high) {
    t.meet(o, 2 * x, 2 * x, high);
    t.meet(o, 2 * x + 1, 2 * x + 1, -low);
  }

  private static void dueRange(String what, TightOctagon t, int o, int x, long low, long high) {
    due(what + ", greatest of " + x, t.bound(o, 2 * x, 2 * x), high);
    due(what + ", least of " + x, -t.bound(o, 2 * x + 1, 2 * x + 1), low);
  }

  private static void empty(TightOctagon t, int o) { t.meet(o, 0, 1, -1); }

  private static boolean has(TightOctagon t, int o, int a, int b) { return t.has(o, a, b, 0, 0, 0, 0); }

  private static long greatest(int i) { return (i & 1) == 0 ? UP : DOWN; }

  private static long greatest(int i, int j) {
    if (i == j) return greatest(i);
    return i == (j ^ 1) ? 0 : greatest(i) + greatest(j);
  }

  // All bounds of an octagon, and whether it is nothing.
  private static String told(TightOctagon t, int o) {
    StringBuilder all = new StringBuilder().append(t.nothing(o));
    for (int i = 0; i < 2 * t.numbers(); i++) {
      for (int j = 0; j <= i; j++) all.append(' ').append(t.bound(o, i, j));
    }
    return all.toString();
  }

  private static String told(TightOctagon t) {
    StringBuilder all = new StringBuilder();
    for (int o = 0; o < 8; o++) all.append(told(t, o)).append('\n');
    return all.toString();
  }

  // Two numbers, eight octagons that all differ: all values, a box, sums, one value, nothing and others.
  private static TightOctagon eight() {
    TightOctagon t = new TightOctagon(2);
    within(t, 1, 0, -3, 8);
    t.meet(2, 0, 2, 11);
    t.meet(2, 1, 2, 4);
    within(t, 3, 0, 5, 5);
    within(t, 3, 1, MIN, MIN);
    empty(t, 4);
    t.meet(5, 0, 0, MIN);
    t.meet(6, 1, 3, -7);
    within(t, 7, 1, 1, 2);
    return t;
  }

  private static void dueSame(String what, String got, String want) {
    if (!got.equals(want)) { wrong++; System.out.println(at + ": " + what + ": " + got + "\nbefore it: " + want); }
  }

  private static void noOctagon(Ask ask) {
    TightOctagon t = eight();
    String before = told(t);
    for (int o : NO_OCTAGON) due("octagon " + o, ask.of(t, o), -1);
    dueSame("the octagons after it", told(t), before);
    due("octagon 0 is one", ask.of(t, 0) >= 0, true);
    due("octagon 7 is one", ask.of(t, 7) >= 0, true);
  }

  private static void noPair(AskTwo ask) {
    TightOctagon t = eight();
    String before = told(t);
    for (int bad : NO_OCTAGON) {
      due("octagons " + bad + ", 1", ask.of(t, bad, 1), -1);
      due("octagons 1, " + bad, ask.of(t, 1, bad), -1);
      due("octagons nothing, " + bad, ask.of(t, 4, bad), -1);
      due("octagons " + bad + ", nothing", ask.of(t, bad, 4), -1);
      due("octagons " + bad + ", the same", ask.of(t, bad, bad), -1);
    }
    dueSame("the octagons after it", told(t), before);
    due("octagons 0, 7 are there", ask.of(t, 0, 7) >= 0, true);
    due("octagons 7, 0 are there", ask.of(t, 7, 0) >= 0, true);
  }

  private static void noNumber(Ask ask) {
    for (int k = 1; k <= 6; k++) {
      TightOctagon t = new TightOctagon(k);
      within(t, 0, k - 1, -4, 9);
      String before = told(t, 0);
      for (int x : new int[] {-1, k, k + 1, 2 * k, MIN, MAX, 1 << 30, 1 << 31, (1 << 30) + 1}) {
        if (x < 0 || x >= k) due("number " + x + " of " + k, ask.of(t, x), -1);
      }
      dueSame("the octagon after it", told(t, 0), before);
      due("number " + (k - 1) + " of " + k + " is one", ask.of(t, k - 1) >= 0, true);
      due("number 0 is one", ask.of(t, 0) >= 0, true);
      empty(t, 0);
      due("no number of nothing", ask.of(t, k), -1);
    }
  }

  private static void lastCall() {
    TightOctagon t = new TightOctagon(6);
    for (int n = 0; n < 256; n++) {
      due("call " + (2 * n + 1), t.meet(n & 7, 2 * (n % 6), 2 * (n % 6), UP - 1 - n), 1);
      due("call " + (2 * n + 2), t.bound(n & 7, 2 * (n % 6), 2 * (n % 6)), UP - 1 - n);
    }
    TightOctagon again = new TightOctagon(2);
    for (int n = 0; n < 511; n++) again.shift(0, 0, 1, 1);
    due("512th call", -again.bound(0, 1, 1), MIN + 511L);
  }

  private static void constants() {
    due("NONE", TightOctagon.NONE, -1);
    due("NO_BOUND", TightOctagon.NO_BOUND, -FAR);
  }

  private static void ints() {
    for (int k = 1; k <= 6; k++) {
      TightOctagon t = new TightOctagon(k);
      for (int i = 0; i < 2 * k; i++) {
        for (int j = 0; j < 2 * k; j++) due("bound of " + i + ", " + j, t.bound(0, i, j), greatest(i, j));
      }
    }
    // No call makes a number greater than an int can be.
    List<ToLongFunction<TightOctagon>> calls = new ArrayList<>();
    calls.add(t -> t.meet(1, 0, 0, Long.MAX_VALUE));
    calls.add(t -> t.forget(1, 0));
    calls.add(t -> t.shift(1, 0, -FAR, FAR));
    calls.add(t -> t.turn(1, 0));
    calls.add(t -> t.join(1, 0));
    calls.add(t -> t.widen(1, 0));
    for (ToLongFunction<TightOctagon> call : calls) {
      TightOctagon t = new TightOctagon(2);
      within(t, 1, 0, -5, 5);
      call.applyAsLong(t);
      due("lies in the ints", t.lies(1, 0), 1);
    }
  }

  private static void signedNumbers() {
    for (int k = 1; k <= 6; k++) {
      TightOctagon t = new TightOctagon(k);
      for (int i = 0; i < 2 * k; i++) due("signed number " + i + " of " + k, t.meet(0, i, i, 100), 1);
      due("signed number -1", t.meet(0, -1, -1, 100), -1);
      due("signed number 2K", t.meet(0, 2 * k, 2 * k, 100), -1);
      due("signed number 2K - 1", t.bound(0, 2 * k - 1, 2 * k - 1), 100);
      due("signed number 2K, its bound", t.bound(0, 2 * k, 2 * k), -FAR);
    }
  }

  private static void signs() {
    for (int k = 1; k <= 6; k++) {
      TightOctagon t = new TightOctagon(k);
      for (int x = 0; x < k; x++) {
        t.meet(x, 2 * x, 2 * x, 10 + x);
        t.meet(x, 2 * x + 1, 2 * x + 1, 3 + x);
        dueRange("2x and 2x + 1", t, x, x, -3 - x, 10 + x);
        for (int y = 0; y < k; y++) {
          if (y != x) dueRange("another number", t, x, y, MIN, MAX);
        }
      }
    }
  }

  private static void noValue() {
    TightOctagon t = new TightOctagon(3);
    // x + y = 0 and x - y = 1: there are halves, but no ints.
    t.meet(0, 0, 2, 0);
    t.meet(0, 1, 3, 0);
    t.meet(0, 0, 3, 1);
    due("before the last bound", t.nothing(0), 0);
    due("the last bound", t.meet(0, 1, 2, -1), 1);
    due("only halves", t.nothing(0), 1);
    // x + y = y + z = x + z = 1: each is a half.
    for (int[] two : new int[][] {{0, 2}, {2, 4}, {0, 4}}) {
      t.meet(1, two[0], two[1], 1);
      t.meet(1, two[0] ^ 1, two[1] ^ 1, -1);
    }
    due("only halves of three", t.nothing(1), 1);
    // x < y < z with x at the last but one int: no room.
    t.meet(2, 0, 3, -1);
    t.meet(2, 2, 5, -1);
    due("x is not the last but one", t.meet(2, 1, 1, -(UP - 2)), 1);
    due("one value left", t.nothing(2), 0);
    dueRange("the one value", t, 2, 2, MAX, MAX);
    due("no room up to the greatest int", t.meet(2, 1, 1, -(UP - 1)), 1);
    due("none left", t.nothing(2), 1);
    // One value is not nothing.
    for (int x = 0; x < 3; x++) within(t, 3, x, MAX, MAX);
    due("one value at the end", t.nothing(3), 0);
    due("and a bound below it", t.meet(3, 0, 2, 2 * UP - 1), 1);
    due("is nothing", t.nothing(3), 1);
    // Both sums are bound, and only the ends of the ints forbid it.
    t.meet(4, 1, 3, -2 * UP);
    due("x and y are both the greatest int", t.nothing(4), 0);
    due("one more", t.meet(4, 1, 3, -2 * UP - 1), 1);
    due("too great for ints", t.nothing(4), 1);
    t.meet(5, 0, 2, -2 * DOWN);
    dueRange("x is the least int", t, 5, 0, MIN, MIN);
    due("one less", t.meet(5, 0, 2, -2 * DOWN - 1), 1);
    due("too small for ints", t.nothing(5), 1);
  }

  private static void greatestValue() {
    // 2x <= c, by x + y and x - y: the half is made less, below 0 too.
    for (long c = -5; c <= 5; c++) {
      TightOctagon t = new TightOctagon(3);
      t.meet(0, 0, 2, c);
      t.meet(0, 0, 3, 0);
      due("x where 2x <= " + c, t.bound(0, 0, 0), Math.floorDiv(c, 2L));
      t.meet(1, 1, 3, c);
      t.meet(1, 1, 2, 0);
      due("-x where -2x <= " + c, t.bound(1, 1, 1), Math.floorDiv(c, 2L));
      // The sum of two that are each made less: x + z where 2x <= c and 2z <= c.
      t.meet(0, 4, 2, c);
      t.meet(0, 4, 3, 0);
      due("x + z where 2x and 2z <= " + c, t.bound(0, 0, 4), 2 * Math.floorDiv(c, 2L));
    }
    // The ends of the ints alone make sums less.
    TightOctagon t = new TightOctagon(2);
    t.meet(0, 0, 3, 1 - ROUND);
    dueRange("x is the least int", t, 0, 0, MIN, MIN);
    dueRange("y is the greatest", t, 0, 1, MAX, MAX);
    due("x + y", t.bound(0, 0, 2), -1);
    due("-x - y", t.bound(0, 1, 3), 1);
    // x + y >= 2 * greatest - 1 leaves three values.
    t.meet(1, 1, 3, -2 * UP + 1);
    dueRange("x", t, 1, 0, MAX - 1, MAX);
    due("x - y", t.bound(1, 0, 3), 1);
    due("x + y stays", t.bound(1, 0, 2), 2 * UP);
  }

  private static void toldByBounds() {
    TightOctagon t = new TightOctagon(3);
    t.meet(0, 0, 2, 1);
    t.meet(0, 0, 3, 0);
    t.meet(1, 0, 0, 0);
    t.meet(1, 0, 3, 0);
    t.meet(1, 0, 2, 1);
    due("the same set by other bounds", t.copy(0, 1), 1);
    // What a set was made of is told again by its bounds.
    t.meet(2, 0, 5, -3);
    t.meet(2, 2, 4, 9);
    t.meet(2, 1, 3, 20);
    t.meet(2, 0, 0, 4);
    for (int i = 0; i < 6; i++) {
      for (int j = 0; j <= i; j++) due("no bound is new", t.meet(2, i, j, t.bound(2, i, j)), 0);
    }
    for (int i = 5; i >= 0; i--) {
      for (int j = 5; j >= i; j--) t.meet(3, i, j, t.bound(2, i, j));
    }
    due("the set of its bounds", t.copy(3, 2), 1);
  }

  private static void eightOctagons() {
    TightOctagon t = new TightOctagon(1);
    for (int o = 0; o < 8; o++) due("octagon " + o + " is one", t.meet(o, 0, 0, 10 + o), 1);
    for (int o = 0; o < 8; o++) due("octagon " + o + " has its own bound", t.bound(o, 0, 0), 10 + o);
    due("octagon 8", t.nothing(8), -1);
    due("octagon -1", t.nothing(-1), -1);
  }

  private static void refusedChangesNothing() {
    TightOctagon t = eight();
    String before = told(t);
    for (int o = 0; o < 8; o++) {
      due("meet, no i", t.meet(o, 4, 0, -1), -1);
      due("meet, no j", t.meet(o, 0, -1, -1), -1);
      due("meet, no i nor its other one", t.meet(o, 4, 5, -1), -1);
      due("forget, no number", t.forget(o, 2), -1);
      due("shift, no number", t.shift(o, 2, 1, 1), -1);
      due("shift, low above high", t.shift(o, 0, 2, 1), -1);
      due("shift, low too far", t.shift(o, 0, -FAR - 1, 1), -1);
      due("shift, high too far", t.shift(o, 0, 1, FAR + 1), -1);
      due("turn, no number", t.turn(o, -1), -1);
      due("join, no p", t.join(o, 8), -1);
      due("widen, no p", t.widen(o, 8), -1);
      due("copy, no p", t.copy(o, 8), -1);
      due("copy, no o", t.copy(8, o), -1);
      due("lies, no p", t.lies(o, -1), -1);
    }
    due("all, no o", t.all(8), -1);
    dueSame("the octagons after it", told(t), before);
    due("numbers", t.numbers(), 2);
  }

  private static void neverThrows() {
    for (int k : INTS) {
      for (int a : INTS) {
        TightOctagon t = new TightOctagon(k);
        t.meet(0, 0, 0, 7);
        empty(t, 1);
        for (int b : INTS) {
          t.has(a, b, MIN, MAX, b, a, MIN);
          t.bound(a, b, b ^ 1);
          t.bound(b, a, b);
          t.forget(a, b);
          t.turn(a, b);
          t.join(a, b);
          t.widen(a, b);
          t.copy(a, b);
          t.lies(a, b);
          t.all(b);
          t.nothing(b);
        }
        for (long c : LONGS) {
          t.meet(0, a, 1, c);
          t.meet(a, 0, 0, c);
          t.meet(0, 0, a, -c);
          t.shift(0, a, c, c);
          t.shift(a, 0, c, Long.MAX_VALUE);
          t.shift(a, 0, Long.MIN_VALUE, c);
          t.shift(0, 0, -c, c);
          t.all(0);
        }
        due("numbers is still 1 .. 6", t.numbers() >= 1 && t.numbers() <= 6, true);
      }
    }
  }

  private static void tooFewNumbers() {
    for (int k : new int[] {0, -1, -2, -6, -7, MIN, MIN + 1, -(1 << 30), 1 << 31}) {
      TightOctagon t = new TightOctagon(k);
      due("numbers of " + k, t.numbers(), 1);
      due("number 0", t.forget(0, 0), 0);
      due("number 1", t.forget(0, 1), -1);
      due("has by the first alone", t.has(0, MIN, 1, 2, 3, 4, 5), true);
    }
  }

  private static void tooManyNumbers() {
    for (int k : new int[] {7, 8, 12, 256, 1 << 30, (1 << 30) + 1, MAX - 1, MAX}) {
      TightOctagon t = new TightOctagon(k);
      due("numbers of " + k, t.numbers(), 6);
      due("number 5", t.forget(0, 5), 0);
      due("number 6", t.forget(0, 6), -1);
      due("signed numbers 11, 10", t.bound(0, 11, 10), 0);
      due("signed number 12", t.bound(0, 12, 12), -FAR);
    }
  }

  private static void rightNumbers() {
    for (int k = 1; k <= 6; k++) due("numbers of " + k, new TightOctagon(k).numbers(), k);
  }

  private static void newHasAll() {
    for (int k = 1; k <= 6; k++) {
      TightOctagon t = new TightOctagon(k);
      for (int o = 0; o < 8; o++) {
        due("nothing", t.nothing(o), 0);
        due("has the least", t.has(o, MIN, MIN, MIN, MIN, MIN, MIN), true);
        due("has the greatest", t.has(o, MAX, MAX, MAX, MAX, MAX, MAX), true);
        due("has both", t.has(o, MIN, MAX, MIN, MAX, MIN, MAX), true);
        due("has both the other way", t.has(o, MAX, MIN, MAX, MIN, MAX, MIN), true);
        for (int p = 0; p < 8; p++) due("are all alike", t.lies(o, p), 1);
        due("all", t.all(o), 1);
      }
    }
  }

  private static void numbersStay() {
    for (int k = 1; k <= 6; k++) {
      TightOctagon t = new TightOctagon(k);
      due("of a new one", t.numbers(), k);
      for (int o = 0; o < 8; o++) empty(t, o);
      due("when all octagons are nothing", t.numbers(), k);
    }
  }

  private static void allOfFull() {
    TightOctagon t = new TightOctagon(2);
    due("new", t.all(0), 1);
    due("again", t.all(0), 1);
    t.meet(0, 0, 0, 3);
    t.forget(0, 0);
    due("forgotten", t.all(0), 1);
    t.meet(0, 0, 0, 3);
    t.shift(0, 0, -FAR, FAR);
    due("shifted over all ints", t.all(0), 1);
    t.meet(0, 0, 0, 3);
    t.join(0, 1);
    due("joined with all", t.all(0), 1);
    empty(t, 0);
    t.copy(0, 1);
    due("a copy of all", t.all(0), 1);
    due("a bound of no use", t.meet(0, 1, 3, 2 * DOWN), 0);
    due("still all", t.all(0), 1);
  }

  private static void allOfOneLess() {
    for (int k = 1; k <= 6; k++) {
      for (int i = 0; i < 2 * k; i++) {
        TightOctagon t = new TightOctagon(k);
        for (int j = 0; j < 2 * k; j++) {
          if (j == (i ^ 1)) continue;
          due("one less", t.meet(0, i, j, greatest(i, j) - 1), 1);
          due("all after one less of " + i + ", " + j, t.all(0), 0);
          due("the bound then", t.bound(0, i, j), greatest(i, j));
          due("all again", t.all(0), 1);
        }
      }
    }
  }

  private static void allOfNothing() {
    TightOctagon t = new TightOctagon(2);
    empty(t, 0);
    due("all", t.all(0), 0);
    due("nothing then", t.nothing(0), 0);
    due("has the least", has(t, 0, MIN, MIN), true);
    due("all again", t.all(0), 1);
    // Nothing whose last bounds were others.
    within(t, 1, 0, 3, 4);
    within(t, 1, 0, 5, 5);
    due("all of a small one made nothing", t.all(1), 0);
    due("like a new one", t.copy(1, 7), 1);
  }

  private static void meetKeepsC() {
    TightOctagon t = new TightOctagon(2);
    t.meet(0, 0, 2, 5);
    due("x + y is c", has(t, 0, 2, 3), true);
    due("x + y is c + 1", has(t, 0, 3, 3), false);
    due("x + y is c, at an end", has(t, 0, MIN, MAX), true);
    t.meet(1, 0, 3, -5);
    due("x - y is c", has(t, 1, -2, 3), true);
    due("x - y is c + 1", has(t, 1, -1, 3), false);
    t.meet(2, 1, 3, -5);
    due("-x - y is c", has(t, 2, 2, 3), true);
    due("-x - y is c + 1", has(t, 2, 2, 2), false);
    due("the order of i and j is one", t.meet(2, 3, 1, -5), 0);
  }

  private static void meetOne() {
    TightOctagon t = new TightOctagon(2);
    t.meet(0, 2, 2, 5);
    due("y is c", has(t, 0, 0, 5), true);
    due("y is c + 1", has(t, 0, 0, 6), false);
    t.meet(0, 3, 3, 5);
    due("-y is c", has(t, 0, 0, -5), true);
    due("-y is c + 1", has(t, 0, 0, -6), false);
    due("y is c, an odd one", t.bound(0, 2, 2), 5);
    due("x may be any int", has(t, 0, MIN, 5), true);
    due("an even c below 0", t.meet(0, 2, 2, -4), 1);
    due("an odd c below 0", t.meet(0, 2, 2, -5), 1);
    dueRange("one value", t, 0, 1, -5, -5);
  }

  private static void meetTellsLess() {
    for (int i = 0; i < 4; i++) {
      for (int j = 0; j < 4; j++) {
        if (j == (i ^ 1)) continue;
        TightOctagon t = new TightOctagon(2);
        String what = "i + j of " + i + ", " + j;
        within(t, 0, 0, -2, 3);
        within(t, 0, 1, -1, 5);
        long most = t.bound(0, i, j);
        long least = -t.bound(0, i ^ 1, j ^ 1);
        due(what + " at most one more than it is", t.meet(0, i, j, most + 1), 0);
        due(what + " at most what it is", t.meet(0, i, j, most), 0);
        due(what + " at most one less", t.meet(0, i, j, most - 1), 1);
        due(what + " the same again", t.meet(0, i, j, most - 1), 0);
        due(what + " at most its least", t.meet(0, i, j, least), 1);
        due(what + " is its least", t.bound(0, i, j), least);
        due(what + " is not nothing", t.nothing(0), 0);
        due(what + " at most less than its least", t.meet(0, i, j, least - 1), 1);
        due(what + " is nothing", t.nothing(0), 1);
      }
    }
  }

  private static void meetTooGreat() {
    TightOctagon t = new TightOctagon(2);
    long[] great = {2 * DOWN, 2 * DOWN + 1, ROUND + 3, ROUND * 2, FAR, 1L << 61, 1L << 62, (1L << 62) + 3,
        Long.MAX_VALUE - UP, Long.MAX_VALUE - 1, Long.MAX_VALUE};
    for (long c : great) {
      for (int i = 0; i < 4; i++) {
        due("c of " + c + " for " + i, t.meet(0, i, i, c), 0);
        due("c of " + c + " for two", t.meet(0, i, i ^ 2, c), 0);
      }
    }
    due("has all values still", t.all(0), 1);
    within(t, 1, 0, -2, 3);
    String before = told(t, 1);
    for (long c : great) {
      due("c of " + c + " for a small one", t.meet(1, 0, 0, c), 0);
      due("c of " + c + " for two in a small one", t.meet(1, 0, 3, c), 0);
    }
    dueSame("a small one after it", told(t, 1), before);
  }

  private static void meetTooSmall() {
    long[] small = {-2 * DOWN - 1, -ROUND - 3, -ROUND * 2, -FAR, -FAR - 1, -(1L << 61), -(1L << 62), -(1L << 62) - 3,
        Long.MIN_VALUE + UP, Long.MIN_VALUE + 5, Long.MIN_VALUE + 1, Long.MIN_VALUE};
    for (long c : small) {
      for (int i = 0; i < 4; i++) {
        TightOctagon t = new TightOctagon(2);
        due("c of " + c + " for " + i, t.meet(0, i, i, c), 1);
        due("nothing by " + c + " for " + i, t.nothing(0), 1);
        due("c of " + c + " for two", t.meet(1, i, i ^ 2, c), 1);
        due("nothing by " + c + " for two", t.nothing(1), 1);
        within(t, 2, 0, -2, 3);
        due("c of " + c + " for a small one", t.meet(2, i, i, c), 1);
        due("nothing by " + c + " for a small one", t.nothing(2), 1);
      }
    }
  }

  private static void meetOtherOne() {
    for (int i = 0; i < 4; i++) {
      TightOctagon t = new TightOctagon(2);
      due("0", t.meet(0, i, i ^ 1, 0), 0);
      due("1", t.meet(0, i, i ^ 1, 1), 0);
      due("the greatest long", t.meet(0, i, i ^ 1, Long.MAX_VALUE), 0);
      due("has all values still", t.all(0), 1);
      due("-1", t.meet(0, i, i ^ 1, -1), 1);
      due("nothing by -1", t.nothing(0), 1);
      due("the least long", t.meet(1, i, i ^ 1, Long.MIN_VALUE), 1);
      due("nothing by the least long", t.nothing(1), 1);
      due("0 of nothing", t.meet(0, i, i ^ 1, 0), 0);
    }
  }

  private static void meetOfNothing() {
    TightOctagon t = new TightOctagon(2);
    empty(t, 0);
    for (int i = 0; i < 4; i++) {
      for (int j = 0; j < 4; j++) {
        for (long c : new long[] {Long.MIN_VALUE, -1, 0, Long.MAX_VALUE}) due("c of " + c, t.meet(0, i, j, c), 0);
      }
    }
    due("nothing still", t.nothing(0), 1);
  }

  private static void meetNoSigned() {
    for (int k = 1; k <= 6; k++) {
      TightOctagon t = new TightOctagon(k);
      within(t, 0, 0, -3, 8);
      empty(t, 1);
      String before = told(t, 0);
      for (int bad : new int[] {-1, -2, 2 * k, 2 * k + 1, MIN, MAX, 1 << 30, 1 << 29}) {
        due("i of " + bad, t.meet(0, bad, 0, -9), -1);
        due("j of " + bad, t.meet(0, 2 * k - 1, bad, -9), -1);
        due("both of " + bad, t.meet(0, bad, bad, -9), -1);
        due(bad + " and its other one", t.meet(0, bad, bad ^ 1, -9), -1);
        due("i of " + bad + " in nothing", t.meet(1, bad, 0, -9), -1);
      }
      dueSame("the octagon after it", told(t, 0), before);
    }
  }

  private static void boundOfOne() {
    TightOctagon t = new TightOctagon(2);
    due("x", t.bound(0, 0, 0), UP);
    due("-x", t.bound(0, 1, 1), DOWN);
    within(t, 0, 1, -7, -7);
    due("y", t.bound(0, 2, 2), -7);
    due("-y", t.bound(0, 3, 3), 7);
    t.meet(1, 0, 0, MIN);
    due("x, the least int", t.bound(1, 0, 0), MIN);
    due("-x, turned round no int", t.bound(1, 1, 1), DOWN);
    due("-x - y", t.bound(1, 1, 3), 2 * DOWN);
    due("x + y", t.bound(1, 0, 2), -1);
    due("y + x", t.bound(1, 2, 0), -1);
  }

  private static void boundOfOther() {
    for (int k = 1; k <= 6; k++) {
      TightOctagon t = new TightOctagon(k);
      for (int i = 0; i < 2 * k; i++) due("of all values", t.bound(0, i, i ^ 1), 0);
      for (int x = 0; x < k; x++) within(t, 0, x, 3, 4);
      t.shift(0, 0, -5, 9);
      t.turn(0, k - 1);
      t.forget(0, 0);
      t.widen(0, 1);
      for (int i = 0; i < 2 * k; i++) due("after calls", t.bound(0, i, i ^ 1), 0);
    }
  }

  private static void boundNoOctagon() {
    TightOctagon t = new TightOctagon(2);
    for (int o : NO_OCTAGON) {
      due("octagon " + o, t.bound(o, 0, 0), -FAR);
      due("octagon " + o + ", the other one", t.bound(o, 0, 1), -FAR);
    }
    due("octagon 7", t.bound(7, 0, 0), UP);
    due("octagon 0", t.bound(0, 0, 0), UP);
  }

  private static void boundNoSigned() {
    for (int k = 1; k <= 6; k++) {
      TightOctagon t = new TightOctagon(k);
      for (int bad : new int[] {-1, -2, 2 * k, 2 * k + 1, MIN, MAX, 1 << 30, 1 << 29}) {
        due("i of " + bad, t.bound(0, bad, 0), -FAR);
        due("j of " + bad, t.bound(0, 2 * k - 1, bad), -FAR);
        due("both of " + bad, t.bound(0, bad, bad), -FAR);
        due(bad + " and its other one", t.bound(0, bad, bad ^ 1), -FAR);
      }
      due("the last", t.bound(0, 2 * k - 1, 2 * k - 1), DOWN);
    }
  }

  private static void boundOfNothing() {
    TightOctagon t = new TightOctagon(3);
    empty(t, 0);
    for (int i = 0; i < 6; i++) {
      for (int j = 0; j < 6; j++) due("of " + i + ", " + j, t.bound(0, i, j), -FAR);
    }
    due("another octagon", t.bound(1, 0, 0), UP);
  }

  private static void nothingByEach() {
    TightOctagon t = new TightOctagon(2);
    t.meet(0, 2, 2, Long.MIN_VALUE);
    due("by meet", t.nothing(0), 1);
    t.meet(1, 0, 0, MIN);
    t.turn(1, 0);
    due("by turn", t.nothing(1), 1);
    t.shift(2, 1, FAR, FAR);
    due("by shift", t.nothing(2), 1);
    t.copy(3, 0);
    due("by copy", t.nothing(3), 1);
    t.join(0, 1);
    due("after join of two that are", t.nothing(0), 1);
    t.widen(1, 4);
    due("after widen", t.nothing(1), 1);
    t.forget(2, 1);
    due("after forget", t.nothing(2), 1);
    due("asked again", t.nothing(2), 1);
  }

  private static void nothingNoMore() {
    TightOctagon t = new TightOctagon(2);
    due("new", t.nothing(7), 0);
    within(t, 7, 0, MIN, MIN);
    within(t, 7, 1, MAX, MAX);
    due("one value", t.nothing(7), 0);
    for (int o = 0; o < 3; o++) empty(t, o);
    t.all(0);
    due("by all", t.nothing(0), 0);
    t.copy(1, 7);
    due("by copy", t.nothing(1), 0);
    t.join(2, 7);
    due("by join", t.nothing(2), 0);
  }

  private static void forgetAnyInt() {
    TightOctagon t = new TightOctagon(2);
    within(t, 0, 0, 3, 3);
    within(t, 0, 1, 4, 4);
    t.forget(0, 0);
    dueRange("x", t, 0, 0, MIN, MAX);
    due("the least", has(t, 0, MIN, 4), true);
    due("the greatest", has(t, 0, MAX, 4), true);
    dueRange("y stays", t, 0, 1, 4, 4);
    due("x + y", t.bound(0, 0, 2), UP + 4);
    due("x - y", t.bound(0, 0, 3), UP - 4);
    due("y - x", t.bound(0, 2, 1), DOWN + 4);
    due("-x - y", t.bound(0, 1, 3), DOWN - 4);
  }

  private static void forgetKeeps() {
    TightOctagon t = new TightOctagon(3);
    // x + y <= 3 and z - y <= 4, so x + z <= 7; by x - y <= 0 too, 2x <= 3.
    t.meet(0, 0, 2, 3);
    t.meet(0, 4, 3, 4);
    t.meet(0, 0, 3, 0);
    t.forget(0, 1);
    due("x + z", t.bound(0, 0, 4), 7);
    due("x", t.bound(0, 0, 0), 1);
    due("z is any", t.bound(0, 4, 4), UP);
    due("y and z", t.bound(0, 3, 4), DOWN + UP);
    // y at the ends of the ints told the ends of x: they stay when y is forgotten.
    t.meet(1, 0, 3, -5);
    t.forget(1, 1);
    dueRange("x of x <= y - 5", t, 1, 0, MIN, UP - 5);
    dueRange("y of it", t, 1, 1, MIN, MAX);
  }

  private static void forgetMore() {
    TightOctagon t = new TightOctagon(2);
    t.meet(0, 0, 0, UP - 1);
    due("the greatest int was not", t.forget(0, 0), 1);
    t.meet(0, 1, 1, DOWN - 1);
    due("the least int was not", t.forget(0, 0), 1);
    t.meet(0, 0, 2, 2 * UP - 1);
    due("only a sum was bound", t.forget(0, 0), 1);
    t.meet(0, 1, 2, DOWN + UP - 1);
    due("only a difference was bound", t.forget(0, 1), 1);
    due("all values by that", t.all(0), 1);
    TightOctagon one = new TightOctagon(1);
    within(one, 0, 0, MIN, MIN);
    due("the only number", one.forget(0, 0), 1);
    due("all values of one", one.all(0), 1);
  }

  private static void forgetNoMore() {
    TightOctagon t = new TightOctagon(3);
    due("of all values", t.forget(0, 0), 0);
    within(t, 0, 1, 4, 5);
    t.meet(0, 2, 5, 0);
    due("not bound itself, others are", t.forget(0, 0), 0);
    due("bound", t.forget(0, 1), 1);
    due("again", t.forget(0, 1), 0);
    due("the third was bound by it", t.forget(0, 2), 1);
    due("all values by that", t.all(0), 1);
  }

  private static void forgetOfNothing() {
    TightOctagon t = new TightOctagon(2);
    empty(t, 0);
    due("forget", t.forget(0, 0), 0);
    due("forget the other", t.forget(0, 1), 0);
    due("nothing still", t.nothing(0), 1);
    // Nothing by x alone is nothing when x may be any int, too.
    within(t, 1, 0, 5, 4);
    due("forget x", t.forget(1, 0), 0);
    due("nothing still, by x alone", t.nothing(1), 1);
  }

  private static void shiftByOneValue() {
    TightOctagon t = new TightOctagon(2);
    due("all by 0", t.shift(0, 0, 0, 0), 0);
    due("has all still", t.all(0), 1);
    within(t, 0, 0, 3, 8);
    t.meet(0, 0, 2, 10);
    t.meet(0, 0, 3, 6);
    String before = told(t, 0);
    due("by 0", t.shift(0, 0, 0, 0), 0);
    dueSame("after 0", told(t, 0), before);
    due("by 5", t.shift(0, 0, 5, 5), 0);
    dueRange("x", t, 0, 0, 8, 13);
    due("x + y", t.bound(0, 0, 2), 15);
    due("x - y", t.bound(0, 0, 3), 11);
    due("by -5", t.shift(0, 0, -5, -5), 0);
    dueSame("and back", told(t, 0), before);
  }

  private static void shiftBySome() {
    TightOctagon t = new TightOctagon(2);
    within(t, 0, 0, 3, 3);
    within(t, 0, 1, 3, 3);
    t.shift(0, 0, -2, 4);
    dueRange("x", t, 0, 0, 1, 7);
    dueRange("y stays", t, 0, 1, 3, 3);
    due("x - y", t.bound(0, 0, 3), 4);
    due("y - x", t.bound(0, 2, 1), 2);
    due("has the least", has(t, 0, 1, 3), true);
    due("has the greatest", has(t, 0, 7, 3), true);
    due("not one more", has(t, 0, 8, 3), false);
    due("not one less", has(t, 0, 0, 3), false);
  }

  private static void shiftOfEach() {
    for (int x = 0; x < 6; x++) {
      TightOctagon t = new TightOctagon(6);
      for (int y = 0; y < 6; y++) within(t, 0, y, 10 * y, 10 * y);
      due("shift of " + x, t.shift(0, x, 1, 3), 0);
      dueRange("x", t, 0, x, 10 * x + 1, 10 * x + 3);
      for (int y = 0; y < 6; y++) {
        if (y == x) continue;
        dueRange("another number", t, 0, y, 10 * y, 10 * y);
        due("x + y of " + x + ", " + y, t.bound(0, 2 * x, 2 * y), 10 * x + 10 * y + 3);
        due("x - y of " + x + ", " + y, t.bound(0, 2 * x, 2 * y + 1), 10 * x - 10 * y + 3);
        due("-x + y of " + x + ", " + y, t.bound(0, 2 * x + 1, 2 * y), 10 * y - 10 * x - 1);
        due("-x - y of " + x + ", " + y, t.bound(0, 2 * x + 1, 2 * y + 1), -10 * x - 10 * y - 1);
      }
    }
  }

  private static void shiftPastGreatest() {
    TightOctagon t = new TightOctagon(1);
    within(t, 0, 0, MAX - 5, MAX - 2);
    t.shift(0, 0, 2, 2);
    dueRange("up to it", t, 0, 0, MAX - 3, MAX);
    t.shift(0, 0, 1, 1);
    dueRange("past it by one", t, 0, 0, MAX - 2, MAX);
    t.shift(0, 0, 1, FAR);
    dueRange("past it by far", t, 0, 0, MAX - 1, MAX);
    due("until one is left", t.shift(0, 0, 1, 1), 0);
    dueRange("one is left", t, 0, 0, MAX, MAX);
    due("and none", t.shift(0, 0, 1, 1), 1);
  }

  private static void shiftPastLeast() {
    TightOctagon t = new TightOctagon(1);
    within(t, 0, 0, MIN + 2, MIN + 5);
    t.shift(0, 0, -2, -2);
    dueRange("down to it", t, 0, 0, MIN, MIN + 3);
    t.shift(0, 0, -1, -1);
    dueRange("past it by one", t, 0, 0, MIN, MIN + 2);
    t.shift(0, 0, -FAR, -1);
    dueRange("past it by far", t, 0, 0, MIN, MIN + 1);
    due("until one is left", t.shift(0, 0, -1, -1), 0);
    dueRange("one is left", t, 0, 0, MIN, MIN);
    due("and none", t.shift(0, 0, -1, -1), 1);
  }

  private static void shiftNoWrap() {
    for (long by : new long[] {ROUND, -ROUND, 2 * ROUND, FAR, -FAR, FAR - 1}) {
      TightOctagon t = new TightOctagon(2);
      due("all by " + by, t.shift(0, 0, by, by), 1);
      within(t, 1, 1, 5, 5);
      due("one by " + by, t.shift(1, 1, by, by), 1);
    }
    TightOctagon t = new TightOctagon(2);
    due("all by 2^32 - 1", t.shift(0, 0, ROUND - 1, ROUND - 1), 0);
    dueRange("only the greatest", t, 0, 0, MAX, MAX);
    due("all by 1 - 2^32", t.shift(0, 1, 1 - ROUND, 1 - ROUND), 0);
    dueRange("only the least", t, 0, 1, MIN, MIN);
    t.shift(1, 0, DOWN, DOWN);
    dueRange("all by 2^31", t, 1, 0, 0, MAX);
    t.shift(2, 0, -DOWN, -DOWN);
    dueRange("all by -2^31", t, 2, 0, MIN, -1);
  }

  private static void shiftCutsOthers() {
    TightOctagon t = new TightOctagon(3);
    // x = y, and z <= y.
    t.meet(0, 0, 3, 0);
    t.meet(0, 1, 2, 0);
    t.meet(0, 4, 3, 0);
    t.shift(0, 0, 10, 10);
    dueRange("x", t, 0, 0, MIN + 10, MAX);
    dueRange("y", t, 0, 1, MIN, MAX - 10);
    dueRange("z", t, 0, 2, MIN, MAX - 10);
    due("x - y", t.bound(0, 0, 3), 10);
    due("z - x", t.bound(0, 4, 1), -10);
    // x = -y.
    t.meet(1, 0, 2, 0);
    t.meet(1, 1, 3, 0);
    t.shift(1, 0, -3, -2);
    dueRange("x of x = -y", t, 1, 0, MIN, MAX - 2);
    dueRange("y of x = -y", t, 1, 1, -UP, MAX - 1);
    due("x + y", t.bound(1, 0, 2), -2);
    due("-x - y", t.bound(1, 1, 3), 3);
  }

  private static void shiftOfNothing() {
    TightOctagon t = new TightOctagon(2);
    empty(t, 0);
    due("by 0", t.shift(0, 0, 0, 0), 1);
    due("by all", t.shift(0, 1, -FAR, FAR), 1);
    due("nothing still", t.nothing(0), 1);
    due("its bound", t.bound(0, 0, 0), -FAR);
    due("refused all the same", t.shift(0, 0, 1, 0), -1);
    due("refused all the same, too far", t.shift(0, 0, 0, FAR + 1), -1);
  }

  private static void shiftToNothing() {
    TightOctagon t = new TightOctagon(2);
    within(t, 0, 0, -10, 10);
    due("the least alone stays an int", t.shift(0, 0, UP + 10, UP + 10), 0);
    dueRange("it", t, 0, 0, MAX, MAX);
    within(t, 1, 0, -10, 10);
    due("none is an int, too great", t.shift(1, 0, UP + 11, UP + 11), 1);
    due("nothing", t.nothing(1), 1);
    within(t, 2, 0, -10, 10);
    due("the greatest alone stays an int", t.shift(2, 0, -DOWN - 10, -DOWN - 10), 0);
    dueRange("it", t, 2, 0, MIN, MIN);
    within(t, 3, 0, -10, 10);
    due("none is an int, too small", t.shift(3, 0, -DOWN - 11, -DOWN - 11), 1);
    due("nothing", t.nothing(3), 1);
    due("its other number", t.bound(3, 2, 2), -FAR);
  }

  private static void shiftLowAboveHigh() {
    TightOctagon t = new TightOctagon(1);
    within(t, 0, 0, 3, 8);
    long[][] pairs = {{1, 0}, {0, -1}, {FAR, -FAR}, {FAR, FAR - 1}, {-FAR + 1, -FAR}, {Long.MAX_VALUE, Long.MIN_VALUE}};
    for (long[] pair : pairs) due("by " + pair[0] + " .. " + pair[1], t.shift(0, 0, pair[0], pair[1]), -1);
    dueRange("stays", t, 0, 0, 3, 8);
    due("low is high", t.shift(0, 0, 1, 1), 0);
  }

  private static void shiftTooFar() {
    TightOctagon t = new TightOctagon(1);
    within(t, 0, 0, 3, 8);
    for (long far : new long[] {FAR + 1, 2 * FAR, 1L << 62, Long.MAX_VALUE}) {
      due("high of " + far, t.shift(0, 0, 0, far), -1);
      due("both of " + far, t.shift(0, 0, far, far), -1);
      due("low of " + -far, t.shift(0, 0, -far, 0), -1);
      due("both of " + -far, t.shift(0, 0, -far, -far), -1);
      due("low and high of " + far, t.shift(0, 0, -far, far), -1);
    }
    due("the least long", t.shift(0, 0, Long.MIN_VALUE, 0), -1);
    due("the longs", t.shift(0, 0, Long.MIN_VALUE, Long.MAX_VALUE), -1);
    dueRange("stays", t, 0, 0, 3, 8);
  }

  private static void shiftAsFarAsMayBe() {
    TightOctagon t = new TightOctagon(2);
    within(t, 0, 0, 3, 8);
    due("-2^40 .. 2^40", t.shift(0, 0, -FAR, FAR), 0);
    due("all ints by that", t.all(0), 1);
    within(t, 0, 0, 3, 8);
    due("-2^40 .. 0", t.shift(0, 0, -FAR, 0), 0);
    dueRange("down to the least", t, 0, 0, MIN, 8);
    due("0 .. 2^40", t.shift(0, 0, 0, FAR), 0);
    dueRange("up to the greatest", t, 0, 0, MIN, MAX);
    due("2^40 .. 2^40", t.shift(1, 0, FAR, FAR), 1);
    due("-2^40 .. -2^40", t.shift(2, 0, -FAR, -FAR), 1);
  }

  private static void turnTwice() {
    TightOctagon t = new TightOctagon(2);
    within(t, 0, 0, -3, 8);
    t.meet(0, 0, 3, 2);
    t.meet(0, 1, 3, 1);
    String before = told(t, 0);
    due("once", t.turn(0, 0), 0);
    dueRange("x", t, 0, 0, -8, 3);
    due("-x - y", t.bound(0, 1, 3), 2);
    due("x - y", t.bound(0, 0, 3), 1);
    due("twice", t.turn(0, 0), 0);
    dueSame("after two", told(t, 0), before);
  }

  // Every number against every other one: sums become differences and differences sums.
  private static void turnOfEach() {
    for (int x = 0; x < 6; x++) {
      TightOctagon t = new TightOctagon(6);
      for (int y = 0; y < 6; y++) within(t, 0, y, -100, 100);
      for (int y = 0; y < 6; y++) {
        if (y == x) continue;
        t.meet(0, 2 * x, 2 * y, 40 + y);
        t.meet(0, 2 * x + 1, 2 * y, 60 + y);
      }
      due("turn of " + x, t.turn(0, x), 0);
      for (int y = 0; y < 6; y++) {
        if (y == x) continue;
        due("-x + y of " + x + ", " + y, t.bound(0, 2 * x + 1, 2 * y), 40 + y);
        due("x + y of " + x + ", " + y, t.bound(0, 2 * x, 2 * y), 60 + y);
        due("x - y of " + x + ", " + y, t.bound(0, 2 * x, 2 * y + 1), 200);
      }
    }
  }

  private static void turnOfLeast() {
    TightOctagon t = new TightOctagon(2);
    due("of all", t.turn(0, 1), 0);
    dueRange("y", t, 0, 1, -UP, UP);
    dueRange("x stays", t, 0, 0, MIN, MAX);
    due("x - y", t.bound(0, 0, 3), 2 * UP);
    due("x + y", t.bound(0, 0, 2), 2 * UP);
    due("-x - y", t.bound(0, 1, 3), DOWN + UP);
    due("one value less than all", t.all(0), 0);
    within(t, 1, 0, MIN, MIN + 1);
    due("of the two least", t.turn(1, 0), 0);
    dueRange("one is left", t, 1, 0, MAX, MAX);
    due("the least int is not its own opposite", has(t, 1, MIN, 0), false);
    within(t, 2, 0, MAX, MAX);
    due("of the greatest", t.turn(2, 0), 0);
    dueRange("its opposite", t, 2, 0, -UP, -UP);
  }

  private static void turnCutsOthers() {
    TightOctagon t = new TightOctagon(2);
    // y <= x + 3 and y >= x: with x the least int, y is one of the four least.
    t.meet(0, 2, 1, 3);
    t.meet(0, 0, 3, 0);
    due("turn", t.turn(0, 0), 0);
    dueRange("x", t, 0, 0, -UP, UP);
    dueRange("y", t, 0, 1, MIN + 1, MAX);
    due("y + x", t.bound(0, 2, 0), 3);
    due("-x - y", t.bound(0, 1, 3), 0);
    // x is the least int where y is 5 or more: then y is 4 at most.
    t.meet(1, 0, 2, MIN + 5L);
    t.meet(1, 3, 3, -4);
    t.turn(1, 0);
    dueRange("y where x is not the least", t, 1, 1, 4, 4);
    dueRange("x turned", t, 1, 0, MAX, MAX);
  }

  private static void turnToNothing() {
    TightOctagon t = new TightOctagon(2);
    t.meet(0, 0, 0, MIN);
    due("the least int alone", t.turn(0, 0), 1);
    due("nothing", t.nothing(0), 1);
    due("of nothing", t.turn(0, 0), 1);
    due("of nothing, the other number", t.turn(0, 1), 1);
    due("nothing still", t.nothing(0), 1);
  }

  private static void turnOfOneValue() {
    TightOctagon t = new TightOctagon(2);
    within(t, 0, 0, 0, 0);
    due("of 0", t.turn(0, 0), 0);
    dueRange("0", t, 0, 0, 0, 0);
    t.meet(1, 0, 0, MIN);
    due("the other number of the least int", t.turn(1, 1), 0);
    dueRange("it stays", t, 1, 0, MIN, MIN);
  }

  private static void joinLeast() {
    TightOctagon t = new TightOctagon(2);
    within(t, 0, 0, MIN, MIN);
    within(t, 0, 1, MIN, MIN);
    within(t, 1, 0, MAX, MAX);
    within(t, 1, 1, MAX, MAX);
    due("the two ends", t.join(0, 1), 1);
    dueRange("x", t, 0, 0, MIN, MAX);
    due("x - y stays 0", t.bound(0, 0, 3), 0);
    due("y - x stays 0", t.bound(0, 2, 1), 0);
    due("has one between", has(t, 0, 17, 17), true);
    due("has none beside", has(t, 0, 17, 18), false);
    due("both lie in it", t.lies(1, 0), 1);
    dueRange("p stays", t, 1, 0, MAX, MAX);
  }

  private static void joinMore() {
    for (int i = 0; i < 4; i++) {
      for (int j = 0; j < 4; j++) {
        if (j == (i ^ 1)) continue;
        TightOctagon t = new TightOctagon(2);
        t.meet(0, i, j, 6);
        t.meet(1, i, j, 7);
        due("one more of " + i + ", " + j, t.join(0, 1), 1);
        due("its bound", t.bound(0, i, j), 7);
        due("then none", t.join(0, 1), 0);
      }
    }
  }

  private static void joinNoMore() {
    TightOctagon t = new TightOctagon(2);
    within(t, 0, 0, 1, 5);
    within(t, 1, 0, 2, 4);
    String before = told(t, 0);
    due("with itself", t.join(0, 0), 0);
    due("with a part", t.join(0, 1), 0);
    t.copy(2, 0);
    due("with one that is the same", t.join(0, 2), 0);
    dueSame("o after it", told(t, 0), before);
    due("all with a part", t.join(7, 0), 0);
  }

  private static void joinNothing() {
    TightOctagon t = new TightOctagon(2);
    within(t, 0, 0, 1, 5);
    empty(t, 1);
    empty(t, 2);
    String before = told(t, 0);
    due("with nothing", t.join(0, 1), 0);
    dueSame("o after it", told(t, 0), before);
    due("nothing with nothing", t.join(1, 2), 0);
    due("nothing with itself", t.join(1, 1), 0);
    due("nothing still", t.nothing(1), 1);
    due("nothing with it", t.join(1, 0), 1);
    dueSame("then it is like it", told(t, 1), before);
    due("p is nothing still", t.nothing(2), 1);
    due("all with nothing", t.join(7, 2), 0);
    due("nothing with all", t.join(2, 7), 1);
    due("is all", t.all(2), 1);
  }

  private static void joinAll() {
    TightOctagon t = new TightOctagon(2);
    t.meet(0, 1, 3, 2 * DOWN - 1);
    due("with all", t.join(0, 1), 1);
    due("is all", t.all(0), 1);
    due("all with all", t.join(0, 1), 0);
  }

  private static void widenToInts() {
    TightOctagon t = new TightOctagon(1);
    within(t, 0, 0, 0, 5);
    within(t, 1, 0, 0, 6);
    due("x one more", t.widen(0, 1), 1);
    dueRange("x to 2^31 - 1", t, 0, 0, 0, MAX);
    within(t, 2, 0, 0, 5);
    within(t, 3, 0, -1, 5);
    due("-x one more", t.widen(2, 3), 1);
    dueRange("-x to 2^31", t, 2, 0, MIN, 5);
    within(t, 4, 0, 0, 0);
    within(t, 5, 0, -1, 1);
    due("both", t.widen(4, 5), 1);
    due("all ints", t.all(4), 1);
    within(t, 6, 0, 0, UP - 1);
    due("to the very last", t.widen(6, 0), 1);
    dueRange("one more at the end", t, 6, 0, 0, MAX);
  }

  private static void widenOfTwo() {
    for (int i = 0; i < 4; i++) {
      for (int j = 0; j < 4; j++) {
        if (j >> 1 == i >> 1) continue;
        TightOctagon t = new TightOctagon(2);
        t.meet(0, i, j, 5);
        t.meet(1, i, j, 6);
        due("one more of " + i + ", " + j, t.widen(0, 1), 1);
        due("as great as ints", t.bound(0, i, j), greatest(i) + greatest(j));
        due("all values", t.all(0), 1);
      }
    }
  }

  private static void widenKeeps() {
    TightOctagon t = new TightOctagon(2);
    t.meet(0, 0, 0, 9);
    t.meet(0, 1, 1, 4);
    t.meet(1, 0, 0, 9);
    t.meet(1, 1, 1, 5);
    due("-x alone", t.widen(0, 1), 1);
    due("x is the same in both: stays", t.bound(0, 0, 0), 9);
    due("-x is greatest", t.bound(0, 1, 1), DOWN);
    within(t, 2, 0, -4, 9);
    within(t, 3, 0, -5, 8);
    due("-x alone, x of p less", t.widen(2, 3), 1);
    dueRange("x of p less: that of o stays", t, 2, 0, MIN, 9);
    dueRange("p stays", t, 3, 0, -5, 8);
    // The bound of a sum stays while those of its parts grow.
    t.meet(4, 0, 2, 3);
    within(t, 4, 0, 0, 3);
    t.meet(5, 0, 2, 3);
    within(t, 5, 0, 0, 4);
    due("x grows", t.widen(4, 5), 1);
    due("x + y stays", t.bound(4, 0, 2), 3);
    dueRange("x", t, 4, 0, 0, MAX);
  }

  private static void widenTightens() {
    TightOctagon t = new TightOctagon(2);
    within(t, 0, 0, 0, 5);
    within(t, 0, 1, 0, 5);
    within(t, 1, 0, 0, 6);
    within(t, 1, 1, 0, 4);
    // x is made any, but x + y <= 10 and y >= 0 stay, and x - y is made any: so x is 10 at most.
    due("x grows, x - y too", t.widen(0, 1), 1);
    dueRange("x by x + y", t, 0, 0, 0, 10);
    due("x - y by both", t.bound(0, 0, 3), 10);
    // 2x <= 15 by x + y <= 10 and x - y <= 5: a half is made less.
    within(t, 2, 0, 0, 5);
    within(t, 2, 1, 0, 5);
    within(t, 3, 0, 6, 6);
    within(t, 3, 1, 2, 3);
    due("x alone grows", t.widen(2, 3), 1);
    dueRange("x by both", t, 2, 0, 0, 7);
    due("p lies in it", t.lies(3, 2), 1);
    t.meet(4, 0, 0, 7);
    t.meet(4, 1, 1, 0);
    within(t, 4, 1, 0, 5);
    t.meet(4, 0, 2, 10);
    t.meet(4, 0, 3, 5);
    due("the very set", t.copy(4, 2), 1);
  }

  // y is a chain's middle: x <= y and y <= z stay, x <= z is given up and follows from them.
  private static void widenThroughEach() {
    int[][] orders = {{0, 1, 2}, {1, 0, 2}, {0, 2, 1}, {2, 0, 1}, {5, 3, 4}, {0, 5, 3}};
    for (int[] order : orders) {
      TightOctagon t = new TightOctagon(6);
      int x = 2 * order[0];
      int y = 2 * order[1];
      int z = 2 * order[2];
      t.meet(0, x, y + 1, 0);
      t.meet(0, y, z + 1, 0);
      t.meet(0, x, z + 1, -3);
      t.meet(1, x, y + 1, 0);
      t.meet(1, y, z + 1, 0);
      due("x - z is 0 in p", t.widen(0, 1), 1);
      due("x - z through y", t.bound(0, x, z + 1), 0);
      due("is like p", t.copy(0, 1), 1);
    }
  }

  // 2x <= 1 and 2z <= 1 by bounds that stay: x + z, given up, is 0 at most again.
  private static void widenTwoHalves() {
    TightOctagon t = new TightOctagon(4);
    for (int o = 0; o < 2; o++) {
      t.meet(o, 0, 2, 1);
      t.meet(o, 0, 3, 0);
      t.meet(o, 4, 6, 1);
      t.meet(o, 4, 7, 0);
    }
    t.meet(0, 0, 0, -1);
    t.meet(0, 4, 4, -1);
    due("x and z are 0 in p", t.widen(0, 1), 1);
    due("x", t.bound(0, 0, 0), 0);
    due("z", t.bound(0, 4, 4), 0);
    due("x + z", t.bound(0, 0, 4), 0);
  }

  private static void widenTellsMore() {
    TightOctagon t = new TightOctagon(2);
    within(t, 0, 0, 0, 5);
    within(t, 1, 0, 1, 4);
    String before = told(t, 0);
    due("with itself", t.widen(0, 0), 0);
    due("with a part", t.widen(0, 1), 0);
    t.copy(2, 0);
    due("with the same", t.widen(0, 2), 0);
    dueSame("o after it", told(t, 0), before);
    due("with one value more", t.widen(1, 0), 1);
    due("all with a part", t.widen(7, 0), 0);
    due("all with all", t.widen(7, 6), 0);
    due("with all", t.widen(0, 7), 1);
    due("is all", t.all(0), 1);
    // x < the greatest int, and p has it: there is just one value of x more.
    t.meet(3, 0, 0, UP - 1);
    due("by the last value", t.widen(3, 7), 1);
    due("is all then", t.all(3), 1);
  }

  private static void widenNothing() {
    TightOctagon t = new TightOctagon(2);
    within(t, 0, 0, 0, 5);
    empty(t, 1);
    within(t, 2, 0, 3, 2);
    String before = told(t, 0);
    due("p is nothing", t.widen(0, 1), 0);
    due("p is nothing by its bounds", t.widen(0, 2), 0);
    dueSame("o after it", told(t, 0), before);
    due("o is nothing", t.widen(1, 0), 0);
    due("o is nothing by its bounds", t.widen(2, 7), 0);
    due("o is nothing still", t.nothing(1), 1);
    due("the other too", t.nothing(2), 1);
    due("both are", t.widen(1, 2), 0);
    due("all and nothing", t.widen(7, 1), 0);
    due("is all still", t.all(7), 1);
  }

  private static void copyIsApart() {
    TightOctagon t = new TightOctagon(2);
    t.meet(0, 0, 3, 4);
    t.meet(0, 2, 2, 9);
    t.copy(7, 0);
    dueSame("the copy", told(t, 7), told(t, 0));
    t.meet(7, 0, 3, 3);
    due("the first stays", t.bound(0, 0, 3), 4);
    t.meet(0, 2, 2, 8);
    due("the copy stays", t.bound(7, 2, 2), 9);
    due("others stay", t.all(1), 1);
  }

  private static void copyOfSame() {
    TightOctagon t = new TightOctagon(2);
    due("new ones", t.copy(0, 7), 1);
    due("itself", t.copy(0, 0), 1);
    t.meet(0, 0, 2, 1);
    t.meet(0, 0, 3, 0);
    due("itself with bounds", t.copy(0, 0), 1);
    due("a copy", t.copy(1, 0), 0);
    due("a copy again", t.copy(1, 0), 1);
    due("the other way", t.copy(0, 1), 1);
    // The same set by other calls.
    within(t, 2, 0, 4, 6);
    within(t, 3, 0, 14, 16);
    t.shift(3, 0, -10, -10);
    due("by shift", t.copy(2, 3), 1);
    within(t, 4, 0, -6, -4);
    t.turn(4, 0);
    due("by turn", t.copy(2, 4), 1);
    within(t, 5, 0, 4, 4);
    within(t, 6, 0, 6, 6);
    t.join(5, 6);
    due("by join", t.copy(2, 5), 1);
  }

  private static void copyOfOther() {
    for (int i = 0; i < 4; i++) {
      for (int j = 0; j < 4; j++) {
        if (j == (i ^ 1)) continue;
        TightOctagon t = new TightOctagon(2);
        t.meet(0, i, j, greatest(i, j) - 1);
        due("a part of all, one bound by 1", t.copy(0, 7), 0);
        due("is all", t.all(0), 1);
        t.meet(1, i, j, greatest(i, j) - 1);
        due("all to a part", t.copy(0, 1), 0);
        due("is the part", t.bound(0, i, j), greatest(i, j) - 1);
      }
    }
    TightOctagon one = new TightOctagon(1);
    one.meet(0, 0, 0, UP - 1);
    due("one number, its greatest", one.copy(0, 7), 0);
    one.meet(0, 1, 1, DOWN - 1);
    due("one number, its least", one.copy(0, 7), 0);
  }

  private static void copyNothing() {
    TightOctagon t = new TightOctagon(2);
    empty(t, 0);
    t.meet(1, 0, 0, MIN);
    t.turn(1, 0);
    due("nothing to nothing", t.copy(0, 1), 1);
    due("nothing to itself", t.copy(0, 0), 1);
    due("nothing to all", t.copy(2, 0), 0);
    due("nothing then", t.nothing(2), 1);
    due("all to nothing", t.copy(0, 7), 0);
    due("nothing no more", t.nothing(0), 0);
    due("is all", t.all(0), 1);
    // Nothing that an octagon with the very bounds of p became.
    within(t, 3, 0, 1, 5);
    t.copy(4, 3);
    empty(t, 4);
    due("nothing is not what it was", t.copy(4, 3), 0);
    empty(t, 4);
    due("nor the other way", t.copy(3, 4), 0);
  }

  private static void liesIn() {
    TightOctagon t = new TightOctagon(2);
    due("all in all", t.lies(0, 7), 1);
    due("in itself", t.lies(0, 0), 1);
    within(t, 0, 0, 1, 5);
    within(t, 1, 0, 1, 5);
    due("in the same", t.lies(0, 1), 1);
    due("and back", t.lies(1, 0), 1);
    within(t, 1, 0, 1, 4);
    due("a part", t.lies(1, 0), 1);
    due("in all", t.lies(0, 7), 1);
    dueRange("o stays", t, 1, 0, 1, 4);
    dueRange("p stays", t, 0, 0, 1, 5);
  }

  private static void liesNotIn() {
    for (int i = 0; i < 4; i++) {
      for (int j = 0; j < 4; j++) {
        if (j == (i ^ 1)) continue;
        TightOctagon t = new TightOctagon(2);
        t.meet(0, i, j, 5);
        t.meet(1, i, j, 6);
        due("one more", t.lies(1, 0), 0);
        due("one less", t.lies(0, 1), 1);
        due("all", t.lies(7, 0), 0);
      }
    }
    TightOctagon one = new TightOctagon(1);
    within(one, 0, 0, 1, 5);
    within(one, 1, 0, 1, 6);
    within(one, 2, 0, 0, 5);
    due("one number, one more", one.lies(1, 0), 0);
    due("one number, one less", one.lies(2, 0), 0);
    due("one number, in it", one.lies(0, 1) + one.lies(0, 2), 2);
    TightOctagon t = new TightOctagon(2);
    within(t, 0, 0, 1, 5);
    within(t, 1, 0, 3, 9);
    due("in part only", t.lies(0, 1), 0);
    due("in part only, the other way", t.lies(1, 0), 0);
  }

  private static void liesNothing() {
    TightOctagon t = new TightOctagon(2);
    within(t, 0, 0, 1, 1);
    empty(t, 1);
    within(t, 2, 0, 2, 1);
    due("nothing in one", t.lies(1, 0), 1);
    due("nothing in all", t.lies(1, 7), 1);
    due("nothing in nothing", t.lies(1, 2), 1);
    due("nothing in itself", t.lies(2, 2), 1);
    due("one in nothing", t.lies(0, 1), 0);
    due("one in nothing by its bounds", t.lies(0, 2), 0);
    due("all in nothing", t.lies(7, 1), 0);
  }

  private static void hasAtBounds() {
    for (int i = 0; i < 4; i++) {
      for (int j = 0; j < 4; j++) {
        if (j == (i ^ 1)) continue;
        TightOctagon t = new TightOctagon(2);
        t.meet(0, i, j, 4);
        for (int a = -6; a <= 6; a++) {
          for (int b = -6; b <= 6; b++) {
            long first = (i >> 1 == 0 ? a : b) * ((i & 1) == 0 ? 1 : -1);
            long second = (j >> 1 == 0 ? a : b) * ((j & 1) == 0 ? 1 : -1);
            due("has " + a + ", " + b, has(t, 0, a, b), (i == j ? first : first + second) <= 4);
          }
        }
      }
    }
  }

  private static void hasAtInts() {
    TightOctagon t = new TightOctagon(2);
    int[] ends = {MIN, MIN + 1, -1, 0, 1, MAX - 1, MAX};
    for (int a : ends) {
      for (int b : ends) due("all has " + a + ", " + b, has(t, 0, a, b), true);
    }
    // Sums past the ints don't wrap around.
    t.meet(0, 0, 2, 0);
    due("MAX + MAX", has(t, 0, MAX, MAX), false);
    due("MIN + MIN", has(t, 0, MIN, MIN), true);
    t.meet(1, 1, 3, 0);
    due("-MIN - MIN", has(t, 1, MIN, MIN), false);
    due("-MAX - MAX", has(t, 1, MAX, MAX), true);
    t.meet(2, 0, 3, 0);
    due("MAX - MIN", has(t, 2, MAX, MIN), false);
    due("MIN - MAX", has(t, 2, MIN, MAX), true);
    t.meet(3, 1, 1, 0);
    due("-MIN", has(t, 3, MIN, 0), false);
    due("-MAX", has(t, 3, MAX, 0), true);
  }

  private static void hasInOrder() {
    TightOctagon t = new TightOctagon(6);
    for (int x = 0; x < 6; x++) within(t, 0, x, 10 * x, 10 * x);
    due("each in its place", t.has(0, 0, 10, 20, 30, 40, 50), true);
    for (int x = 0; x < 6; x++) {
      int[] v = {0, 10, 20, 30, 40, 50};
      v[x]++;
      due("number " + x + " one more", t.has(0, v[0], v[1], v[2], v[3], v[4], v[5]), false);
      v[x] -= 2;
      due("number " + x + " one less", t.has(0, v[0], v[1], v[2], v[3], v[4], v[5]), false);
    }
  }

  private static void hasThoseThereAre() {
    for (int k = 1; k <= 6; k++) {
      TightOctagon t = new TightOctagon(k);
      for (int x = 0; x < k; x++) within(t, 0, x, 7, 7);
      for (int other : new int[] {MIN, 8, MAX}) {
        int[] v = {7, 7, 7, 7, 7, 7};
        for (int x = k; x < 6; x++) v[x] = other;
        due("others of " + other, t.has(0, v[0], v[1], v[2], v[3], v[4], v[5]), true);
        v[k - 1] = other;
        due("the last there is of " + other, t.has(0, v[0], v[1], v[2], v[3], v[4], v[5]), false);
      }
    }
  }

  private static void hasNothing() {
    TightOctagon t = new TightOctagon(2);
    within(t, 0, 0, 1, 5);
    empty(t, 0);
    empty(t, 1);
    for (int a : new int[] {MIN, -1, 0, 1, 3, MAX}) {
      due("nothing has " + a, has(t, 0, a, a), false);
      due("what was all has " + a, has(t, 1, a, a), false);
    }
  }

  private static void hasNoOctagon() {
    TightOctagon t = new TightOctagon(2);
    for (int o : NO_OCTAGON) due("octagon " + o, has(t, o, 0, 0), false);
    due("octagon 7", has(t, 7, 0, 0), true);
    due("octagon 0", has(t, 0, 0, 0), true);
  }
}
