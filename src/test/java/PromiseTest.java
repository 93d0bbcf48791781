// The promises one by one: ordinary inputs, the edges that the document names, and wrong inputs.
public final class PromiseTest {
  private static final long TOP = 2147483647L;
  private static final long FAR = 1099511627776L;
  private static final int MIN = Integer.MIN_VALUE;
  private static final int MAX = Integer.MAX_VALUE;
  private static int wrong = 0;

  private static void due(String what, long got, long want) {
    if (got != want) { wrong++; System.out.println(what + " answered " + got + ", due is " + want); }
  }

  private static void due(String what, boolean got, boolean want) { due(what, got ? 1 : 0, want ? 1 : 0); }

  public static void main(String[] args) {
    newObject();
    numbers();
    all();
    meet();
    meetTogether();
    bound();
    nothing();
    forget();
    shift();
    shiftOfTwo();
    turn();
    join();
    widen();
    copy();
    lies();
    has();
    wrongInputs();
    System.out.println(wrong == 0 ? "all answers are as due" : wrong + " answers are not as due");
    if (wrong != 0) System.exit(1);
  }

  // x (number n) is low .. high in octagon o.
  private static void within(TightOctagon t, int o, int n, long low, long high) {
    t.meet(o, 2 * n, 2 * n, high);
    t.meet(o, 2 * n + 1, 2 * n + 1, -low);
  }

  private static void dueRange(String what, TightOctagon t, int o, int n, long low, long high) {
    due(what + ": greatest of " + n, t.bound(o, 2 * n, 2 * n), high);
    due(what + ": least of " + n, -t.bound(o, 2 * n + 1, 2 * n + 1), low);
  }

  private static void newObject() {
    int[] asked = {MIN, -1, 0, 1, 2, 3, 4, 5, 6, 7, 100, MAX};
    int[] made = {1, 1, 1, 1, 2, 3, 4, 5, 6, 6, 6, 6};
    for (int n = 0; n < asked.length; n++) {
      TightOctagon t = new TightOctagon(asked[n]);
      due("1: numbers() of a new one of " + asked[n], t.numbers(), made[n]);
      for (int o = 0; o < 8; o++) {
        due("1: nothing(" + o + ") of a new one", t.nothing(o), 0);
        for (int x = 0; x < made[n]; x++) dueRange("1: a new one", t, o, x, MIN, MAX);
        due("1: has the least", t.has(o, MIN, MIN, MIN, MIN, MIN, MIN), true);
        due("1: has the greatest", t.has(o, MAX, MAX, MAX, MAX, MAX, MAX), true);
        due("1: all(" + o + ") of a new one", t.all(o), 1);
      }
    }
  }

  private static void numbers() {
    TightOctagon t = new TightOctagon(4);
    t.meet(0, 0, 1, -1);
    due("2: numbers() after calls", t.numbers(), 4);
  }

  private static void all() {
    TightOctagon t = new TightOctagon(2);
    t.meet(0, 0, 2, 2 * TOP - 1);
    due("3: all of one with a value less", t.all(0), 0);
    due("3: it has the greatest value again", t.has(0, MAX, MAX, 0, 0, 0, 0), true);
    due("3: all again", t.all(0), 1);
    t.meet(0, 0, 1, -1);
    due("3: all of nothing", t.all(0), 0);
    due("3: no more nothing", t.nothing(0), 0);
    due("3: bound after", t.bound(0, 1, 3), 2 * TOP + 2);
    t.meet(0, 0, 0, 3);
    due("3: another octagon", t.all(7), 1);
    due("3: the first stays", t.bound(0, 0, 0), 3);
    due("3: octagon 8", t.all(8), -1);
    due("3: octagon -1", t.all(-1), -1);
  }

  private static void meet() {
    TightOctagon t = new TightOctagon(2);
    due("4: x <= its greatest", t.meet(0, 0, 0, TOP), 0);
    due("4: -x <= its greatest", t.meet(0, 1, 1, TOP + 1), 0);
    due("4: any c", t.meet(0, 0, 2, Long.MAX_VALUE), 0);
    due("4: one value less", t.meet(0, 1, 1, TOP), 1);
    due("4: the least int is gone", t.has(0, MIN, 0, 0, 0, 0, 0), false);
    due("4: the next is not", t.has(0, MIN + 1, 0, 0, 0, 0, 0), true);
    due("4: x and -x at most 0", t.meet(0, 0, 1, 0), 0);
    due("4: -y and y at most the greatest long", t.meet(0, 3, 2, Long.MAX_VALUE), 0);
    due("4: -y and y at most -1", t.meet(0, 3, 2, -1), 1);
    due("4: nothing by that", t.nothing(0), 1);
    due("4: not less than nothing", t.meet(0, 0, 0, -5), 0);
    due("4: nor by x and -x", t.meet(0, 0, 1, -5), 0);
    due("4: least long for two", t.meet(1, 0, 3, Long.MIN_VALUE), 1);
    due("4: nothing by the least long", t.nothing(1), 1);
    due("4: least long for x and -x", t.meet(2, 2, 3, Long.MIN_VALUE), 1);
    due("4: nothing by that too", t.nothing(2), 1);
    due("4: x <= least int", t.meet(3, 0, 0, MIN), 1);
    dueRange("4: one value left", t, 3, 0, MIN, MIN);
    due("4: x <= least int - 1", t.meet(3, 0, 0, MIN - 1L), 1);
    due("4: nothing then", t.nothing(3), 1);
    due("4: j and i change places", t.meet(4, 3, 0, 7), 1);
    due("4: the same bound", t.meet(4, 0, 3, 7), 0);
    due("4: wrong signed number", t.meet(4, 4, 0, 1), -1);
    due("4: wrong signed number", t.meet(4, 0, -1, 1), -1);
    due("4: wrong octagon", t.meet(8, 0, 0, 1), -1);
    due("4: wrong signed number of nothing", t.meet(0, 0, 4, 1), -1);
    due("4: nothing changed", t.bound(4, 0, 3), 7);
  }

  // Bounds that only whole numbers, or several others together, make less.
  private static void meetTogether() {
    TightOctagon t = new TightOctagon(3);
    t.meet(0, 0, 2, 0);
    t.meet(0, 0, 3, 1);
    due("4: 2x <= 1", t.bound(0, 0, 0), 0);
    due("4: x <= 0 by that", t.meet(0, 0, 0, 0), 0);
    t.meet(3, 0, 0, 0);
    t.meet(3, 0, 2, 0);
    t.meet(3, 0, 3, 1);
    due("12: the same by another way", t.copy(3, 0), 1);
    t.meet(0, 1, 3, 0);
    t.meet(0, 1, 2, -1);
    due("4: 2x is 1", t.nothing(0), 1);
    // x + y, y + z and x + z are 1 at most, and none of the three is below 0: at most one of them is 1.
    t.meet(1, 0, 2, 1);
    t.meet(1, 2, 4, 1);
    t.meet(1, 0, 4, 1);
    t.meet(1, 1, 1, 0);
    t.meet(1, 3, 3, 0);
    t.meet(1, 5, 5, 0);
    dueRange("4: three sums", t, 1, 0, 0, 1);
    due("4: a half each is no value", t.meet(1, 1, 3, -1), 1);
    due("4: so z is 0", t.bound(1, 4, 4), 0);
    due("4: x + z", t.meet(1, 1, 5, -1), 1);
    dueRange("4: x is 1", t, 1, 0, 1, 1);
    due("4: y + z is 0 at most", t.bound(1, 2, 4), 0);
    // x < y < z: a chain that ends at the greatest int.
    t.meet(2, 0, 3, -1);
    t.meet(2, 2, 5, -1);
    dueRange("4: the first of a chain", t, 2, 0, MIN, MAX - 2);
    dueRange("4: the last of a chain", t, 2, 2, MIN + 2, MAX);
    due("4: its ends", t.bound(2, 0, 5), -2);
    due("4: the chain closed", t.meet(2, 4, 1, 1), 1);
    due("4: is nothing", t.nothing(2), 1);
  }

  private static void bound() {
    TightOctagon t = new TightOctagon(3);
    due("5: x + y", t.bound(0, 0, 2), 2 * TOP);
    due("5: x - y", t.bound(0, 0, 3), 2 * TOP + 1);
    due("5: -x - y", t.bound(0, 1, 3), 2 * TOP + 2);
    for (int i = 0; i < 6; i++) due("5: i and its other one", t.bound(0, i, i ^ 1), 0);
    t.meet(0, 0, 2, 11);
    t.meet(0, 0, 3, 4);
    due("5: of one", t.bound(0, 0, 0), 7);
    due("5: of two", t.bound(0, 0, 2), 11);
    due("5: the other way round", t.bound(0, 2, 0), 11);
    due("5: through both", t.bound(0, 0, 4), 7 + TOP);
    due("5: octagon 8", t.bound(8, 0, 0), -FAR);
    due("5: octagon -1", t.bound(-1, 0, 1), -FAR);
    due("5: signed number 6", t.bound(0, 6, 0), -FAR);
    due("5: signed number 6 and 7", t.bound(0, 6, 7), -FAR);
    due("5: signed number -1", t.bound(0, 0, -1), -FAR);
    t.meet(0, 0, 1, -1);
    for (int i = 0; i < 6; i++) {
      for (int j = 0; j < 6; j++) due("5: of nothing", t.bound(0, i, j), -FAR);
    }
  }

  private static void nothing() {
    TightOctagon t = new TightOctagon(1);
    due("6: at first", t.nothing(7), 0);
    within(t, 7, 0, 5, 5);
    due("6: one value", t.nothing(7), 0);
    within(t, 7, 0, 6, 6);
    due("6: no value", t.nothing(7), 1);
    due("6: another one", t.nothing(6), 0);
    due("6: octagon 8", t.nothing(8), -1);
    due("6: octagon -1", t.nothing(-1), -1);
  }

  private static void forget() {
    TightOctagon t = new TightOctagon(3);
    due("7: of all values", t.forget(0, 0), 0);
    t.meet(0, 0, 3, 0);
    t.meet(0, 2, 5, 0);
    t.meet(0, 0, 0, 9);
    t.meet(0, 5, 5, -4);
    t.meet(0, 4, 4, 20);
    due("7: x <= y <= z, y forgotten", t.forget(0, 1), 1);
    due("7: x <= z stays", t.bound(0, 0, 5), 0);
    dueRange("7: y is any int", t, 0, 1, MIN, MAX);
    due("7: x + y", t.bound(0, 0, 2), 9 + TOP);
    due("7: -z - y", t.bound(0, 5, 3), -4 + TOP + 1);
    due("7: y again", t.forget(0, 1), 0);
    due("7: number 3", t.forget(0, 3), -1);
    due("7: number -1", t.forget(0, -1), -1);
    due("7: octagon 8", t.forget(8, 0), -1);
    dueRange("7: nothing changed", t, 0, 2, 4, 20);
    t.meet(0, 0, 1, -1);
    due("7: of nothing", t.forget(0, 0), 0);
    due("7: nothing stays", t.nothing(0), 1);
    // Only sums are bounds: each number alone may be any int already.
    t.meet(1, 0, 3, 2 * TOP);
    due("7: only a sum is less", t.forget(1, 0), 1);
    due("7: all values again", t.all(1), 1);
    // One number alone.
    TightOctagon one = new TightOctagon(1);
    within(one, 0, 0, 1, 1);
    due("7: the only number", one.forget(0, 0), 1);
    due("7: it has all values", one.all(0), 1);
  }

  private static void shift() {
    TightOctagon t = new TightOctagon(1);
    due("8: of all by 0", t.shift(0, 0, 0, 0), 0);
    due("8: all stays", t.all(0), 1);
    within(t, 0, 0, -3, 8);
    due("8: by 2 .. 5", t.shift(0, 0, 2, 5), 0);
    dueRange("8: by 2 .. 5", t, 0, 0, -1, 13);
    due("8: by -7 .. -7", t.shift(0, 0, -7, -7), 0);
    dueRange("8: by -7 .. -7", t, 0, 0, -8, 6);
    due("8: by as far as there is", t.shift(0, 0, -FAR, FAR), 0);
    due("8: all ints", t.all(0), 1);
    due("8: by 1", t.shift(0, 0, 1, 1), 0);
    dueRange("8: the least int is gone", t, 0, 0, MIN + 1, MAX);
    t.all(0);
    due("8: by 2^32 - 1", t.shift(0, 0, 4294967295L, 4294967295L), 0);
    dueRange("8: one is left", t, 0, 0, MAX, MAX);
    due("8: back by 2^32 - 1 or more", t.shift(0, 0, -FAR, -4294967295L), 0);
    dueRange("8: one is left", t, 0, 0, MIN, MIN);
    due("8: one less", t.shift(0, 0, -FAR, -1), 1);
    due("8: nothing", t.nothing(0), 1);
    due("8: nothing stays so", t.shift(0, 0, -FAR, FAR), 1);
    t.all(0);
    due("8: by 2^32 at least", t.shift(0, 0, 4294967296L, FAR), 1);
    t.all(0);
    due("8: by 2^40", t.shift(0, 0, FAR, FAR), 1);
    t.all(0);
    due("8: by -2^40", t.shift(0, 0, -FAR, -FAR), 1);
    within(t, 1, 0, 0, 0);
    due("8: low above high", t.shift(1, 0, 1, 0), -1);
    due("8: low too far", t.shift(1, 0, -FAR - 1, 0), -1);
    due("8: high too far", t.shift(1, 0, 0, FAR + 1), -1);
    due("8: both too far", t.shift(1, 0, FAR + 1, FAR + 1), -1);
    due("8: both too far", t.shift(1, 0, -FAR - 1, -FAR - 1), -1);
    due("8: the longs", t.shift(1, 0, Long.MIN_VALUE, Long.MAX_VALUE), -1);
    due("8: number 1", t.shift(1, 1, 0, 0), -1);
    due("8: number -1", t.shift(1, -1, 0, 0), -1);
    due("8: octagon -1", t.shift(-1, 0, 0, 0), -1);
    dueRange("8: nothing changed", t, 1, 0, 0, 0);
  }

  private static void shiftOfTwo() {
    TightOctagon t = new TightOctagon(2);
    // x is y: what is cut from x is cut from y too.
    t.meet(0, 0, 3, 0);
    t.meet(0, 1, 2, 0);
    due("8: x is y, by 5 .. 6", t.shift(0, 0, 5, 6), 0);
    due("8: x - y", t.bound(0, 0, 3), 6);
    due("8: y - x", t.bound(0, 1, 2), -5);
    dueRange("8: x", t, 0, 0, MIN + 5L, MAX);
    dueRange("8: y", t, 0, 1, MIN, MAX - 5L);
    // The sum keeps its parity through a shift by one value, and loses it by two.
    t.meet(1, 0, 2, 1);
    t.meet(1, 1, 3, -1);
    t.meet(1, 0, 3, 2);
    due("8: 2x <= 3", t.bound(1, 0, 0), 1);
    due("8: x - y is odd", t.bound(1, 0, 3), 1);
    t.shift(1, 0, 0, 1);
    due("8: x - y by 1 more", t.bound(1, 0, 3), 2);
    due("8: x + y", t.bound(1, 0, 2), 2);
    due("8: x by 1 more", t.bound(1, 0, 0), 2);
    due("8: y stays", t.bound(1, 3, 3), 0);
  }

  private static void turn() {
    TightOctagon t = new TightOctagon(2);
    due("9: of all", t.turn(0, 0), 0);
    dueRange("9: the least int is gone", t, 0, 0, -TOP, TOP);
    dueRange("9: the other stays", t, 0, 1, MIN, MAX);
    t.all(0);
    within(t, 0, 0, -3, 8);
    t.meet(0, 0, 3, 2);
    t.meet(0, 1, 2, 1);
    t.meet(0, 0, 2, 13);
    due("9: y - x, turned y", t.turn(0, 1), 0);
    dueRange("9: x stays", t, 0, 0, -3, 7);
    due("9: x + y now", t.bound(0, 0, 2), 2);
    due("9: -x - y now", t.bound(0, 1, 3), 1);
    due("9: x - y now", t.bound(0, 0, 3), 13);
    dueRange("9: y now", t, 0, 1, -7, 5);
    due("9: back", t.turn(0, 1), 0);
    due("9: x - y again", t.bound(0, 0, 3), 2);
    // Only the least int for x, so that no value is left.
    t.meet(1, 0, 0, MIN);
    due("9: of the least int alone", t.turn(1, 0), 1);
    due("9: nothing", t.nothing(1), 1);
    due("9: of nothing", t.turn(1, 0), 1);
    // x <= y: what turning x drops, the least int for x, drops the least int for y too.
    t.meet(2, 0, 3, 0);
    due("9: x <= y", t.turn(2, 0), 0);
    dueRange("9: y", t, 2, 1, MIN + 1, MAX);
    due("9: number 2", t.turn(2, 2), -1);
    due("9: number -1", t.turn(2, -1), -1);
    due("9: octagon 8", t.turn(8, 0), -1);
  }

  private static void join() {
    TightOctagon t = new TightOctagon(2);
    within(t, 0, 0, 1, 2);
    within(t, 0, 1, 1, 2);
    within(t, 1, 0, 5, 5);
    within(t, 1, 1, 4, 4);
    due("10: two apart", t.join(0, 1), 1);
    dueRange("10: x", t, 0, 0, 1, 5);
    dueRange("10: y", t, 0, 1, 1, 4);
    due("10: x - y", t.bound(0, 0, 3), 1);
    due("10: y - x", t.bound(0, 2, 1), 1);
    due("10: x + y", t.bound(0, 0, 2), 9);
    due("10: has one between", t.has(0, 3, 3, 0, 0, 0, 0), true);
    due("10: has not a corner", t.has(0, 1, 4, 0, 0, 0, 0), false);
    due("10: p stays", t.bound(1, 1, 1), -5);
    due("10: again", t.join(0, 1), 0);
    due("10: with itself", t.join(0, 0), 0);
    t.meet(2, 0, 1, -1);
    due("10: with nothing", t.join(0, 2), 0);
    due("10: it stays", t.bound(0, 0, 2), 9);
    due("10: nothing with nothing", t.join(2, 2), 0);
    due("10: nothing with it", t.join(2, 0), 1);
    due("10: they are alike", t.copy(2, 0), 1);
    due("10: with all", t.join(0, 7), 1);
    due("10: it is all", t.all(0), 1);
    due("10: octagon 8", t.join(8, 0), -1);
    due("10: octagon -1", t.join(0, -1), -1);
  }

  private static void widen() {
    TightOctagon t = new TightOctagon(2);
    within(t, 0, 0, 0, 5);
    within(t, 0, 1, 0, 5);
    within(t, 1, 0, 1, 6);
    within(t, 1, 1, 2, 3);
    due("11: x grows", t.widen(0, 1), 1);
    // x + y <= 10 and x - y <= 5 hold for p as well: they stay, and 2x <= 15 by them.
    dueRange("11: x is less than it was made", t, 0, 0, 0, 7);
    dueRange("11: y stays", t, 0, 1, 0, 5);
    due("11: x + y stays", t.bound(0, 0, 2), 10);
    due("11: x - y stays", t.bound(0, 0, 3), 5);
    due("11: p stays", t.bound(1, 0, 0), 6);
    due("11: again", t.widen(0, 1), 0);
    due("11: with itself", t.widen(0, 0), 0);
    t.meet(2, 0, 1, -1);
    due("11: p is nothing", t.widen(0, 2), 0);
    due("11: o is nothing", t.widen(2, 0), 0);
    due("11: nothing stays", t.nothing(2), 1);
    due("11: with all", t.widen(0, 7), 1);
    due("11: it is all", t.all(0), 1);
    within(t, 3, 0, 0, 5);
    within(t, 4, 0, 0, 6);
    due("11: x alone grows", t.widen(3, 4), 1);
    dueRange("11: to the greatest int", t, 3, 0, 0, MAX);
    within(t, 5, 0, 0, 5);
    within(t, 6, 0, -1, 5);
    due("11: -x alone grows", t.widen(5, 6), 1);
    dueRange("11: to the least int", t, 5, 0, MIN, 5);
    due("11: a part of it", t.widen(6, 3), 1);
    dueRange("11: keeps its least", t, 6, 0, -1, MAX);
    due("11: octagon 8", t.widen(8, 0), -1);
    due("11: octagon -1", t.widen(0, -1), -1);
    due("11: nothing and octagon 8", t.widen(2, 8), -1);
    within(t, 4, 0, 9, 10);
    due("11: nothing that was a little", t.widen(4, 7), 0);
    due("11: it stays nothing", t.nothing(4), 1);
  }

  private static void copy() {
    TightOctagon t = new TightOctagon(2);
    due("12: all to all", t.copy(0, 1), 1);
    t.meet(1, 0, 2, 4);
    due("12: another one", t.copy(0, 1), 0);
    due("12: its bound", t.bound(0, 0, 2), 4);
    due("12: the same", t.copy(0, 1), 1);
    due("12: itself", t.copy(0, 0), 1);
    t.meet(0, 0, 2, 3);
    due("12: they are apart", t.bound(1, 0, 2), 4);
    due("12: a part to the whole", t.copy(1, 0), 0);
    t.meet(2, 0, 1, -1);
    due("12: nothing to it", t.copy(0, 2), 0);
    due("12: it is nothing", t.nothing(0), 1);
    due("12: nothing to nothing", t.copy(0, 2), 1);
    t.meet(3, 0, 0, MIN);
    t.turn(3, 0);
    due("12: nothing by another way", t.copy(0, 3), 1);
    due("12: it to nothing", t.copy(0, 1), 0);
    due("12: it is nothing no more", t.bound(0, 0, 2), 3);
    due("12: octagon 8", t.copy(8, 0), -1);
    due("12: octagon -1", t.copy(0, -1), -1);
  }

  private static void lies() {
    TightOctagon t = new TightOctagon(2);
    due("13: all in all", t.lies(0, 1), 1);
    within(t, 0, 0, 0, 5);
    due("13: in all", t.lies(0, 1), 1);
    due("13: all in it", t.lies(1, 0), 0);
    due("13: in itself", t.lies(0, 0), 1);
    within(t, 1, 1, 0, 5);
    due("13: neither", t.lies(0, 1), 0);
    due("13: neither", t.lies(1, 0), 0);
    t.meet(2, 0, 1, -1);
    due("13: nothing in it", t.lies(2, 0), 1);
    due("13: it in nothing", t.lies(0, 2), 0);
    due("13: nothing in nothing", t.lies(2, 2), 1);
    due("13: octagon 8", t.lies(8, 0), -1);
    due("13: octagon -1", t.lies(0, -1), -1);
    due("13: nothing in octagon 8", t.lies(2, 8), -1);
    due("13: nothing changed", t.bound(0, 0, 0), 5);
  }

  private static void has() {
    TightOctagon t = new TightOctagon(2);
    t.meet(0, 0, 3, 2);
    within(t, 0, 0, -1, 3);
    due("14: within", t.has(0, 3, 1, 0, 0, 0, 0), true);
    due("14: x - y too great", t.has(0, 3, 0, 0, 0, 0, 0), false);
    due("14: x too great", t.has(0, 4, 4, 0, 0, 0, 0), false);
    due("14: x too small", t.has(0, -2, 4, 0, 0, 0, 0), false);
    due("14: no number 2 .. 5", t.has(0, 3, 1, MIN, MAX, 7, MIN), true);
    due("14: octagon 8", t.has(8, 3, 1, 0, 0, 0, 0), false);
    due("14: octagon -1", t.has(-1, 3, 1, 0, 0, 0, 0), false);
    t.meet(0, 0, 1, -1);
    due("14: nothing", t.has(0, 3, 1, 0, 0, 0, 0), false);
    TightOctagon six = new TightOctagon(6);
    for (int x = 0; x < 6; x++) within(six, 0, x, x, x);
    due("14: all six in their order", six.has(0, 0, 1, 2, 3, 4, 5), true);
    due("14: the first", six.has(0, 1, 1, 2, 3, 4, 5), false);
    due("14: the second", six.has(0, 0, 0, 2, 3, 4, 5), false);
    due("14: the third", six.has(0, 0, 1, 3, 3, 4, 5), false);
    due("14: the fourth", six.has(0, 0, 1, 2, 2, 4, 5), false);
    due("14: the fifth", six.has(0, 0, 1, 2, 3, 3, 5), false);
    due("14: the sixth", six.has(0, 0, 1, 2, 3, 4, 6), false);
  }

  // Every argument that names nothing, in each place: the answer that is due, no exception, and no change.
  private static void wrongInputs() {
    for (int bad : new int[] {MIN, MIN + 1, -9, -1, 8, 9, 1 << 30, MAX - 1, MAX}) wrongOctagon(bad);
    for (int bad : new int[] {MIN, -6, -1, 3, 4, 6, 1 << 30, MAX}) wrongNumber(bad);
    for (int bad : new int[] {MIN, -7, -1, 6, 7, 12, 1 << 30, MAX}) wrongSigned(bad);
  }

  private static TightOctagon eight() {
    TightOctagon t = new TightOctagon(3);
    for (int o = 0; o < 8; o++) within(t, o, 0, o, 2 * o);
    return t;
  }

  private static void dueEight(TightOctagon t) {
    for (int o = 0; o < 8; o++) dueRange("wrong inputs change nothing", t, o, 0, o, 2 * o);
  }

  private static void wrongOctagon(int bad) {
    TightOctagon t = eight();
    due("3: all", t.all(bad), -1);
    due("4: meet", t.meet(bad, 0, 0, Long.MIN_VALUE), -1);
    due("5: bound", t.bound(bad, 0, 0), -FAR);
    due("6: nothing", t.nothing(bad), -1);
    due("7: forget", t.forget(bad, 0), -1);
    due("8: shift", t.shift(bad, 0, 1, 1), -1);
    due("9: turn", t.turn(bad, 0), -1);
    for (int good = 0; good < 8; good++) {
      due("10: join", t.join(bad, good) + t.join(good, bad), -2);
      due("11: widen", t.widen(bad, good) + t.widen(good, bad), -2);
      due("12: copy", t.copy(bad, good) + t.copy(good, bad), -2);
      due("13: lies", t.lies(bad, good) + t.lies(good, bad), -2);
    }
    due("10: join", t.join(bad, bad), -1);
    due("11: widen", t.widen(bad, bad), -1);
    due("12: copy", t.copy(bad, bad), -1);
    due("13: lies", t.lies(bad, bad), -1);
    due("14: has", t.has(bad, 0, 0, 0, 0, 0, 0), false);
    dueEight(t);
  }

  private static void wrongNumber(int bad) {
    TightOctagon t = eight();
    due("7: forget", t.forget(1, bad), -1);
    due("8: shift", t.shift(1, bad, 1, 1), -1);
    due("9: turn", t.turn(1, bad), -1);
    dueEight(t);
  }

  private static void wrongSigned(int bad) {
    TightOctagon t = eight();
    due("4: meet", t.meet(1, bad, 0, Long.MIN_VALUE), -1);
    due("4: meet", t.meet(1, 5, bad, Long.MIN_VALUE), -1);
    due("4: meet", t.meet(1, bad, bad, Long.MIN_VALUE), -1);
    due("4: meet", t.meet(1, bad, bad ^ 1, -1), -1);
    due("5: bound", t.bound(1, bad, 0), -FAR);
    due("5: bound", t.bound(1, 5, bad), -FAR);
    due("5: bound", t.bound(1, bad, bad), -FAR);
    due("5: bound", t.bound(1, bad, bad ^ 1), -FAR);
    dueEight(t);
  }
}
