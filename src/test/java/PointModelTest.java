import java.util.ArrayList;
import java.util.List;

// Runs of calls against a model that holds every value of a small set, somewhere among the ints, one by one.
public final class PointModelTest {
  private static final int MIN = Integer.MIN_VALUE;
  private static final int MAX = Integer.MAX_VALUE;
  private static final int USED = 4;
  private static final int MOST_CALLS = 512;
  private static final long NO_BOUND = -1099511627776L;
  private static int wrong = 0;
  private static int calls = 0;
  private static long seed = 20261115L;

  private final int k;
  private final long[] base;
  private final TightOctagon octagon;
  private int used = 0;
  private final List<List<long[]>> sets = new ArrayList<>();
  private final int run;

  private PointModelTest(int run) {
    this.run = run;
    k = 1 + below(6);
    octagon = new TightOctagon(k);
    base = new long[k];
    long[] places = {MIN, MAX - 4L, -2, 0, 1000000, -1073741824};
    for (int x = 0; x < k; x++) base[x] = places[below(places.length)];
    for (int o = 0; o < USED; o++) {
      sets.add(new ArrayList<>());
      fillBox(o);
    }
  }

  public static void main(String[] args) {
    for (int run = 0; run < 5000; run++) {
      PointModelTest test = new PointModelTest(run);
      while (test.mayStep()) test.step();
    }
    System.out.println(wrong == 0 ? calls + " answers are as due" : wrong + " answers are not as due");
    if (wrong != 0) System.exit(1);
  }

  private static int below(int n) {
    seed = seed * 6364136223846793005L + 1442695040888963407L;
    return (int) Long.remainderUnsigned(seed >>> 33, n);
  }

  private void due(String what, long got, long want) {
    calls++;
    if (got != want && ++wrong < 50) {
      System.out.println("run " + run + ": " + what + " answered " + got + ", due is " + want);
    }
  }

  private static boolean isInt(long v) { return v >= MIN && v <= MAX; }

  private static long signed(long[] point, int i) { return (i & 1) == 0 ? point[i >> 1] : -point[i >> 1]; }

  // i + j, but i alone if j is i.
  private static long sum(long[] point, int i, int j) {
    return i == j ? signed(point, i) : signed(point, i) + signed(point, j);
  }

  // What an object answers after its 512th call is free, so a run ends before that.
  private TightOctagon counted() {
    if (++used > MOST_CALLS) throw new IllegalStateException("run " + run + " asks too much of one object");
    return octagon;
  }

  // The dearest step fills a box, forgets a number and makes a box again, and asks for all bounds after each of them.
  private boolean mayStep() {
    int bounds = k * (2 * k + 1);
    return used + 3 * bounds + 4 * k + 20 <= MOST_CALLS;
  }

  private static long greatest(int i) { return (i & 1) == 0 ? MAX : -(long) MIN; }

  private static long greatest(int i, int j) {
    if (i == j) return greatest(i);
    return i == (j ^ 1) ? 0 : greatest(i) + greatest(j);
  }

  private static boolean contains(List<long[]> set, long[] point) {
    for (long[] other : set) {
      if (java.util.Arrays.equals(other, point)) return true;
    }
    return false;
  }

  private static boolean within(List<long[]> set, List<long[]> other) {
    for (long[] point : set) {
      if (!contains(other, point)) return false;
    }
    return true;
  }

  // The bounds of a set that is not empty.
  private long[][] bounds(List<long[]> set) {
    long[][] most = new long[2 * k][2 * k];
    for (int i = 0; i < 2 * k; i++) {
      for (int j = 0; j < 2 * k; j++) {
        most[i][j] = Long.MIN_VALUE;
        for (long[] point : set) most[i][j] = Math.max(most[i][j], sum(point, i, j));
      }
    }
    return most;
  }

  private boolean hold(long[][] most, long[] point) {
    for (int i = 0; i < 2 * k; i++) {
      for (int j = 0; j < 2 * k; j++) {
        if (sum(point, i, j) > most[i][j]) return false;
      }
    }
    return true;
  }

  // All values of the box low .. high for which the bounds hold.
  private List<long[]> inBox(long[][] most, long[] low, long[] high) {
    List<long[]> found = new ArrayList<>();
    long[] point = low.clone();
    for (boolean more = true; more;) {
      if (hold(most, point)) found.add(point.clone());
      more = false;
      for (int x = 0; x < k && !more; x++) {
        if (point[x] < high[x]) {
          point[x]++;
          more = true;
        } else {
          point[x] = low[x];
        }
      }
    }
    return found;
  }

  private List<long[]> hull(List<long[]> set) {
    if (set.isEmpty()) return set;
    long[][] most = bounds(set);
    long[] low = new long[k];
    long[] high = new long[k];
    for (int x = 0; x < k; x++) {
      low[x] = -most[2 * x + 1][2 * x + 1];
      high[x] = most[2 * x][2 * x];
    }
    return inBox(most, low, high);
  }

  private boolean isSmall(List<long[]> set) {
    if (set.isEmpty()) return true;
    long[][] most = bounds(set);
    long volume = 1;
    for (int x = 0; x < k; x++) {
      long width = most[2 * x][2 * x] + most[2 * x + 1][2 * x + 1] + 1;
      if (width > 30) return false;
      volume *= width;
    }
    return volume <= 1200;
  }

  // A box at the base, so that the octagons of a run lie near one another.
  private void fillBox(int o) {
    counted().all(o);
    long[] low = new long[k];
    long[] high = new long[k];
    for (int x = 0; x < k; x++) {
      low[x] = base[x] + below(3);
      high[x] = low[x] + below(3);
      counted().meet(o, 2 * x, 2 * x, high[x]);
      counted().meet(o, 2 * x + 1, 2 * x + 1, -low[x]);
    }
    sets.set(o, inBox(allBounds(), low, high));
  }

  private void refill(int o) {
    fillBox(o);
    check(o, "refill");
  }

  private long[][] allBounds() {
    long[][] most = new long[2 * k][2 * k];
    for (int i = 0; i < 2 * k; i++) {
      for (int j = 0; j < 2 * k; j++) most[i][j] = greatest(i, j);
    }
    return most;
  }

  private void step() {
    int o = below(USED);
    int p = below(USED);
    if (sets.get(o).isEmpty() && below(3) != 0 || !isSmall(sets.get(o))) refill(o);
    switch (below(8)) {
      case 0, 1 -> meet(o);
      case 2 -> forget(o);
      case 3 -> shift(o);
      case 4 -> turn(o);
      case 5 -> join(o, p);
      case 6 -> widen(o, p);
      default -> copy(o, p);
    }
  }

  private void meet(int o) {
    int i = below(2 * k);
    int j = below(2 * k);
    List<long[]> set = sets.get(o);
    long c = set.isEmpty() ? 0 : sum(set.get(below(set.size())), i, j) + below(4) - 2;
    List<long[]> left = new ArrayList<>();
    for (long[] point : set) {
      if (sum(point, i, j) <= c) left.add(point);
    }
    String call = "meet(" + o + ", " + i + ", " + j + ", " + c + ")";
    due(call, counted().meet(o, i, j, c), left.size() < set.size() ? 1 : 0);
    sets.set(o, left);
    check(o, call);
  }

  private void forget(int o) {
    int x = below(k);
    String call = "forget(" + o + ", " + x + ")";
    List<long[]> set = sets.get(o);
    due(call, counted().forget(o, x), set.isEmpty() ? 0 : 1);
    if (set.isEmpty()) return;
    long[][] most = bounds(set);
    for (int i = 2 * x; i <= 2 * x + 1; i++) {
      for (int j = 0; j < 2 * k; j++) {
        most[i][j] = j >> 1 == x ? greatest(i, j) : greatest(i) + most[j][j];
        most[j][i] = most[i][j];
      }
    }
    checkBounds(o, call, most);
    enclose(o, set, most);
  }

  // Makes an octagon with few bounds small again, near what it was.
  private void enclose(int o, List<long[]> near, long[][] most) {
    long[][] around = bounds(near);
    long[] low = new long[k];
    long[] high = new long[k];
    for (int x = 0; x < k; x++) {
      low[x] = Math.max(MIN, -around[2 * x + 1][2 * x + 1] - below(3));
      high[x] = Math.min(MAX, around[2 * x][2 * x] + below(3));
      counted().meet(o, 2 * x, 2 * x, high[x]);
      counted().meet(o, 2 * x + 1, 2 * x + 1, -low[x]);
    }
    sets.set(o, inBox(most, low, high));
    check(o, "a box after it");
  }

  private void shift(int o) {
    int x = below(k);
    long[] far = {0, 0, 0, 0, 0, 0, 4294967295L, -4294967295L, 4294967293L, -4294967292L, 1099511627770L, -1099511627770L};
    long low = far[below(far.length)] + below(9) - 4;
    long high = low + below(3);
    List<long[]> moved = new ArrayList<>();
    for (long[] point : sets.get(o)) {
      for (long w = low; w <= high; w++) {
        long[] next = point.clone();
        next[x] += w;
        if (isInt(next[x]) && !contains(moved, next)) moved.add(next);
      }
    }
    String call = "shift(" + o + ", " + x + ", " + low + ", " + high + ")";
    sets.set(o, hull(moved));
    due(call, counted().shift(o, x, low, high), moved.isEmpty() ? 1 : 0);
    check(o, call);
  }

  private void turn(int o) {
    int x = below(k);
    List<long[]> turned = new ArrayList<>();
    for (long[] point : sets.get(o)) {
      long[] next = point.clone();
      next[x] = -next[x];
      if (isInt(next[x])) turned.add(next);
    }
    String call = "turn(" + o + ", " + x + ")";
    sets.set(o, turned);
    due(call, counted().turn(o, x), turned.isEmpty() ? 1 : 0);
    check(o, call);
  }

  private void join(int o, int p) {
    List<long[]> both = new ArrayList<>(sets.get(o));
    both.addAll(sets.get(p));
    if (!isSmall(both)) return;
    String call = "join(" + o + ", " + p + ")";
    due(call, counted().join(o, p), within(sets.get(p), sets.get(o)) ? 0 : 1);
    sets.set(o, hull(both));
    check(o, call);
  }

  private void widen(int o, int p) {
    String call = "widen(" + o + ", " + p + ")";
    List<long[]> set = sets.get(o);
    List<long[]> other = sets.get(p);
    if (set.isEmpty() || other.isEmpty()) {
      due(call, counted().widen(o, p), 0);
      check(o, call);
      return;
    }
    long[][] most = bounds(set);
    long[][] beside = bounds(other);
    boolean more = false;
    for (int i = 0; i < 2 * k; i++) {
      for (int j = 0; j < 2 * k; j++) {
        if (most[i][j] < beside[i][j]) {
          most[i][j] = greatest(i, j);
          more = true;
        }
      }
    }
    due(call, counted().widen(o, p), more ? 1 : 0);
    due("p lies in it, " + call, counted().lies(p, o), 1);
    enclose(o, set, most);
  }

  private void copy(int o, int p) {
    String call = "copy(" + o + ", " + p + ")";
    boolean same = within(sets.get(o), sets.get(p)) && within(sets.get(p), sets.get(o));
    due(call, counted().copy(o, p), same ? 1 : 0);
    sets.set(o, sets.get(p));
    check(o, call);
  }

  private void checkBounds(int o, String after, long[][] most) {
    for (int i = 0; i < 2 * k; i++) {
      for (int j = 0; j <= i; j++) {
        long want = most == null ? NO_BOUND : most[i][j];
        boolean swap = below(2) == 0;
        long got = swap ? counted().bound(o, j, i) : counted().bound(o, i, j);
        due("bound(" + o + ", " + i + ", " + j + ") after " + after, got, want);
      }
    }
  }

  private boolean hasPoint(int o, long[] p) {
    return counted().has(o, (int) p[0], (int) p[1], (int) p[2], (int) p[3], (int) p[4], (int) p[5]);
  }

  private void check(int o, String after) {
    List<long[]> set = sets.get(o);
    due("nothing(" + o + ") after " + after, counted().nothing(o), set.isEmpty() ? 1 : 0);
    checkBounds(o, after, set.isEmpty() ? null : bounds(set));
    int p = below(USED);
    due("lies(" + o + ", " + p + ") after " + after, counted().lies(o, p), within(set, sets.get(p)) ? 1 : 0);
    due("lies(" + p + ", " + o + ") after " + after, counted().lies(p, o), within(sets.get(p), set) ? 1 : 0);
    for (int tries = 0; tries < 3; tries++) {
      long[] point = new long[6];
      for (int x = 0; x < k; x++) {
        long near = set.isEmpty() ? base[x] : set.get(below(set.size()))[x];
        point[x] = Math.max(MIN, Math.min(MAX, near + below(3) - 1));
      }
      for (int x = k; x < 6; x++) point[x] = below(9);
      boolean has = hasPoint(o, point);
      due("has(" + o + ", ..) after " + after, has ? 1 : 0, contains(set, java.util.Arrays.copyOf(point, k)) ? 1 : 0);
    }
  }
}
