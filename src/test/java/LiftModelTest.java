// Runs of calls with up to six numbers, over all ints, against a slow model: its bounds are sharpened by every rule
// until none sharpens one any more, and what happens to a number is told by a number more that is bound to the old one.
public final class LiftModelTest {
  private static final long MAX = Integer.MAX_VALUE;
  private static final long NO_BOUND = -1099511627776L;
  private static final int USED = 4;
  private static final int MOST_CALLS = 512;
  private static final int DEAREST_STEP = 30;
  private static final int DEAREST_END = 80;
  private static final int SPARE = 7;
  private static int wrong = 0;
  private static int calls = 0;
  private static long seed = 512L;

  private final int run;
  private final int k;
  private final TightOctagon octagon;
  private int used = 0;
  // The bounds of each octagon, those of one doubled; null for nothing.
  private final long[][][] models = new long[USED][][];

  private LiftModelTest(int run) {
    this.run = run;
    k = 1 + below(6);
    octagon = new TightOctagon(k);
    for (int o = 0; o < USED; o++) models[o] = ints(k);
  }

  public static void main(String[] args) {
    for (int run = 0; run < 2000; run++) {
      LiftModelTest test = new LiftModelTest(run);
      while (test.mayStep()) test.step();
      test.end();
    }
    System.out.println(wrong == 0 ? calls + " answers are as due" : wrong + " answers are not as due");
    if (wrong != 0) System.exit(1);
  }

  private static int below(int n) {
    seed = seed * 6364136223846793005L + 1442695040888963407L;
    return (int) Long.remainderUnsigned(seed >>> 33, n);
  }

  private void due(String what, long got, long want) {
    calls++;
    if (got != want && ++wrong < 50) {
      System.out.println("run " + run + ": " + what + " answered " + got + ", due is " + want);
    }
  }

  // What an object answers after its 512th call is free, so a run ends before that.
  private TightOctagon counted() {
    if (++used > MOST_CALLS) throw new IllegalStateException("run " + run + " asks too much of one object");
    return octagon;
  }

  private boolean mayStep() { return used + DEAREST_STEP + DEAREST_END <= MOST_CALLS; }

  private static long greatest(int i) { return (i & 1) == 0 ? MAX : MAX + 1; }

  private static long[][] ints(int k) {
    long[][] m = new long[2 * k][2 * k];
    for (int i = 0; i < 2 * k; i++) {
      for (int j = 0; j < 2 * k; j++) m[i][j] = i == (j ^ 1) ? 0 : greatest(i) + greatest(j);
    }
    return m;
  }

  private static void lower(long[][] m, int i, int j, long c) {
    m[i][j] = Math.min(m[i][j], c);
    m[j][i] = Math.min(m[j][i], c);
  }

  // The tight bounds, or null if no value is left.
  private static long[][] sharpened(long[][] m) {
    int n = m.length;
    for (boolean more = true; more;) {
      more = false;
      for (int i = 0; i < n; i++) {
        for (int j = 0; j < n; j++) {
          long best = m[i][j];
          for (int via = 0; via < n; via++) best = Math.min(best, m[i][via] + m[via ^ 1][j]);
          best = Math.min(best, Math.floorDiv(m[i][i], 2L) + Math.floorDiv(m[j][j], 2L));
          if (i == (j ^ 1) && best < 0) return null;
          if (best < m[i][j]) {
            lower(m, i, j, best);
            more = true;
          }
        }
      }
    }
    return m;
  }

  private static long[][] clone(long[][] m) {
    if (m == null) return null;
    long[][] c = new long[m.length][];
    for (int i = 0; i < m.length; i++) c[i] = m[i].clone();
    return c;
  }

  private static boolean same(long[][] m, long[][] n) { return java.util.Arrays.deepEquals(m, n); }

  private static boolean within(long[][] m, long[][] n) {
    if (m == null || n == null) return m == null;
    for (int i = 0; i < m.length; i++) {
      for (int j = 0; j < m.length; j++) {
        if (m[i][j] > n[i][j]) return false;
      }
    }
    return true;
  }

  // One number more, which is any int.
  private long[][] lifted(long[][] m) {
    long[][] more = ints(k + 1);
    for (int i = 0; i < 2 * k; i++) System.arraycopy(m[i], 0, more[i], 0, 2 * k);
    return more;
  }

  // The last number put for x, and x dropped.
  private long[][] dropped(long[][] more, int x) {
    more = sharpened(more);
    if (more == null) return null;
    long[][] m = new long[2 * k][2 * k];
    for (int i = 0; i < 2 * k; i++) {
      for (int j = 0; j < 2 * k; j++) {
        int from = i >> 1 == x ? 2 * k + (i & 1) : i;
        int to = j >> 1 == x ? 2 * k + (j & 1) : j;
        m[i][j] = more[from][to];
      }
    }
    return m;
  }

  private void step() {
    int o = below(USED);
    int p = below(USED);
    if (models[o] == null && below(3) != 0) {
      due("all(" + o + ") of nothing", counted().all(o), 0);
      models[o] = ints(k);
    }
    switch (below(14)) {
      case 0, 1, 2, 3, 4, 5 -> meet(o);
      case 6 -> forget(o);
      case 7, 8 -> shift(o);
      case 9 -> turn(o);
      case 10 -> join(o, p);
      case 11 -> widen(o, p);
      case 12 -> copy(o, p);
      default -> witness(o);
    }
  }

  private long someBound(int o, int i, int j) {
    if (models[o] == null || below(8) == 0) return below(2001) - 1000;
    long most = models[o][i][j];
    long least = -models[o][i ^ 1][j ^ 1];
    if (i == j) {
      most /= 2;
      least /= 2;
    }
    return switch (below(7)) {
      case 0 -> most - 1;
      case 1 -> most - below(50);
      case 2 -> least + below(4) - 1;
      case 3 -> (most + least) / 2;
      case 4 -> least + below(50);
      case 5 -> below(40) - 20;
      default -> most + below(3) - 1;
    };
  }

  private void meet(int o) {
    int i = below(2 * k);
    int j = below(2 * k);
    long c = someBound(o, i, j);
    if (i == (j ^ 1) && below(4) != 0) c = Math.abs(c);
    long[][] old = models[o];
    if (old != null) {
      long[][] next = clone(old);
      lower(next, i, j, i == j ? 2 * c : c);
      models[o] = next[i][i ^ 1] < 0 ? null : sharpened(next);
    }
    String call = "meet(" + o + ", " + i + ", " + j + ", " + c + ")";
    due(call, counted().meet(o, i, j, c), same(old, models[o]) ? 0 : 1);
    check(o, call);
  }

  private void forget(int o) {
    int x = below(k);
    long[][] old = models[o];
    if (old != null) models[o] = dropped(lifted(old), x);
    String call = "forget(" + o + ", " + x + ")";
    due(call, counted().forget(o, x), same(old, models[o]) ? 0 : 1);
    check(o, call);
  }

  private void shift(int o) {
    int x = below(k);
    long[] far = {0, 1, -1, 7, -100, MAX, -MAX, 2 * MAX, -2 * MAX, 2 * MAX + 1, 1099511627776L, -1099511627776L};
    long low = far[below(below(2) == 0 ? 5 : far.length)];
    long high = below(2) == 0 ? low : far[below(far.length)];
    if (low > high) {
      long kept = low;
      low = high;
      high = kept;
    }
    if (models[o] != null) {
      long[][] more = lifted(models[o]);
      lower(more, 2 * k, 2 * x + 1, high);
      lower(more, 2 * k + 1, 2 * x, -low);
      models[o] = dropped(more, x);
    }
    String call = "shift(" + o + ", " + x + ", " + low + ", " + high + ")";
    due(call, counted().shift(o, x, low, high), models[o] == null ? 1 : 0);
    check(o, call);
  }

  private void turn(int o) {
    int x = below(k);
    if (models[o] != null) {
      long[][] more = lifted(models[o]);
      lower(more, 2 * k, 2 * x, 0);
      lower(more, 2 * k + 1, 2 * x + 1, 0);
      models[o] = dropped(more, x);
    }
    String call = "turn(" + o + ", " + x + ")";
    due(call, counted().turn(o, x), models[o] == null ? 1 : 0);
    check(o, call);
  }

  private void join(int o, int p) {
    long[][] old = models[o];
    if (old == null) {
      models[o] = clone(models[p]);
    } else if (models[p] != null) {
      models[o] = clone(old);
      for (int i = 0; i < 2 * k; i++) {
        for (int j = 0; j < 2 * k; j++) models[o][i][j] = Math.max(old[i][j], models[p][i][j]);
      }
    }
    String call = "join(" + o + ", " + p + ")";
    due(call, counted().join(o, p), same(old, models[o]) ? 0 : 1);
    check(o, call);
  }

  private void widen(int o, int p) {
    long[][] old = models[o];
    if (old != null && models[p] != null) {
      long[][] next = ints(k);
      for (int i = 0; i < 2 * k; i++) {
        for (int j = 0; j < 2 * k; j++) {
          if (old[i][j] >= models[p][i][j]) next[i][j] = old[i][j];
        }
      }
      models[o] = sharpened(next);
    }
    String call = "widen(" + o + ", " + p + ")";
    due(call, counted().widen(o, p), same(old, models[o]) ? 0 : 1);
    check(o, call);
  }

  private void copy(int o, int p) {
    String call = "copy(" + o + ", " + p + ")";
    due(call, counted().copy(o, p), same(models[o], models[p]) ? 1 : 0);
    models[o] = clone(models[p]);
    check(o, call);
  }

  // A value that reaches a bound, found by setting one number after the other to its greatest: so it is the least.
  private void witness(int o) {
    if (models[o] == null) return;
    int i = below(2 * k);
    int j = below(2 * k);
    long most = counted().bound(o, i, j);
    counted().copy(SPARE, o);
    counted().meet(SPARE, i ^ 1, j ^ 1, -most);
    int[] point = new int[6];
    for (int x = 0; x < k; x++) {
      long top = counted().bound(SPARE, 2 * x, 2 * x);
      counted().meet(SPARE, 2 * x + 1, 2 * x + 1, -top);
      point[x] = (int) top;
    }
    boolean has = counted().has(o, point[0], point[1], point[2], point[3], point[4], point[5]);
    due("has(" + o + ", a value with the greatest of " + i + ", " + j + ")", has ? 1 : 0, 1);
    long first = (i & 1) == 0 ? point[i >> 1] : -(long) point[i >> 1];
    long second = (j & 1) == 0 ? point[j >> 1] : -(long) point[j >> 1];
    due("bound(" + o + ", " + i + ", " + j + ")", most, i == j ? first : first + second);
  }

  private void check(int o, String after) {
    long[][] m = models[o];
    due("nothing(" + o + ") after " + after, counted().nothing(o), m == null ? 1 : 0);
    for (int n = 0; n < 20; n++) checkBound(o, below(2 * k), below(2 * k), after);
    int p = below(USED);
    due("lies(" + o + ", " + p + ") after " + after, counted().lies(o, p), within(m, models[p]) ? 1 : 0);
    due("lies(" + p + ", " + o + ") after " + after, counted().lies(p, o), within(models[p], m) ? 1 : 0);
  }

  private void checkBound(int o, int i, int j, String after) {
    long[][] m = models[o];
    long want = m == null ? NO_BOUND : i == j ? m[i][j] / 2 : m[i][j];
    due("bound(" + o + ", " + i + ", " + j + ") after " + after, counted().bound(o, i, j), want);
  }

  // A few bounds are asked for at each step, all of one octagon at the end of the run.
  private void end() {
    int o = below(USED);
    for (int i = 0; i < 2 * k; i++) {
      for (int j = 0; j <= i; j++) checkBound(o, i, j, "the run");
    }
  }
}
