/** What THE JUDGE makes of NUMBERS, l .. h and m .. n, and of jumps by them: each rule at its edges. */
public final class RangeEdgesTest {
  private static final Due due = new Due();
  private static final long W = -1;
  private static final long HALF = 0xFFFFFFFFL;
  private static final long BIG = 1L << 63;

  public static void main(String[] args) {
    sums();
    differences();
    products();
    quotients();
    rests();
    ands();
    orsAndXors();
    lefts();
    rights();
    rightsWithSign();
    moves();
    turnsAndNegations();
    withSign();
    cuts();
    jumpsAtTheEdgesOfARange();
    jumpsAtTheEndsOfNumbers();
    jumpsThatChangeNothing();
    waysThatAreNotGone();
    due.end();
  }

  // ---- how a range is made, and looked at ----

  /** Register r is l .. h, without sign: 8 octets of the CONTEXT, and what is outside ends. Register 9 is used. */
  private static Asm range(Asm a, int r, long l, long h) {
    if (l == h) { return a.wide(r, l); }
    a.load(8, r, 1, 0);
    a.wide(9, l).jumpWith(Asm.GE, r, 9, 2).set(0, 0).end();
    return a.wide(9, h).jumpWith(Asm.LE, r, 9, 2).set(0, 0).end();
  }

  private static Asm two(long l, long h, long m, long n) {
    Asm a = new Asm();
    a.x.context(8);
    return range(range(a, 3, l, h), 4, m, n);
  }

  /** DST and X: l, h, m, n; then low, high of what comes. */
  private static void made(String what, int op, int offset, long... s) {
    Asm a = two(s[0], s[1], s[2], s[3]).feed(op, 3, 4, offset, 0);
    found(what, a, s[4], s[5]);
    if (s[2] != s[3] || s[2] != (int) s[2] || op == 191 || op == 188) { return; }
    a = two(s[0], s[1], s[2], s[3]).feed(op - 8, 3, 0, offset, (int) s[2]);
    found(what + " by IMM", a, s[4], s[5]);
  }

  private static void found(String what, Asm a, long low, long high) {
    int at = a.here();
    a.set(0, 0).end();
    due.is(what + ": judge()", a.x.judge(), 0);
    due.is(what + ": kind", a.x.may(at, 3, 0), 1);
    due.is(what + ": low", a.x.may(at, 3, 1), low);
    due.is(what + ": high", a.x.may(at, 3, 2), high);
  }

  // ---- NUMBERS ----

  /** "+ l + m .. h + n, if h + n is W at most" */
  private static void sums() {
    made("+", 15, 0, 1, 5, 2, 7, 3, 12);
    made("+ to W", 15, 0, 1, W - 1, 0, 1, 1, W);
    made("+ to W + 1", 15, 0, 1, W - 1, 0, 2, 0, W);
    made("+ 0 to all", 15, 0, 0, W, 0, 0, 0, W);
    made("+ to W, of high ones", 15, 0, BIG, BIG + 1, BIG - 2, BIG - 2, W - 1, W);
    made("+ to W + 1, of high ones", 15, 0, BIG, BIG + 1, BIG - 1, BIG - 1, 0, W);
    made("+ twice W", 15, 0, W - 1, W, W - 1, W, 0, W);
    made("4 + to W", 12, 0, 1, HALF - 1, 0, 1, 1, HALF);
    made("4 + to W + 1", 12, 0, 1, HALF - 1, 0, 2, 0, HALF);
    made("4 + twice W", 12, 0, 1, HALF, 1, HALF, 0, HALF);
  }

  /** "- l - n .. h - m, if l >= n" */
  private static void differences() {
    made("- to 0", 31, 0, 5, 9, 0, 5, 0, 9);
    made("- below 0", 31, 0, 5, 9, 0, 6, 0, W);
    made("- one number", 31, 0, 5, 9, 5, 5, 0, 4);
    made("- one number below", 31, 0, 5, 9, 6, 6, 0, W);
    made("one number - a range", 31, 0, 9, 9, 2, 9, 0, 7);
    made("- without sign", 31, 0, BIG, W, 1, BIG, 0, W - 1);
    made("- of what is higher", 31, 0, 1, BIG, BIG, BIG + 1, 0, W);
    made("4 - to 0", 28, 0, 5, 9, 0, 5, 0, 9);
    made("4 - below 0", 28, 0, 5, 9, 0, 6, 0, HALF);
  }

  /** "* l m .. h n, if h and n are below 2^32 and h n is W at most" */
  private static void products() {
    made("*", 47, 0, 2, 3, 4, 5, 8, 15);
    made("* 0", 47, 0, 2, 3, 0, 0, 0, 0);
    made("* of the greatest below 2^32", 47, 0, 1, HALF, 1, HALF, 1, HALF * HALF);
    made("* with h of 2^32", 47, 0, 1, 1L << 32, 1, 1, 0, W);
    made("* with n of 2^32", 47, 0, 1, 1, 1, 1L << 32, 0, W);
    made("* with one number of 2^32", 47, 0, 1, 2, 1L << 32, 1L << 32, 0, W);
    made("* with h of W", 47, 0, 1, W, 1, 1, 0, W);
    made("4 * to W", 44, 0, 1, 65535, 65537, 65537, 65537, HALF);
    made("4 * to W + 1", 44, 0, 1, 65536, 65536, 65536, 0, HALF);
    made("4 * far above W", 44, 0, 1, HALF, 1, HALF, 0, HALF);
  }

  /** "/ (without sign) by one number k not 0: l / k .. h / k, else 0 .. h" */
  private static void quotients() {
    made("/ 1", 63, 0, 5, 9, 1, 1, 5, 9);
    made("/ h", 63, 0, 5, 9, 9, 9, 0, 1);
    made("/ h + 1", 63, 0, 5, 9, 10, 10, 0, 0);
    made("/ W", 63, 0, 1, W, W, W, 0, 1);
    made("/ 2 of all", 63, 0, 2, W, 2, 2, 1, BIG - 1);
    made("/ 0", 63, 0, 5, 9, 0, 0, 0, 9);
    made("/ a range", 63, 0, 5, 9, 1, 2, 0, 9);
    made("one number / a range", 63, 0, 7, 7, 1, 2, 0, 7);
    made("4 / 1", 60, 0, 5, HALF, 1, 1, 5, HALF);
    made("4 / what is cut to 0", 60, 0, 5, 9, 1L << 32, 1L << 32, 0, 9);
    made("4 / what is cut to 2", 60, 0, 5, 9, 1L << 32 | 2, 1L << 32 | 2, 2, 4);
  }

  /** "rest: by such a k: l .. h if h < k, else 0 .. k - 1, else 0 .. h" */
  private static void rests() {
    made("rest by h + 1", 159, 0, 5, 9, 10, 10, 5, 9);
    made("rest by h", 159, 0, 5, 9, 9, 9, 0, 8);
    made("rest by 1", 159, 0, 5, 9, 1, 1, 0, 0);
    made("rest by W", 159, 0, 5, W - 1, W, W, 5, W - 1);
    made("rest of all by W", 159, 0, 5, W, W, W, 0, W - 1);
    made("rest by 0", 159, 0, 5, 9, 0, 0, 0, 9);
    made("rest by a range", 159, 0, 5, 9, 10, 11, 0, 9);
    made("one number, rest by a range", 159, 0, 7, 7, 1, 2, 0, 7);
    made("4 rest by what is cut to 0", 156, 0, 5, 9, 1L << 32, 1L << 32, 0, 9);
    made("4 rest by what is cut to 10", 156, 0, 5, 9, 1L << 32 | 10, 1L << 32 | 10, 5, 9);
    made("4 rest by W", 156, 0, 5, HALF, HALF, HALF, 0, HALF - 1);
  }

  /** "and 0 .. the lesser of h, n" */
  private static void ands() {
    made("and, n is less", 95, 0, 4, 12, 3, 5, 0, 5);
    made("and, h is less", 95, 0, 3, 5, 4, 12, 0, 5);
    made("and 0", 95, 0, 4, 12, 0, 0, 0, 0);
    made("and -1", 95, 0, 4, 12, W, W, 0, 12);
    made("and of all", 95, 0, 1, W, 1, W, 0, W);
    made("and, without sign", 95, 0, 1, BIG, 1, BIG - 1, 0, BIG - 1);
    made("4 and -1", 92, 0, 4, 12, W, W, 0, 12);
  }

  /** "or: the greater of l, m .. the least 2^i - 1 that is not below h, n; xor: 0 .. that" */
  private static void orsAndXors() {
    long[][] h = {{1, 1}, {2, 3}, {3, 3}, {4, 7}, {7, 7}, {8, 15}, {255, 255}, {256, 511}, {HALF, HALF}, {1L << 32, 2 * HALF + 1},
      {BIG - 1, BIG - 1}, {BIG, W}, {W - 1, W}, {W, W}};
    for (long[] e : h) {
      made("or, h of " + e[0], 79, 0, 0, e[0], 0, 0, 0, e[1]);
      made("or, n of " + e[0], 79, 0, 0, 0, 0, e[0], 0, e[1]);
      made("xor, h of " + e[0], 175, 0, 0, e[0], 0, 0, 0, e[1]);
      made("xor, n of " + e[0], 175, 0, 0, 0, 0, e[0], 0, e[1]);
    }
    made("or, l is greater", 79, 0, 6, 7, 2, 3, 6, 7);
    made("or, m is greater", 79, 0, 2, 3, 6, 7, 6, 7);
    made("or, without sign", 79, 0, BIG, W, 1, 2, BIG, W);
    made("xor, both high", 175, 0, 6, 7, 6, 7, 0, 7);
    made("4 or, h of 2^31", 76, 0, 1, 1L << 31, 0, 0, 1, HALF);
    made("4 or, h of 2^31 - 1", 76, 0, 1, HALF >> 1, 0, 0, 1, HALF >> 1);
    made("4 or -1", 76, 0, 1, 2, W, W, HALF, HALF);
    made("4 xor -1", 172, 0, 1, 2, W, W, 0, HALF);
  }

  /** "left by one number (its bits as told): l and h moved, if h comes back when it is moved right again, and is W at most" */
  private static void lefts() {
    made("left by 0", 111, 0, 3, 5, 0, 0, 3, 5);
    made("left by 64", 111, 0, 3, 5, 64, 64, 3, 5);
    made("left by 65", 111, 0, 3, 5, 65, 65, 6, 10);
    made("left by -1", 111, 0, 0, 1, W, W, 0, BIG);
    made("left to the highest", 111, 0, 1, BIG - 1, 1, 1, 2, W - 1);
    made("left over it", 111, 0, 1, BIG, 1, 1, 0, W);
    made("left by 63", 111, 0, 0, 1, 63, 63, 0, BIG);
    made("left by 63, over", 111, 0, 0, 2, 63, 63, 0, W);
    made("left by a range", 111, 0, 1, 2, 0, 1, 0, W);
    made("one number left by a range", 111, 0, 1, 1, 0, 1, 0, W);
    made("all left by 0", 111, 0, 1, W, 0, 0, 1, W);
    made("4 left by 0", 108, 0, 3, 5, 32, 32, 3, 5);
    made("4 left by 33", 108, 0, 3, 5, 33, 33, 6, 10);
    made("4 left to the highest", 108, 0, 1, HALF >> 1, 1, 1, 2, HALF - 1);
    made("4 left over it", 108, 0, 1, 1L << 31, 1, 1, 0, HALF);
    made("4 left by 31", 108, 0, 0, 1, 31, 31, 0, 1L << 31);
    made("4 left by 31, over", 108, 0, 0, 2, 31, 31, 0, HALF);
    made("4 left by a range", 108, 0, 1, 2, 0, 1, 0, HALF);
  }

  /** "right by one: both moved; by others 0 .. h" */
  private static void rights() {
    made("right by 0", 127, 0, 3, W, 0, 0, 3, W);
    made("right by 3", 127, 0, 8, W, 3, 3, 1, W >>> 3);
    made("right by 63", 127, 0, 8, W, 63, 63, 0, 1);
    made("right by 60, of high ones", 127, 0, BIG, W, 60, 60, 8, 15);
    made("right by 63, of high ones", 127, 0, BIG, W, 63, 63, 1, 1);
    made("right by 64", 127, 0, 8, W, 64, 64, 8, W);
    made("right by a range", 127, 0, 8, 9, 3, 4, 0, 9);
    made("one number right by a range", 127, 0, 8, 8, 3, 4, 0, 8);
    made("4 right by 31", 124, 0, 8, HALF, 31, 31, 0, 1);
    made("4 right by 32", 124, 0, 8, HALF, 32, 32, 8, HALF);
    made("4 right by a range", 124, 0, 8, HALF, 3, 4, 0, HALF);
  }

  /** "right with the sign, if h is below half of W (2^63, 2^31): as right; else ALL" */
  private static void rightsWithSign() {
    made("h of 2^63 - 1", 207, 0, 8, BIG - 1, 3, 3, 1, BIG - 1 >> 3);
    made("h of 2^63", 207, 0, 8, BIG, 3, 3, 0, W);
    made("l of 2^63", 207, 0, BIG, BIG + 1, 3, 3, 0, W);
    made("h of 2^63 - 1, by a range", 207, 0, 8, BIG - 1, 3, 4, 0, BIG - 1);
    made("h of 2^63, by a range", 207, 0, 8, BIG, 3, 4, 0, W);
    made("one number below 2^63 by a range", 207, 0, 8, 8, 3, 4, 0, 8);
    made("one number of 2^63 by a range", 207, 0, BIG, BIG, 3, 4, 0, W);
    made("4, h of 2^31 - 1", 204, 0, 8, HALF >> 1, 3, 3, 1, HALF >> 4);
    made("4, h of 2^31", 204, 0, 8, 1L << 31, 3, 3, 0, HALF);
    made("4, h of 2^31 - 1, by a range", 204, 0, 8, HALF >> 1, 3, 4, 0, HALF >> 1);
    made("4, h of 2^31, by a range", 204, 0, 8, 1L << 31, 3, 4, 0, HALF);
    made("4, by 32", 204, 0, 8, 9, 32, 32, 8, 9);
  }

  /** "11 with bits w: l .. h, if h < 2^(w-1)"; "(11 of 4: X, CUT; 11 of 7: X.)" */
  private static void moves() {
    for (int w = 8; w <= 32; w *= 2) {
      long half = 1L << (w - 1);
      made("7 X of " + w + " bits, just", 191, w, 7, 7, 3, half - 1, 3, half - 1);
      made("7 X of " + w + " bits, over", 191, w, 7, 7, 3, half, 0, W);
      made("7 X of " + w + " bits, one number, DST a range", 191, w, 5, 9, half, half, -half, -half);
      if (w < 32) {
        made("4 X of " + w + " bits, just", 188, w, 7, 7, 3, half - 1, 3, half - 1);
        made("4 X of " + w + " bits, over", 188, w, 7, 7, 3, half, 0, HALF);
        made("4 X of " + w + " bits, one number, DST a range", 188, w, 5, 9, half, half, -half & HALF, -half & HALF);
        made("4 X of " + w + " bits, of what is CUT", 188, w, 7, 7, 3, 1L << 32, 0, HALF);
      }
    }
    made("7 X", 191, 0, 7, 7, 3, W, 3, W);
    made("4 X up to W", 188, 0, 7, 7, 3, HALF, 3, HALF);
    made("4 X above W", 188, 0, 7, 7, 3, 1L << 32, 0, HALF);
    made("4 X all above W", 188, 0, 7, 7, 1L << 32, 1L << 32 | 1, 0, HALF);
    made("4 X of one number above W", 188, 0, 7, 7, 1L << 32 | 5, 1L << 32 | 5, 5, 5);
  }

  /** "13: with 64 0 .. 2^64 - 1 (of 4, too), with w below 0 .. 2^w - 1; all others .. ALL" */
  private static void turnsAndNegations() {
    for (int op : new int[] {212, 215, 220}) {
      for (int w = 16; w <= 64; w *= 2) {
        for (long[] r : new long[][] {{0, 1}, {5, W}, {1L << 32, 1L << 40}}) {
          found("13 of " + op + " with " + w, two(r[0], r[1], 0, 0).feed(op, 3, 0, 0, w), 0, w == 64 ? W : (1L << w) - 1);
        }
      }
    }
    found("7 0 - a range", two(5, 9, 0, 0).feed(135, 3, 0, 0, 0), 0, W);
    found("4 0 - a range", two(5, 9, 0, 0).feed(132, 3, 0, 0, 0), 0, HALF);
    found("4 0 - a range above", two(5, W, 0, 0).feed(132, 3, 0, 0, 0), 0, HALF);
  }

  /** "/ (without sign) ..; all others .. ALL": with sign it is told of one number each alone. */
  private static void withSign() {
    made("7 / with sign", 63, 1, 5, 9, 2, 2, 0, W);
    made("7 / with sign, by a range", 63, 1, 5, 5, 1, 2, 0, W);
    made("7 rest with sign", 159, 1, 5, 9, 2, 2, 0, W);
    made("4 / with sign", 60, 1, 5, 9, 2, 2, 0, HALF);
    made("4 rest with sign", 156, 1, 5, 9, 2, 2, 0, HALF);
    made("7 / with sign, of one number each", 63, 1, -9, -9, 2, 2, -4, -4);
    made("7 rest with sign, of one number each", 159, 1, -9, -9, 2, 2, -1, -1);
    made("4 rest with sign, of what is cut to one number each", 156, 1, 5L << 32 | 9, 5L << 32 | 9, 2, 2, 1, 1);
  }

  /** "4 (but 13): each is first CUT: one number to its lowest 32 bits, a range to 0 .. 2^32 - 1 if h is above that" */
  private static void cuts() {
    made("DST, a range up to it", 12, 0, 3, HALF, 0, 0, 3, HALF);
    made("DST, a range above", 12, 0, 3, 1L << 32, 0, 0, 0, HALF);
    made("DST, one number above", 12, 0, 1L << 32 | 3, 1L << 32 | 3, 1, 2, 4, 5);
    made("X, a range up to it", 12, 0, 0, 0, 3, HALF, 3, HALF);
    made("X, a range above", 12, 0, 0, 0, 3, 1L << 32, 0, HALF);
    made("X, one number above", 12, 0, 1, 2, 1L << 32 | 3, 1L << 32 | 3, 4, 5);
    made("X, IMM below 0", 12, 0, 1, 2, -3, -3, HALF - 1, HALF);
    made("both one number then", 44, 0, 1L << 32 | 3, 1L << 32 | 3, 5L << 32 | 2, 5L << 32 | 2, 6, 6);
    made("a range above, moved right", 124, 0, 1L << 32, 1L << 33, 1, 1, 0, HALF >> 1);
    made("a range above, / 2", 60, 0, 1L << 32, 1L << 33, 2, 2, 0, HALF >> 1);
    made("a range above, and 5", 92, 0, 1L << 32, 1L << 33, 5, 5, 0, 5);
  }

  // ---- JUMPS ----

  private static final int[] NARROWING = {Asm.EQ, Asm.NE, Asm.GT, Asm.GE, Asm.LT, Asm.LE};

  private static boolean comes(int code, long d, long x) {
    int u = Long.compareUnsigned(d, x);
    switch (code) {
      case Asm.EQ: return u == 0;
      case Asm.NE: return u != 0;
      case Asm.GT: return u > 0;
      case Asm.GE: return u >= 0;
      case Asm.LT: return u < 0;
      default: return u <= 0;
    }
  }

  /** What is left of l .. h (a short range) on the way where the jump comes so: {kind, low, high}. */
  private static long[] left(int code, long l, long h, long k, boolean kIsX, boolean wanted) {
    long[] found = {0, 0, 0};
    for (long v = l; v != h + 1; v++) {
      if (comes(code, kIsX ? v : k, kIsX ? k : v) != wanted) { continue; }
      if (found[0] == 0) { found = new long[] {1, v, v}; }
      found[2] = v;
    }
    return found;
  }

  /** Two ways: the one that goes on ends with 0, the jump with 1; what r is on each. */
  private static void ways(String what, Asm a, int r, long[] on, long[] jump) {
    int at = a.here();
    a.set(0, 0).end().set(0, 1).end();
    due.is(what + ": judge()", a.x.judge(), 0);
    for (int k = 0; k < 3; k++) {
      due.is(what + ": what goes on, " + k, a.x.may(at, r, k), on[k]);
      due.is(what + ": what jumps, " + k, a.x.may(at + 2, r, k), jump[k]);
    }
  }

  /** "on each way DST's NUMBER is only what it can be there: =, not =, and >, >=, <, <= without sign (not = takes k away only if it is l or h)" */
  private static void jumpsAtTheEdgesOfARange() {
    long[][] ranges = {{10, 14}, {0, 4}, {W - 4, W}, {BIG - 2, BIG + 2}, {10, 11}, {10, 10}};
    for (long[] r : ranges) {
      for (int code : NARROWING) {
        for (long k : new long[] {r[0] - 1, r[0], r[0] + 1, r[1] - 1, r[1], r[1] + 1, 0, W}) {
          String what = "jump " + code + " of " + r[0] + " .. " + r[1] + " by " + k;
          long[] on = left(code, r[0], r[1], k, true, false);
          long[] jump = left(code, r[0], r[1], k, true, true);
          ways(what, two(r[0], r[1], k, k).jumpWith(code, 3, 4, 2), 3, on, jump);
          if (k == (int) k) { ways(what + ", IMM", two(r[0], r[1], 0, 0).jumpBy(code, 3, (int) k, 2), 3, on, jump); }
          on = left(code, r[0], r[1], k, false, false);
          jump = left(code, r[0], r[1], k, false, true);
          ways(what + ", changed about", two(r[0], r[1], k, k).jumpWith(code, 4, 3, 2), 3, on, jump);
        }
      }
    }
  }

  private static long[] number(long low, long high) { return new long[] {1, low, high}; }

  private static final long[] NOT_GONE = {0, 0, 0};

  private static void jumpsAtTheEndsOfNumbers() {
    ways("all = 0", two(0, W, 0, 0).jumpBy(Asm.EQ, 3, 0, 2), 3, number(1, W), number(0, 0));
    ways("all = W", two(0, W, 0, 0).jumpBy(Asm.EQ, 3, -1, 2), 3, number(0, W - 1), number(W, W));
    ways("all not = 5", two(0, W, 0, 0).jumpBy(Asm.NE, 3, 5, 2), 3, number(5, 5), number(0, W));
    ways("all > W", two(0, W, 0, 0).jumpBy(Asm.GT, 3, -1, 2), 3, number(0, W), NOT_GONE);
    ways("all > 0", two(0, W, 0, 0).jumpBy(Asm.GT, 3, 0, 2), 3, number(0, 0), number(1, W));
    ways("all >= 0", two(0, W, 0, 0).jumpBy(Asm.GE, 3, 0, 2), 3, NOT_GONE, number(0, W));
    ways("all >= W", two(0, W, 0, 0).jumpBy(Asm.GE, 3, -1, 2), 3, number(0, W - 1), number(W, W));
    ways("all < 0", two(0, W, 0, 0).jumpBy(Asm.LT, 3, 0, 2), 3, number(0, W), NOT_GONE);
    ways("all < W", two(0, W, 0, 0).jumpBy(Asm.LT, 3, -1, 2), 3, number(W, W), number(0, W - 1));
    ways("all <= W", two(0, W, 0, 0).jumpBy(Asm.LE, 3, -1, 2), 3, NOT_GONE, number(0, W));
    ways("all <= 0", two(0, W, 0, 0).jumpBy(Asm.LE, 3, 0, 2), 3, number(1, W), number(0, 0));
    ways("all < the least IMM", two(0, W, 0, 0).jumpBy(Asm.LT, 3, Integer.MIN_VALUE, 2), 3,
        number(-(1L << 31), W), number(0, -(1L << 31) - 1));
    // X, a register of one number, stays; so does a copy of DST.
    ways("X stays", two(1, 9, 5, 5).jumpWith(Asm.LT, 3, 4, 2), 4, number(5, 5), number(5, 5));
    ways("DST stays when it is the one number", two(1, 9, 5, 5).jumpWith(Asm.LT, 4, 3, 2), 4, number(5, 5), number(5, 5));
    ways("a copy stays", two(1, 9, 5, 5).copy(6, 3).jumpWith(Asm.LT, 3, 4, 2), 6, number(1, 9), number(1, 9));
    ways("DST by itself, one number", two(0, 0, 5, 5).jumpWith(Asm.EQ, 4, 4, 2), 4, NOT_GONE, number(5, 5));
  }

  /** "(Sort 6, those with sign, 4, and two that are not one number: both ways, unchanged ..)" */
  private static void jumpsThatChangeNothing() {
    for (int code : new int[] {1, 2, 3, 4, 5, 6, 7, 10, 11, 12, 13}) {
      boolean narrows = code != 4 && code != 6 && code != 7 && code != 12 && code != 13;
      for (long k : new long[] {0, 1, 5, 9, W}) {
        long[] same = number(1, 9);
        ways("sort 6, " + code, two(1, 9, k, k).jumpHalfWith(code, 3, 4, 2), 3, same, same);
        ways("sort 6 by IMM, " + code, two(1, 9, k, k).jumpHalfBy(code, 3, (int) k, 2), 3, same, same);
        ways("sort 6, one number, " + code, two(5, 5, k, k).jumpHalfWith(code, 3, 4, 2), 3, number(5, 5), number(5, 5));
        if (!narrows) {
          ways("sort 5, " + code, two(1, 9, k, k).jumpWith(code, 3, 4, 2), 3, same, same);
          ways("sort 5 by IMM, " + code, two(1, 9, k, k).jumpBy(code, 3, (int) k, 2), 3, same, same);
          ways("sort 5, one number, " + code, two(5, 5, k, k).jumpWith(code, 3, 4, 2), 3, number(5, 5), number(5, 5));
        }
      }
      ways("two ranges, " + code, two(1, 9, 20, 30).jumpWith(code, 3, 4, 2), 3, number(1, 9), number(1, 9));
      ways("two ranges, X, " + code, two(1, 9, 20, 30).jumpWith(code, 3, 4, 2), 4, number(20, 30), number(20, 30));
      ways("a range with itself, " + code, two(1, 9, 0, 0).jumpWith(code, 3, 3, 2), 3, number(1, 9), number(1, 9));
    }
  }

  /** "a way where nothing is left is not gone": so it is not refused, wherever it goes. */
  private static void waysThatAreNotGone() {
    for (int offset : new int[] {-32768, -1, 3, 32767}) {
      Asm a = two(1, 9, 0, 0).jumpBy(Asm.GT, 3, 9, offset).set(0, 0).end();
      due.is("a jump by " + offset + " that is not gone", a.x.judge(), 0);
      a = two(1, 9, 0, 0).jumpBy(Asm.GT, 3, 8, offset).set(0, 0).end();
      due.is("a jump by " + offset + " that is gone", a.x.judge(), 6);
    }
    Asm a = two(1, 9, 0, 0).set(0, 0).jumpBy(Asm.GE, 3, 1, 1).feed(255, 0, 0, 0, 0).end();
    due.is("a way on that is not gone", a.x.judge(), 0);
    a = two(1, 9, 0, 0).set(0, 0).jumpBy(Asm.GE, 3, 2, 1).feed(255, 0, 0, 0, 0).end();
    due.is("a way on that is gone", a.x.judge(), 1);
    // A jump to the next slot goes there by both ways, if both are gone.
    a = two(1, 9, 0, 0).jumpBy(Asm.GT, 3, 5, 0);
    found("both ways to the next slot", a, 1, 9);
    a = two(1, 9, 0, 0).jumpBy(Asm.EQ, 3, 1, 0);
    found("both ways, joined again", a, 1, 9);
    a = two(1, 9, 0, 0).jumpBy(Asm.GT, 3, 9, 0);
    found("one way to the next slot", a, 1, 9);
    a = new Asm().set(0, 0).jumpBy(Asm.EQ, 0, 0, 0);
    due.is("to a next slot that is not there", a.x.judge(), 6);
    due.is("place()", a.x.place(), 1);
  }
}
