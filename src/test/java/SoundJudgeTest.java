/** What the judge takes never faults, ends, and every register is what the judge found it may be. */
public final class SoundJudgeTest {
  public static void main(String[] args) {
    int many = args.length > 0 ? Integer.parseInt(args[0]) : 3000;
    long seed = args.length > 1 ? Long.parseLong(args[1]) : 7;
    Due due = new Due();
    for (int i = 0; i < many && !due.any(); i++) { one(due, new Programs(seed * 1000003 + i)); }
    due.end();
  }

  private static void one(Due due, Programs by) {
    JudgedCode x = new JudgedCode();
    x.context(by.pick(8, 16, 64));
    x.table(0, 4, 8, 3);
    x.table(1, 8, 16, 2);
    x.table(1, 1 + by.below(8), 1 + by.below(32), 4);
    int length = 5 + by.below(60);
    for (int i = 0; i < length; i++) { x.feed(183, 0, 0, 0); }
    x.feed(149, 0, 0, 0);
    for (int i = 0; i < length; i++) { i += fill(x, by, i, length); }
    due.is("judge() of a program that was taken", x.judge(), 0);
    due.is("place()", x.place(), -1);
    for (int times = 0; times < 8; times++) {
      for (int i = 0; i < 64; i++) { x.poke(i, by.pick(0, 0, 255, 128, by.below(256), by.below(8))); }
      follow(due, x, length);
    }
  }

  private static int fill(JudgedCode x, Programs by, int i, int length) {
    for (int tries = 0; tries < 30; tries++) {
      int[] s = by.slot();
      boolean two = s[0] == 24;
      if (two && i + 1 >= length) { continue; }
      x.alter(i, s[0], s[1], s[2], s[3]);
      if (two) { x.alter(i + 1, 0, 0, 0, s[4]); }
      if (x.judge() == 0) { return two ? 1 : 0; }
      x.alter(i, 183, 0, 0, 0);
      if (two) { x.alter(i + 1, 183, 0, 0, 0); }
    }
    return 0;
  }

  private static void follow(Due due, JudgedCode x, int length) {
    x.start();
    int status = 1;
    for (int k = 0; k <= length && status == 1; k++) {
      int at = x.told(1);
      for (int r = 0; r <= 10; r++) { due.holds("register " + r + " before slot " + at + " is " + x.register(r), fits(x, at, r)); }
      status = x.step();
    }
    due.is("the status in the end", status, 2);
  }

  private static boolean fits(JudgedCode x, int at, int r) {
    long v = x.register(r);
    long low = x.may(at, r, 1);
    long high = x.may(at, r, 2);
    int t = (int) x.may(at, r, 3);
    switch ((int) x.may(at, r, 0)) {
      case 0: return true;
      case 1: return Long.compareUnsigned(low, v) <= 0 && Long.compareUnsigned(v, high) <= 0;
      case 2: return v >= (1L << 32) + low && v <= (1L << 32) + high;
      case 3: return v == (1L << 33) + low;
      case 4: return v == (1L << 34) + t;
      case 5: return inValue(x, v, t, low, high);
      default: return v == 0 || inValue(x, v, t, 0, 0);
    }
  }

  private static boolean inValue(JudgedCode x, long v, int t, long low, long high) {
    for (int e = 0; e < 32; e++) {
      long from = PlainModel.valueAt(t, e);
      if (v >= from + low && v <= from + high) { return x.octet(from) >= 0; }
    }
    return false;
  }
}
