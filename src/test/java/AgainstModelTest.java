/** Programs by chance, judged and run by JudgedCode and by the plain model: all must be alike. */
public final class AgainstModelTest {
  public static void main(String[] args) {
    int many = args.length > 0 ? Integer.parseInt(args[0]) : 400;
    long seed = args.length > 1 ? Long.parseLong(args[1]) : 1;
    Due due = new Due();
    int[] refusals = new int[7];
    for (int i = 0; i < many && !due.any(); i++) { one(due, new Programs(seed * 1000003 + i), refusals); }
    System.out.println("judged, by answer: " + java.util.Arrays.toString(refusals));
    due.end();
  }

  private static void one(Due due, Programs by, int[] refusals) {
    Pair pair = new Pair(due);
    setTables(pair, by);
    int length = 4 + by.below(28);
    for (int i = 0; i < length; i++) { pair.feed(183, 0, 0, 0); }
    pair.feed(149, 0, 0, 0);
    for (int i = 0; i < length && !due.any(); i++) { i += fill(pair, by, i, length, refusals); }
    refusals[pair.judge()]++;
    pair.compareFindings();
    runIt(pair, by);
    // What nobody has judged runs too, with faults.
    if (by.oneIn(2)) {
      for (int k = 0; k < 3; k++) {
        int[] s = by.slot();
        pair.alter(by.below(length + 1), s[0], s[1], s[2], s[3]);
      }
      pair.compareFindings();
      pair.judge();
      pair.compareFindings();
      runIt(pair, by);
    }
  }

  private static void setTables(Pair pair, Programs by) {
    pair.context(by.pick(0, 8, 16, 64, 256));
    for (int i = 0; i < 16; i++) { pair.poke(i, by.pick(0, 1, 255, 128, by.below(256))); }
    pair.tick(by.below(1000));
    int tables = by.below(5);
    for (int t = 0; t < tables; t++) {
      int kind = by.below(2);
      pair.table(kind, kind == 0 ? 4 : 1 + by.below(8), by.pick(1, 4, 8, 8, 16, 32, 1 + by.below(32)), by.pick(1, 2, 3, 32));
    }
  }

  /** Tries slots by chance at i till the judge takes one: how many slots more it took. */
  private static int fill(Pair pair, Programs by, int i, int length, int[] refusals) {
    for (int tries = 0; tries < 12; tries++) {
      int[] s = by.slot();
      boolean two = s[0] == 24;
      if (two && i + 1 >= length) { continue; }
      pair.alter(i, s[0], s[1], s[2], s[3]);
      if (two) { pair.alter(i + 1, 0, 0, 0, s[4]); }
      int judged = pair.judge();
      refusals[judged]++;
      if (judged == 0 || by.oneIn(400)) { return two ? 1 : 0; }
      pair.alter(i, 183, 0, 0, 0);
      if (two) { pair.alter(i + 1, 183, 0, 0, 0); }
    }
    return 0;
  }

  private static void runIt(Pair pair, Programs by) {
    pair.compareMachine();
    for (int times = 0; times < 3; times++) {
      pair.start();
      for (int k = 0; k < 40 && pair.code.told(0) == 1; k++) {
        if (by.oneIn(5)) { pair.run(by.below(3)); } else { pair.step(); }
        pair.compareMachine();
      }
      pair.poke(0, 7);
      pair.context(16);
      pair.run(50);
      pair.step();
      pair.compareMemory();
    }
  }
}
