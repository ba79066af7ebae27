/** Calls with any arguments in any order: none throws, and each answers as the plain model does. */
public final class WildCallsTest {
  private static final int[] WILD = {0, 1, 2, 3, 4, 5, 8, 9, 10, 11, 15, 16, 31, 32, 33, 199, 200, 201, 255, 256, 257, 9999, 10000, 10001,
    -1, -2, -8, -512, -513, 32767, 32768, -32768, -32769, Integer.MAX_VALUE, Integer.MIN_VALUE};
  private static final long[] FAR = {0, 1, -1, 1L << 32, 1L << 33, 1L << 34, 1L << 35, (1L << 35) + (1L << 24), 1L << 62, (1L << 62) + 1,
    Long.MAX_VALUE, Long.MIN_VALUE};

  public static void main(String[] args) {
    int many = args.length > 0 ? Integer.parseInt(args[0]) : 400;
    long seed = args.length > 1 ? Long.parseLong(args[1]) : 11;
    Due due = new Due();
    for (int i = 0; i < many && !due.any(); i++) { one(due, new Programs(seed * 1000003 + i)); }
    due.end();
  }

  private static void one(Due due, Programs by) {
    Pair pair = new Pair(due);
    boolean full = by.oneIn(10);
    for (int k = 0; k < 300 && !due.any(); k++) { call(pair, by, full); }
    pair.compareFindings();
    pair.compareMachine();
    pair.compareMemory();
  }

  private static int wild(Programs by) { return by.oneIn(3) ? by.pick(WILD) : by.below(12); }

  private static long far(Programs by) { return FAR[by.below(FAR.length)] + by.below(5) - 2; }

  private static void call(Pair pair, Programs by, boolean full) {
    switch (by.below(full ? 60 : 16)) {
      case 0: pair.table(by.below(3) - by.below(2), by.pick(4, 4, wild(by)), wild(by), wild(by)); break;
      case 1: pair.context(wild(by)); break;
      case 2: pair.poke(wild(by), wild(by)); break;
      case 3: pair.tick(by.oneIn(2) ? by.below(9) : far(by)); break;
      case 4: if (by.oneIn(4)) { pair.cut(by.oneIn(3) ? 0 : wild(by)); } break;
      case 5: pair.judge(); break;
      case 6: pair.start(); break;
      case 7: pair.step(); break;
      case 8: pair.run(by.pick(WILD)); break;
      case 9: pair.alter(wild(by), wild(by), wild(by), wild(by), wild(by)); break;
      case 10: pair.feed(wild(by), wild(by), wild(by), wild(by)); break;
      case 11: pair.compareMachine(); break;
      default:
        int[] s = by.slot();
        pair.feed(s[0], s[1], s[2], s[3]);
        if (s[0] == 24) { pair.feed(0, 0, 0, s[4]); }
    }
  }
}
