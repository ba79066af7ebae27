import java.util.Random;

/** Slots by chance, such that most of them mean something; the same seed always gives the same. */
final class Programs {
  private static final int[] NUMBERS = {0, 1, -1, 2, 3, 4, 5, 7, 8, 15, 16, 31, 32, 33, 63, 64, 127, 128, 255, 256,
    32767, 32768, 65535, 65536, 65537, -65536, -65537, -8, -16, 1 << 20, Integer.MAX_VALUE, Integer.MIN_VALUE};
  private static final int[] JUMPS = {1, 5, 2, 3, 10, 11, 6, 7, 12, 13, 4};
  private static final int[] CHANGES = {0, 1, 64, 65, 80, 81, 160, 161, 225, 241};
  private static final int[] HELPERS = {1, 1, 1, 2, 2, 3, 5, 6};

  private final Random random;

  Programs(long seed) { random = new Random(seed); }

  int below(int n) { return random.nextInt(n); }

  boolean oneIn(int n) { return random.nextInt(n) == 0; }

  int pick(int... of) { return of[random.nextInt(of.length)]; }

  int number() {
    switch (below(4)) {
      case 0: return random.nextInt();
      case 1: return below(40) - 4;
      default: return pick(NUMBERS);
    }
  }

  private int register() { return below(10); }

  private int place() { return pick(10, 10, 10, 1, 6, 7, 8, 9, 0, below(11)); }

  private int memoryOffset() {
    switch (below(4)) {
      case 0: return -8 * (1 + below(5));
      case 1: return below(24);
      case 2: return -below(40);
      default: return pick(0, 0, 0, 4, 8, 16, -8, -16, -512, -513, -520, 32767, -32768);
    }
  }

  /** op, regs, offset, imm, and the second imm of 24. */
  int[] slot() {
    int[] s = plainSlot();
    if (oneIn(40)) { s[below(4)] += pick(1, -1, 8, 16); }
    s[0] &= 255;
    s[1] &= 255;
    s[2] = (short) s[2];
    return s;
  }

  private int[] plainSlot() {
    switch (below(14)) {
      case 0: case 1: case 2: case 3: return arithmetic();
      case 4: return jump();
      case 5: case 6: return load();
      case 7: case 8: return put();
      case 9: return new int[] {pick(195, 219), place() + 16 * register(), memoryOffset(), pick(CHANGES), 0};
      case 10: return new int[] {133, 0, 0, oneIn(30) ? number() : pick(HELPERS), 0};
      case 11: return new int[] {24, pick(1, register()) + 16, 0, oneIn(20) ? number() : below(4), 0};
      case 12: return passing();
      default: return new int[] {24, register(), 0, number(), pick(0, 0, number())};
    }
  }

  /** What makes registers 1 .. 4 ready for a call. */
  private int[] passing() {
    switch (below(5)) {
      case 0: return new int[] {191, pick(2, 3) + 16 * 10, 0, 0, 0};
      case 1: return new int[] {7, pick(2, 3), 0, pick(-4, -8, -16, -24, -32, -40), 0};
      case 2: return new int[] {183, 4, 0, below(4), 0};
      case 3: return new int[] {191, pick(6, 7, 8, 9) + 16 * pick(0, 1, 2), 0, 0, 0};
      default: return new int[] {191, pick(1, 2, 3) + 16 * pick(6, 7, 8, 9), 0, 0, 0};
    }
  }

  private int[] arithmetic() {
    int code = below(14);
    int sort = pick(7, 7, 4);
    boolean byRegister = oneIn(2);
    int d = register();
    if (code == 13) { return new int[] {sort + 16 * 13 + (sort == 4 ? pick(0, 8) : 0), d, 0, pick(16, 32, 64), 0}; }
    if (code == 8) { return new int[] {sort + 16 * 8, d, 0, 0, 0}; }
    int offset = code == 3 || code == 9 ? below(2) : 0;
    if (code == 11 && byRegister) { offset = pick(0, 0, 0, 8, 16, sort == 7 ? 32 : 0); }
    int op = sort + 16 * code + (byRegister ? 8 : 0);
    return new int[] {op, d + (byRegister ? 16 * below(11) : 0), offset, byRegister ? 0 : number(), 0};
  }

  private int[] jump() {
    if (oneIn(8)) { return new int[] {5, 0, below(4), 0, 0}; }
    if (oneIn(10)) { return new int[] {6, 0, 0, below(4), 0}; }
    if (oneIn(25)) { return new int[] {149, 0, 0, 0, 0}; }
    boolean byRegister = oneIn(3);
    int op = pick(5, 5, 5, 6) + 16 * pick(JUMPS) + (byRegister ? 8 : 0);
    int offset = oneIn(30) ? pick(-1, -2, 40, 32767, -32768) : below(5);
    int imm = byRegister ? 0 : pick(0, 0, number());
    return new int[] {op, pick(0, register()) + (byRegister ? 16 * below(11) : 0), offset, imm, 0};
  }

  private int[] load() {
    int op = oneIn(4) ? 129 + pick(0, 8, 16) : 97 + pick(0, 8, 16, 24);
    return new int[] {op, register() + 16 * place(), memoryOffset(), 0, 0};
  }

  private int[] put() {
    boolean fromRegister = !oneIn(3);
    int width = pick(0, 8, 16, 24, 24, 24);
    int regs = place() + (fromRegister ? 16 * below(11) : 0);
    return new int[] {(fromRegister ? 99 : 98) + width, regs, memoryOffset(), fromRegister ? 0 : number(), 0};
  }
}
