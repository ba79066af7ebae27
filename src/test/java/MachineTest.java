/** Instructions, memory, tables and faults, with answers worked out by hand. */
public final class MachineTest {
  private static final Due due = new Due();

  public static void main(String[] args) {
    arithmetic();
    halves();
    divisions();
    moves();
    turns();
    jumps();
    widths();
    changes();
    pairs();
    helpersOfRow();
    helpersOfHash();
    badSlots();
    accesses();
    missingSlots();
    due.end();
  }

  /** What DST becomes. */
  private static long made(int op, int offset, long dst, long x) {
    Asm a = new Asm().wide(3, dst).wide(4, x).feed(op, 3, 4, offset, 0).end();
    due.is("status of op " + op, a.go(), 2);
    return a.x.register(3);
  }

  private static long madeBy(int op, int offset, long dst, int imm) {
    Asm a = new Asm().wide(3, dst).feed(op, 3, 0, offset, imm).end();
    due.is("status of op " + op, a.go(), 2);
    return a.x.register(3);
  }

  private static void arithmetic() {
    long big = 0x8000000000000000L;
    due.is("+", made(15, 0, -1, 2), 1);
    due.is("+ imm", madeBy(7, 0, 5, -6), -1);
    due.is("-", made(31, 0, 0, 1), -1);
    due.is("- imm", madeBy(23, 0, 0, Integer.MIN_VALUE), 1L << 31);
    due.is("*", made(47, 0, 1L << 32, 1L << 32), 0);
    due.is("* imm", madeBy(39, 0, 1L << 32, -1), -(1L << 32));
    due.is("or", made(79, 0, 0xF0, 0x0F), 0xFF);
    due.is("or imm", madeBy(71, 0, 1, -2), -1);
    due.is("and", made(95, 0, -1, 0x123456789AL), 0x123456789AL);
    due.is("and imm", madeBy(87, 0, 0x1FFFFFFFFFL, -16), 0x1FFFFFFFF0L);
    due.is("xor", made(175, 0, -1, 1), -2);
    due.is("xor imm", madeBy(167, 0, 0, -1), -1);
    due.is("left", made(111, 0, 3, 63), big);
    due.is("left by 64", made(111, 0, 3, 64), 3);
    due.is("left imm -1", madeBy(103, 0, 1, -1), big);
    due.is("right", made(127, 0, -1, 63), 1);
    due.is("right by 65", made(127, 0, -1, 65), Long.MAX_VALUE);
    due.is("right with the sign", made(207, 0, big, 62), -2);
    due.is("right with the sign imm", madeBy(199, 0, -8, 65), -4);
    due.is("0 -", madeBy(135, 0, 5, 0), -5);
    due.is("0 - the least", madeBy(135, 0, big, 0), big);
  }

  private static void halves() {
    long up = 0x7777777700000000L;
    due.is("4 +", made(12, 0, up | 0xFFFFFFFFL, 2), 1);
    due.is("4 -", made(28, 0, up, 1), 0xFFFFFFFFL);
    due.is("4 - imm", madeBy(20, 0, up, 1), 0xFFFFFFFFL);
    due.is("4 *", made(44, 0, up | 0x10000, 0x10001), 0x10000);
    due.is("4 or imm", madeBy(68, 0, up, -1), 0xFFFFFFFFL);
    due.is("4 and", made(92, 0, -1, -1), 0xFFFFFFFFL);
    due.is("4 xor", made(172, 0, -1, up), 0xFFFFFFFFL);
    due.is("4 left by 33", made(108, 0, 0xC0000001L, 33), 0x80000002L);
    due.is("4 right by 33", made(124, 0, up | 6, 33), 3);
    due.is("4 right with the sign", made(204, 0, 0x80000000L, 31), 0xFFFFFFFFL);
    due.is("4 right with the sign by 32", made(204, 0, up | 0x80000000L, 32), 0x80000000L);
    due.is("4 right with the sign, positive", made(204, 0, -1L << 32 | 8, 1), 4);
    due.is("4 0 -", madeBy(132, 0, up | 1, 0), 0xFFFFFFFFL);
    due.is("4 X", made(188, 0, 5, -1), 0xFFFFFFFFL);
    due.is("4 X imm", madeBy(180, 0, 5, -1), 0xFFFFFFFFL);
  }

  private static void divisions() {
    long least = Long.MIN_VALUE;
    due.is("/", made(63, 0, -1, 10), 1844674407370955161L);
    due.is("/ by what is above 2^63", made(63, 0, -1, -2), 1);
    due.is("/ by what is above DST", made(63, 0, -2, -1), 0);
    due.is("/ by 0", made(63, 0, 77, 0), 0);
    due.is("rest", made(159, 0, -1, 10), 5);
    due.is("rest by what is above 2^63", made(159, 0, -1, -2), 1);
    due.is("rest by 0", made(159, 0, -77, 0), -77);
    due.is("/ imm -1", madeBy(55, 0, -1, -1), 1);
    due.is("/ signed", made(63, 1, -7, 2), -3);
    due.is("rest signed", made(159, 1, -7, 2), -1);
    due.is("rest signed, by less than 0", made(159, 1, 7, -2), 1);
    due.is("/ signed by 0", made(63, 1, -7, 0), 0);
    due.is("rest signed by 0", made(159, 1, -7, 0), -7);
    due.is("/ the least by -1", made(63, 1, least, -1), least);
    due.is("rest of the least by -1", made(159, 1, least, -1), 0);
    due.is("/ signed imm", madeBy(55, 1, -100, -7), 14);
    long[] some = {1, 2, 3, 5, 7, 255, 1L << 32, Long.MAX_VALUE, Long.MIN_VALUE, Long.MIN_VALUE + 1, -3, -2, -1};
    for (long d : some) {
      for (long x : some) {
        due.is(d + " / " + x, made(63, 0, d, x), Long.divideUnsigned(d, x));
        due.is(d + " rest " + x, made(159, 0, d, x), Long.remainderUnsigned(d, x));
      }
    }
    long up = 0x1234567800000000L;
    due.is("4 /", made(60, 0, up | 0xFFFFFFFFL, up | 2), 0x7FFFFFFF);
    due.is("4 / by 0", made(60, 0, up | 5, up), 0);
    due.is("4 rest by 0", made(156, 0, up | 5, up), 5);
    due.is("4 rest signed by 0", made(156, 1, up | 0xFFFFFFFBL, up), 0xFFFFFFFBL);
    due.is("4 / signed", made(60, 1, 0xFFFFFFF9L, 2), 0xFFFFFFFDL);
    due.is("4 rest signed", made(156, 1, 0xFFFFFFF9L, 2), 0xFFFFFFFFL);
    due.is("4 / the least by -1", made(60, 1, 0x80000000L, -1), 0x80000000L);
    due.is("4 rest of the least by -1", made(156, 1, 0x80000000L, -1), 0);
    due.is("4 / imm without sign", madeBy(52, 0, -1, -1), 1);
  }

  private static void moves() {
    due.is("X 8", made(191, 8, 0, 0x180), -128);
    due.is("X 16", made(191, 16, 0, 0x17FFF), 0x7FFF);
    due.is("X 32", made(191, 32, 0, 0x180000000L), -(1L << 31));
    due.is("X", made(191, 0, 0, Long.MIN_VALUE), Long.MIN_VALUE);
    due.is("X imm", madeBy(183, 0, 9, -5), -5);
    due.is("4 X 8", made(188, 8, 0, 0x180), 0xFFFFFF80L);
    due.is("4 X 16", made(188, 16, 0, -1), 0xFFFFFFFFL);
  }

  private static void turns() {
    long x = 0x1122334455667788L;
    due.is("as they are, 16", madeBy(212, 0, x, 16), 0x7788);
    due.is("as they are, 32", madeBy(212, 0, x, 32), 0x55667788);
    due.is("as they are, 64", madeBy(212, 0, x, 64), x);
    due.is("4 around, 16", madeBy(220, 0, x, 16), 0x8877);
    due.is("4 around, 32", madeBy(220, 0, x, 32), 0x88776655L);
    due.is("4 around, 64", madeBy(220, 0, x, 64), 0x8877665544332211L);
    due.is("7 around, 16", madeBy(215, 0, x, 16), 0x8877);
    due.is("7 around, 32", madeBy(215, 0, x, 32), 0x88776655L);
    due.is("7 around, 64", madeBy(215, 0, x, 64), 0x8877665544332211L);
  }

  private static void jump(int code, boolean half, long dst, long x, boolean jumps) {
    Asm a = new Asm().wide(3, dst).wide(4, x);
    if (half) { a.jumpHalfWith(code, 3, 4, 1); } else { a.jumpWith(code, 3, 4, 1); }
    a.end().set(0, 1).end();
    due.is("status", a.go(), 2);
    due.is("jump " + code + " of " + dst + ", " + x + (half ? " (6)" : " (5)"), a.x.register(0), jumps ? 1 : 0);
    if (x != (int) x) { return; }
    Asm b = new Asm().wide(3, dst);
    if (half) { b.jumpHalfBy(code, 3, (int) x, 1); } else { b.jumpBy(code, 3, (int) x, 1); }
    b.end().set(0, 1).end();
    due.is("status", b.go(), 2);
    due.is("jump imm " + code + " of " + dst + ", " + x + (half ? " (6)" : " (5)"), b.x.register(0), jumps ? 1 : 0);
  }

  private static void jumps() {
    int[] codes = {Asm.EQ, Asm.NE, Asm.GT, Asm.GE, Asm.LT, Asm.LE, Asm.SGT, Asm.SGE, Asm.SLT, Asm.SLE, Asm.BITS};
    long[][] pairs = {{0, 0}, {-1, 1}, {1, -2}, {7, 3}};
    for (int p = 0; p < pairs.length; p++) {
      for (int c = 0; c < codes.length; c++) {
        long d = pairs[p][0];
        long x = pairs[p][1];
        boolean is = dueOf(codes[c], d, x);
        jump(codes[c], false, d, x, is);
        jump(codes[c], true, d & 0xFFFFFFFFL | 0x100000000L, x, is);
        jump(codes[c], true, d, x & 0xFFFFFFFFL | 0x700000000L, is);
      }
    }
    jump(Asm.EQ, false, 1L << 32, 0, false);
    jump(Asm.EQ, true, 1L << 32, 0, true);
    jump(Asm.SLT, true, 0x80000000L, 0, true);
    jump(Asm.SLT, false, 0x80000000L, 0, false);
    jump(Asm.GT, false, Long.MIN_VALUE, Long.MAX_VALUE, true);
    jump(Asm.BITS, true, 1L << 40, 1L << 40, false);
    jump(Asm.BITS, false, 1L << 40, 1L << 40, true);
    Asm a = new Asm().go(2).set(0, 1).end().goFar(1).set(0, 2).set(5, 5).end();
    due.is("status", a.go(), 2);
    due.is("jumped over", a.x.register(0), 0);
    due.is("where both jumps went", a.x.register(5), 5);
  }

  private static boolean dueOf(int code, long d, long x) {
    int u = Long.compareUnsigned(d, x);
    switch (code) {
      case Asm.EQ: return d == x;
      case Asm.NE: return d != x;
      case Asm.GT: return u > 0;
      case Asm.GE: return u >= 0;
      case Asm.LT: return u < 0;
      case Asm.LE: return u <= 0;
      case Asm.SGT: return d > x;
      case Asm.SGE: return d >= x;
      case Asm.SLT: return d < x;
      case Asm.SLE: return d <= x;
      default: return (d & x) != 0;
    }
  }

  private static void widths() {
    Asm a = new Asm().wide(3, 0x8899AABBCCDDEEFFL).put(8, 10, -8, 3);
    a.load(8, 4, 10, -8).load(4, 5, 10, -8).load(2, 6, 10, -8).load(1, 7, 10, -8).loadSigned(4, 8, 10, -8).loadSigned(2, 9, 10, -8);
    a.loadSigned(1, 0, 10, -8).end();
    due.is("status", a.go(), 2);
    due.is("8", a.x.register(4), 0x8899AABBCCDDEEFFL);
    due.is("4", a.x.register(5), 0xCCDDEEFFL);
    due.is("2", a.x.register(6), 0xEEFF);
    due.is("1", a.x.register(7), 0xFF);
    due.is("4 with sign", a.x.register(8), 0xFFFFFFFFCCDDEEFFL);
    due.is("2 with sign", a.x.register(9), 0xFFFFFFFFFFFFEEFFL);
    due.is("1 with sign", a.x.register(0), -1);
    due.is("the lowest octet is first", a.x.octet((1L << 33) - 8), 0xFF);
    due.is("the highest is last", a.x.octet((1L << 33) - 1), 0x88);
    a.clear().wide(3, 0x1122334455667788L).putNumber(8, 10, -8, -2).putNumber(4, 10, -16, -2).putNumber(2, 10, -24, 0x12345);
    a.putNumber(1, 10, -32, 0x181).put(4, 10, -40, 3).put(2, 10, -48, 3).put(1, 10, -56, 3);
    a.load(8, 0, 10, -8).load(8, 1, 10, -16).load(8, 2, 10, -24).load(8, 4, 10, -32).load(8, 5, 10, -40).load(8, 6, 10, -48);
    a.load(8, 7, 10, -56).end();
    due.is("status", a.go(), 2);
    long[] dues = {-2, 0xFFFFFFFEL, 0x2345, 0x1122334455667788L, 0x81, 0x55667788L, 0x7788, 0x88};
    for (int r = 0; r < 8; r++) { due.is("put, register " + r, a.x.register(r), dues[r]); }
  }

  /** Register 0 is 9, 4 (SRC) is given; then the octets, SRC and 0. */
  private static void change(int octets, int how, long stands, long zero, long[] dues) {
    Asm a = new Asm().wide(3, stands).wide(4, 0x100000003L).wide(0, zero).put(8, 10, -8, 3).change(octets, how, 10, -8, 4);
    a.load(8, 5, 10, -8).end();
    due.is("status", a.go(), 2);
    due.is("change " + how + ": what is there", a.x.register(5), dues[0]);
    due.is("change " + how + ": SRC", a.x.register(4), dues[1]);
    due.is("change " + how + ": 0", a.x.register(0), dues[2]);
  }

  private static void changes() {
    long g = 0x100000003L;
    long s = 0x70000000FFFFFFFEL;
    change(8, 0, s, 9, new long[] {s + g, g, 9});
    change(8, 1, s, 9, new long[] {s + g, s, 9});
    change(4, 0, s, 9, new long[] {0x7000000000000001L, g, 9});
    change(4, 1, s, 9, new long[] {0x7000000000000001L, 0xFFFFFFFEL, 9});
    change(8, 64, s, 9, new long[] {s | g, g, 9});
    change(8, 65, s, 9, new long[] {s | g, s, 9});
    change(8, 80, s, 9, new long[] {s & g, g, 9});
    change(4, 81, s, 9, new long[] {0x7000000000000002L, 0xFFFFFFFEL, 9});
    change(8, 160, s, 9, new long[] {s ^ g, g, 9});
    change(8, 161, s, 9, new long[] {s ^ g, s, 9});
    change(8, 225, s, 9, new long[] {g, s, 9});
    change(4, 225, s, 9, new long[] {0x7000000000000003L, 0xFFFFFFFEL, 9});
    change(8, 241, s, s, new long[] {g, g, s});
    change(8, 241, s, 0xFFFFFFFEL, new long[] {s, g, s});
    change(4, 241, s, -2, new long[] {0x7000000000000003L, g, 0xFFFFFFFEL});
    change(4, 241, s, 1, new long[] {s, g, 0xFFFFFFFEL});
  }

  private static void pairs() {
    Asm a = new Asm().wide(3, 0x80000000FFFFFFFFL).wide(4, -1).table(5, 3).end();
    for (int t = 0; t < 4; t++) { a.x.table(0, 4, 1, 1); }
    due.is("status", a.go(), 2);
    due.is("both IMMs", a.x.register(3), 0x80000000FFFFFFFFL);
    due.is("both IMMs, -1", a.x.register(4), -1);
    due.is("TABLE 3", a.x.register(5), (1L << 34) + 3);
    due.is("steps", a.x.told(2), 4);
  }

  /** Puts key at -8, 8 octets of value at -16, and calls. */
  private static long table(Asm a, int helper, int t, long key, long value, long mode) {
    a.clear().wide(3, key).put(8, 10, -8, 3).wide(3, value).put(8, 10, -16, 3);
    a.copy(2, 10).by(Asm.ADD, 2, -8).copy(3, 10).by(Asm.ADD, 3, -16).table(1, t).wide(4, mode).call(helper).end();
    due.is("status of helper " + helper, a.go(), 2);
    return a.x.register(0);
  }

  private static long value(Asm a, int t, int e) {
    long v = 0;
    for (int i = 7; i >= 0; i--) { v = v << 8 | a.x.octet(PlainModel.valueAt(t, e) + i); }
    return v;
  }

  private static Asm rowAndHash() {
    Asm a = new Asm();
    a.x.table(0, 4, 8, 3);
    a.x.table(1, 3, 8, 2);
    return a;
  }

  private static void helpersOfRow() {
    Asm a = rowAndHash();
    due.is("ROW, 1", table(a, 1, 0, 2, 0, 0), PlainModel.valueAt(0, 2));
    due.is("ROW, 1, the key is 4 octets", table(a, 1, 0, 0x500000001L, 0, 0), PlainModel.valueAt(0, 1));
    due.is("ROW, 1, key 0", table(a, 1, 0, 0, 0, 0), PlainModel.valueAt(0, 0));
    due.is("ROW, 1, no such", table(a, 1, 0, 3, 0, 0), 0);
    due.is("ROW, 1, no such by far", table(a, 1, 0, 0xFFFFFFFFL, 0, 0), 0);
    due.is("ROW, 2", table(a, 2, 0, 1, 77, 0), 0);
    due.is("ROW, 2, octets", value(a, 0, 1), 77);
    due.is("ROW, 2, there", table(a, 2, 0, 1, 78, 2), 0);
    due.is("ROW, 2, new", table(a, 2, 0, 1, 79, 1), -1);
    due.is("ROW, 2, mode 3", table(a, 2, 0, 1, 79, 3), -1);
    due.is("ROW, 2, no such", table(a, 2, 0, 3, 79, 0), -1);
    due.is("ROW, 2, octets", value(a, 0, 1), 78);
    due.is("ROW, 3", table(a, 3, 0, 1, 0, 0), -1);
    a.x.tick(123);
    due.is("CLOCK", table(a, 5, 0, 0, 0, 0), 123);
    due.is("PUT", table(a, 6, 1, 0, 0, 0), 0);
    due.is("what was PUT", a.x.putAt(0), (1L << 34) + 1);
  }

  private static void helpersOfHash() {
    Asm a = rowAndHash();
    due.is("HASH, 1, none", table(a, 1, 1, 5, 0, 0), 0);
    due.is("HASH, 3, none", table(a, 3, 1, 5, 0, 0), -1);
    due.is("HASH, 2, only there", table(a, 2, 1, 5, 1, 2), -1);
    due.is("HASH, 2, only new", table(a, 2, 1, 5, 1, 1), 0);
    due.is("HASH, 2, only new again", table(a, 2, 1, 5, 2, 1), -1);
    due.is("HASH, 2, any", table(a, 2, 1, 0x7000006, 3, 0), 0);
    due.is("HASH, 2, no room", table(a, 2, 1, 7, 4, 0), -1);
    due.is("HASH, 2, mode -1", table(a, 2, 1, 5, 4, -1), -1);
    due.is("HASH, 2, mode 2^32", table(a, 2, 1, 5, 4, 1L << 32), -1);
    due.is("HASH, VALUE 0", value(a, 1, 0), 1);
    due.is("HASH, VALUE 1", value(a, 1, 1), 3);
    due.is("HASH, 1, the key is 3 octets", table(a, 1, 1, 6, 0, 0), PlainModel.valueAt(1, 1));
    due.is("HASH, 2, there", table(a, 2, 1, 5, 9, 2), 0);
    due.is("HASH, VALUE 0", value(a, 1, 0), 9);
    due.is("HASH, 3", table(a, 3, 1, 5, 0, 0), 0);
    due.is("keys", a.x.keys(1), 1);
    due.is("HASH, 1, gone", table(a, 1, 1, 5, 0, 0), 0);
    due.is("its octets stay", value(a, 1, 0), 9);
    due.is("HASH, 2, new again", table(a, 2, 1, 8, 10, 0), 0);
    due.is("it has the least number", table(a, 1, 1, 8, 0, 0), PlainModel.valueAt(1, 0));
    due.is("keys", a.x.keys(1), 2);
  }

  private static void bad(int op, int dst, int src, int offset, int imm) {
    Asm a = new Asm().set(0, 0).feed(op, dst, src, offset, imm).set(0, 1).end();
    due.is("judge() of BAD " + op + " " + dst + " " + src + " " + offset + " " + imm, a.x.judge(), 1);
    due.is("place()", a.x.place(), 1);
    due.is("status of BAD " + op + " " + dst + " " + src + " " + offset + " " + imm, a.go(), 3);
    due.is("slot", a.x.told(1), 1);
    due.is("steps", a.x.told(2), 1);
  }

  private static void badSlots() {
    for (int op : new int[] {0, 8, 16, 32, 40, 48, 64, 1, 33, 65, 153, 161, 193, 225, 2, 34, 66, 130, 3, 67, 131, 203, 211, 227,
      231, 247, 228, 244, 229, 245, 230, 246, 134, 150, 142, 158, 13, 14, 141, 157, 143, 140, 223}) {
      bad(op, 0, 0, 0, op == 223 ? 16 : 0);
    }
    for (int op : new int[] {7, 4, 183, 135, 212, 97, 129, 24}) { bad(op, 10, 0, 0, op == 212 ? 16 : 0); }
    for (int op : new int[] {98, 99, 195, 21, 22}) { bad(op, 11, 0, 0, 0); }
    for (int op : new int[] {15, 12, 97, 99, 29, 30, 219}) { bad(op, 1, 11, 0, 0); }
    for (int op : new int[] {7, 4, 183, 98, 21, 22, 212, 215, 220, 135, 5, 6, 149, 133}) { bad(op, 1, 1, 0, op == 133 ? 5 : op > 210 ? 16 : 0); }
    for (int op : new int[] {15, 12, 191, 97, 129, 99, 29, 30, 5, 149, 135, 132}) { bad(op, 0, 0, 0, 1); }
    for (int op : new int[] {7, 12, 183, 180, 135, 212, 215, 149, 133, 6}) { bad(op, 0, 0, 1, op == 133 ? 5 : op > 210 ? 16 : 0); }
    bad(55, 1, 0, 2, 1);
    bad(151, 1, 0, -1, 1);
    bad(191, 1, 1, 1, 0);
    bad(191, 1, 1, 64, 0);
    bad(188, 1, 1, 32, 0);
    bad(183, 1, 0, 8, 0);
    for (int imm : new int[] {0, 8, 17, 24, 48, 65, -16}) { bad(212, 1, 0, 0, imm); }
    for (int imm : new int[] {2, 16, 32, 63, 66, 96, 224, 240, 242, 256, -1}) { bad(219, 10, 1, -8, imm); }
    for (int imm : new int[] {0, 4, 7, -1, 100}) { bad(133, 0, 0, 0, imm); }
    bad(5, 1, 0, 0, 0);
    bad(6, 0, 1, 0, 0);
    badPairs();
  }

  private static void badPairs() {
    int[][] seconds = {{1, 0, 0, 0, 0, 0}, {0, 1, 0, 0, 0, 0}, {0, 0, 1, 0, 0, 0}, {0, 0, 0, 1, 0, 0}, {0, 0, 0, 0, 1, 1}};
    for (int[] s : seconds) {
      Asm a = new Asm().feed(24, 3, s[5], 0, 0).feed(s[0], s[1], s[2], s[3], s[4]).set(0, 0).end();
      a.x.table(0, 4, 1, 1);
      due.is("judge() of a BAD second slot", a.x.judge(), 1);
      due.is("place()", a.x.place(), 0);
      due.is("status of a BAD second slot", a.go(), 3);
    }
    bad(24, 3, 2, 0, 0);
    bad(24, 3, 0, 1, 0);
  }

  private static void access(int status, Asm a) {
    a.end();
    due.is("status of an access", a.go(), status);
    if (status != 2) { due.is("the slot of the fault", a.x.told(1), a.here() - 2); }
  }

  private static Asm withTables() {
    Asm a = new Asm();
    a.x.context(8);
    a.x.table(0, 4, 8, 2);
    a.x.table(1, 8, 4, 2);
    return a;
  }

  private static void accesses() {
    access(2, withTables().load(8, 3, 1, 0));
    access(4, withTables().load(8, 3, 1, 1));
    access(4, withTables().load(1, 3, 1, -1));
    access(4, withTables().load(1, 3, 1, 8));
    access(4, withTables().put(1, 1, 0, 3));
    access(4, withTables().putNumber(1, 1, 0, 3));
    access(4, withTables().change(8, 1, 1, 0, 3));
    access(2, withTables().load(8, 3, 10, -512));
    access(4, withTables().load(1, 3, 10, -513));
    access(2, withTables().load(1, 3, 10, -1));
    access(4, withTables().load(2, 3, 10, -1));
    access(4, withTables().load(1, 3, 10, 0));
    access(4, withTables().load(1, 3, 4, 0));
    access(2, withTables().wide(4, PlainModel.valueAt(0, 1)).put(8, 4, 0, 1));
    access(4, withTables().wide(4, PlainModel.valueAt(0, 1)).put(8, 4, 1, 1));
    access(4, withTables().wide(4, PlainModel.valueAt(0, 2)).load(1, 5, 4, 0));
    access(4, withTables().wide(4, PlainModel.valueAt(2, 0)).load(1, 5, 4, 0));
    access(4, withTables().wide(4, 1L << 34).load(1, 5, 4, 0));
    access(4, withTables().wide(4, -1).load(8, 5, 4, 0));
    access(4, withTables().wide(4, Long.MIN_VALUE).load(8, 5, 4, -1));
    Asm a = withTables().feed(24, 3, 1, 0, 2).feed(0, 0, 0, 0, 0).end();
    due.is("a TABLE that is none", a.go(), 4);
    due.is("its judge()", a.x.judge(), 4);
    due.is("place()", a.x.place(), 0);
    a = withTables().feed(24, 3, 1, 0, -1).feed(0, 0, 0, 0, 0).end();
    due.is("TABLE -1", a.go(), 4);
    due.is("its judge()", a.x.judge(), 4);
    callAccesses();
  }

  private static void callAccesses() {
    access(4, withTables().copy(2, 10).by(Asm.ADD, 2, -8).call(1));
    access(4, withTables().wide(1, (1L << 34) + 2).copy(2, 10).by(Asm.ADD, 2, -8).call(1));
    access(2, withTables().table(1, 0).copy(2, 10).by(Asm.ADD, 2, -4).call(1));
    access(4, withTables().table(1, 0).copy(2, 10).by(Asm.ADD, 2, -3).call(1));
    access(2, withTables().copy(2, 1).table(1, 1).call(3));
    access(4, withTables().copy(2, 1).by(Asm.ADD, 2, 1).table(1, 1).call(3));
    access(2, withTables().copy(2, 1).by(Asm.ADD, 2, 4).copy(3, 1).table(1, 0).call(2));
    access(4, withTables().copy(2, 1).by(Asm.ADD, 2, 4).copy(3, 1).by(Asm.ADD, 3, 1).table(1, 0).call(2));
    // Nothing is done at a fault, not even what comes out as -1 otherwise.
    access(4, withTables().copy(2, 1).table(1, 1).set(4, 9).call(2));
    Asm a = withTables().set(0, 6).set(5, 5).copy(2, 1).table(1, 1).call(2).end();
    due.is("status", a.go(), 4);
    due.is("0 stays", a.x.register(0), 6);
    due.is("5 stays", a.x.register(5), 5);
    due.is("no key came", a.x.keys(1), 0);
    // A VALUE may be a key and a VALUE, its own too.
    a = withTables().wide(2, PlainModel.valueAt(0, 1)).copy(3, 2).putNumber(8, 2, 0, 1).table(1, 0).call(2).end();
    due.is("status", a.go(), 2);
    due.is("a VALUE by itself", a.x.register(0), 0);
    due.is("its octets", value(a, 0, 1), 1);
  }

  private static void missingSlots() {
    Asm a = new Asm().set(0, 1);
    due.is("falls off", a.go(), 5);
    due.is("where", a.x.told(1), 1);
    due.is("steps", a.x.told(2), 1);
    due.is("step()", a.x.step(), -3);
    a = new Asm().go(-3);
    a.x.start();
    due.is("a jump before 0", a.x.step(), 1);
    due.is("where", a.x.told(1), -2);
    due.is("then", a.x.step(), 5);
    due.is("steps", a.x.told(2), 1);
    a = new Asm().goFar(Integer.MAX_VALUE);
    due.is("a jump too far", a.go(), 5);
    a = new Asm().goFar(Integer.MIN_VALUE);
    due.is("a jump too far back", a.go(), 5);
    a = new Asm().set(0, 1).feed(24, 3, 0, 0, 5);
    due.is("24 without its second", a.go(), 5);
    due.is("where", a.x.told(1), 1);
    due.is("steps", a.x.told(2), 1);
    due.is("register 3", a.x.register(3), 0);
    halfAPair();
    a = new Asm().go(1).wide(3, 1).end();
    due.is("a jump to a second slot", a.go(), 3);
    due.is("where", a.x.told(1), 2);
  }

  /** The second slot of 24 lacks, whatever TABLE the first one asks for. */
  private static void halfAPair() {
    for (int t : new int[] {0, 1, 2, 3, 4, -1, Integer.MAX_VALUE, Integer.MIN_VALUE}) {
      Asm a = new Asm();
      a.x.table(0, 4, 1, 1);
      a.feed(24, 3, 1, 0, t);
      due.is("24 of TABLE " + t + " without its second", a.go(), 5);
      due.is("where", a.x.told(1), 0);
      due.is("steps", a.x.told(2), 0);
      due.is("register 3", a.x.register(3), 0);
      a.feed(0, 0, 0, 0, 0);
      due.is("24 of TABLE " + t + " that falls off", a.go(), t == 0 ? 5 : 4);
      due.is("steps", a.x.told(2), t == 0 ? 1 : 0);
    }
    Asm a = new Asm().feed(24, 10, 1, 0, 0);
    due.is("BAD 24 without its second", a.go(), 3);
  }
}
