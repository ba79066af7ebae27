import java.util.Arrays;
import java.util.Set;
import java.util.TreeSet;

/** Section 1 of the document, PROGRAMS: a test for each sentence with an edge. The sentence stands above its test. */
public final class ProgramEdgesTest {
  private static final Due due = new Due();
  private static final long ONES = 0xFFFFFFFFL;
  private static final long BIG = Long.MIN_VALUE;
  private static final long MOST = Long.MAX_VALUE;

  public static void main(String[] args) {
    slotsAtMost();
    formsOfAllOps();
    formsOfSecondSlots();
    xIsImmWithSign();
    wrapAround();
    quotients();
    rests();
    shifts();
    movesWithSign();
    turns();
    comparisons();
    distances();
    widthsRead();
    widthsPut();
    changesWrapAround();
    changesCompare();
    changesOfOneRegister();
    pairs();
    due.end();
  }

  /** "SLOTS, 200 at most, numbered from 0." */
  private static void slotsAtMost() {
    Asm a = new Asm().go(198);
    while (a.here() < 198) { a.feed(255, 15, 15, -1, -1); }
    a.set(0, 1).end();
    due.is("200 slots", a.here(), 200);
    due.is("a jump to an end in the last of 200: judge()", a.x.judge(), 5);
    due.is("place()", a.x.place(), 199);
    due.is("its status", a.go(), 2);
    due.is("where it ended", a.x.told(1), 199);
    a.x.alter(0, 5, 0, 197, 0);
    due.is("a jump to the last but one: judge()", a.x.judge(), 0);
    due.is("its status", a.go(), 2);
    due.is("what it made", a.x.register(0), 1);
    a.x.alter(0, 5, 0, 199, 0);
    due.is("a jump behind the last of 200: judge()", a.x.judge(), 6);
    due.is("its status", a.go(), 5);
    due.is("where it is", a.x.told(1), 200);
    lastOf200();
  }

  /** Behind slot 199 there is none: not for a 24, not to go on to. */
  private static void lastOf200() {
    int[][] slots = {{24, 3, 0, 5, 5, 0}, {24, 3 + 16, 0, 0, 5, 0}, {183, 0, 0, 0, 5, 1}, {5, 0, 0, 0, 5, 1}, {5, 0, 32767, 0, 5, 1},
      {6, 0, 0, Integer.MAX_VALUE, 5, 1}, {22, 0, 0, 0, 5, 1}, {133, 0, 0, 5, 5, 1}};
    for (int[] s : slots) {
      Asm a = new Asm();
      a.x.table(0, 4, 1, 1);
      while (a.here() < 199) { a.set(0, 0); }
      a.x.feed(s[0], s[1], s[2], s[3]);
      due.is("op " + s[0] + " in the last of 200: judge()", a.x.judge(), 6);
      due.is("place()", a.x.place(), 199);
      due.is("its status", a.go(), s[4]);
      due.is("steps", a.x.told(2), 199 + s[5]);
      due.is("register 3", a.x.register(3), 0);
    }
  }

  // ---- forms: which slots are BAD ----

  private static final int[] OFFSETS = {-32768, -32, -16, -8, -2, -1, 0, 1, 2, 7, 8, 9, 15, 16, 17, 24, 31, 32, 33, 63, 64, 65, 32767};
  private static final int[] IMMS = {Integer.MIN_VALUE, -64, -32, -16, -8, -2, -1, 0, 1, 2, 3, 4, 5, 6, 7, 8, 9, 15, 16, 17, 24, 31, 32, 33, 48,
    63, 64, 65, 66, 79, 80, 81, 82, 96, 97, 128, 159, 160, 161, 162, 223, 224, 225, 226, 240, 241, 242, 255, 256, Integer.MAX_VALUE};
  private static final Set<Integer> ANY = null;

  /** Up to which DST and SRC may go, and what OFFSET and IMM may be (ANY: all). */
  private record Form(int dst, int src, Set<Integer> offset, Set<Integer> imm) {
    boolean takes(int d, int s, int o, int i) {
      return d <= dst && s <= src && (offset == ANY || offset.contains(o)) && (imm == ANY || imm.contains(i));
    }
  }

  private static Set<Integer> of(Integer... numbers) { return new TreeSet<>(Arrays.asList(numbers)); }

  /** The form of an OP as the document tells it; null: there is no such one. */
  private static Form form(int op) {
    Set<Integer> zero = of(0);
    switch (op) {
      case 24: return new Form(9, 1, zero, ANY);
      case 5: return new Form(0, 0, ANY, zero);
      case 6: return new Form(0, 0, zero, ANY);
      case 133: return new Form(0, 0, zero, of(1, 2, 3, 5, 6));
      case 149: return new Form(0, 0, zero, zero);
      case 97: case 105: case 113: case 121: case 129: case 137: case 145: return new Form(9, 10, ANY, zero);
      case 98: case 106: case 114: case 122: return new Form(10, 0, ANY, ANY);
      case 99: case 107: case 115: case 123: return new Form(10, 10, ANY, zero);
      case 195: case 219: return new Form(10, 10, ANY, of(0, 1, 64, 65, 80, 81, 160, 161, 225, 241));
      case 132: case 135: return new Form(9, 0, zero, zero);
      case 212: case 215: case 220: return new Form(9, 0, zero, of(16, 32, 64));
      case 52: case 55: case 148: case 151: return new Form(9, 0, of(0, 1), ANY);
      case 60: case 63: case 156: case 159: return new Form(9, 10, of(0, 1), zero);
      case 188: return new Form(9, 10, of(0, 8, 16), zero);
      case 191: return new Form(9, 10, of(0, 8, 16, 32), zero);
      default: return plainForm(op);
    }
  }

  private static Form plainForm(int op) {
    boolean bit8 = (op & 8) != 0;
    int sort = op & 7;
    int code = op >> 4;
    if ((sort == 4 || sort == 7) && (bit8 ? Set.of(0, 1, 2, 4, 5, 6, 7, 10, 12) : Set.of(0, 1, 2, 4, 5, 6, 7, 10, 11, 12)).contains(code)) {
      return bit8 ? new Form(9, 10, of(0), of(0)) : new Form(9, 0, of(0), ANY);
    }
    if ((sort == 5 || sort == 6) && Set.of(1, 2, 3, 4, 5, 6, 7, 10, 11, 12, 13).contains(code)) {
      return bit8 ? new Form(10, 10, ANY, of(0)) : new Form(10, 0, ANY, ANY);
    }
    return null;
  }

  /** Slots are tried as slot 0, with an empty slot behind; an object is used for some hundred of them. */
  private static JudgedCode tried;
  private static int tries;

  private static void tried(Form form, int op, int d, int s, int o, int i) {
    if (tries++ % 100 == 0) {
      tried = new JudgedCode();
      tried.feed(0, 0, 0, 0);
      tried.feed(0, 0, 0, 0);
    }
    boolean isBad = form == null || !form.takes(d, s, o, i);
    tried.alter(0, op, d + 16 * s, o, i);
    String what = "op " + op + ", DST " + d + ", SRC " + s + ", OFFSET " + o + ", IMM " + i;
    due.holds(what + (isBad ? " is BAD" : " is not BAD"), (tried.judge() == 1 && tried.place() == 0) == isBad);
    tried.start();
    due.holds(what + (isBad ? " is the FAULT 3" : " is not the FAULT 3"), (tried.step() == 3) == isBad);
  }

  /** "Others are BAD: so are DST above 9 where it is written, above 10 otherwise, SRC above 10"; "OFFSET is 0 in all others" .. */
  private static void formsOfAllOps() {
    int good = 0;
    for (int op = 0; op <= 255; op++) {
      Form form = form(op);
      good += form == null ? 0 : 1;
      int imm = form == null || form.imm == ANY ? 0 : form.imm.iterator().next();
      for (int r = 0; r < 16; r++) {
        tried(form, op, r, 0, 0, imm);
        tried(form, op, 0, r, 0, imm);
      }
      for (int o : OFFSETS) { tried(form, op, 0, 0, o, imm); }
      for (int i : IMMS) { tried(form, op, 0, 0, 0, i); }
    }
    due.is("how many OPs there are", good, 1 + 4 + 7 + 4 + 4 + 2 + 2 + 3 + 8 + 2 + 20 + 18 + 44);
  }

  /** "24 (two slots: the second OP, DST, SRC, OFFSET are 0) .. SRC 1: TABLE IMM (second IMM 0; OFFSET 0 in both)" */
  private static void formsOfSecondSlots() {
    for (int src = 0; src <= 1; src++) {
      second(src, 0, 0, 0, 0, true);
      for (int op : new int[] {1, 5, 24, 149, 255}) { second(src, op, 0, 0, 0, false); }
      for (int r = 1; r < 16; r++) {
        second(src, 0, r, 0, 0, false);
        second(src, 0, 16 * r, 0, 0, false);
      }
      for (int o : OFFSETS) { second(src, 0, 0, o, 0, o == 0); }
      for (int i : IMMS) { second(src, 0, 0, 0, i, src == 0 || i == 0); }
    }
  }

  private static void second(int src, int op, int regs, int offset, int imm, boolean good) {
    Asm a = new Asm().feed(24, 3, src, 0, 0);
    a.x.table(0, 4, 1, 1);
    a.x.feed(op, regs, offset, imm);
    a.set(0, 0).end();
    String what = "24 with SRC " + src + " and a second slot of " + op + ", " + regs + ", " + offset + ", " + imm;
    due.is(what + ": judge()", a.x.judge(), good ? 0 : 1);
    due.is(what + ": status", a.go(), good ? 2 : 3);
  }

  // ---- what the machine makes, and the judge of one number each ----

  /** DST and X in registers; the judge finds the same one number. */
  private static void made(String what, int op, int offset, long dst, long x, long want) {
    Asm a = new Asm().wide(3, dst).wide(4, x).feed(op, 3, 4, offset, 0).set(0, 0).end();
    same(what + " (" + op + ", " + offset + ": " + dst + ", " + x + ")", a, 5, want);
  }

  private static void madeBy(String what, int op, int offset, long dst, int imm, long want) {
    Asm a = new Asm().wide(3, dst).feed(op, 3, 0, offset, imm).set(0, 0).end();
    same(what + " (" + op + ", " + offset + ": " + dst + ", " + imm + ")", a, 3, want);
  }

  private static void same(String what, Asm a, int at, long want) {
    due.is(what + ": status", a.go(), 2);
    due.is(what, a.x.register(3), want);
    due.is(what + ": judge()", a.x.judge(), 0);
    due.is(what + ": kind", a.x.may(at, 3, 0), 1);
    due.is(what + ": low", a.x.may(at, 3, 1), want);
    due.is(what + ": high", a.x.may(at, 3, 2), want);
  }

  /** "X is SRC's register if OP has the bit 8, else IMM as 64 bits with sign." */
  private static void xIsImmWithSign() {
    for (int imm : new int[] {Integer.MIN_VALUE, -1, 0, 1, Integer.MAX_VALUE}) {
      madeBy("X", 183, 0, 5, imm, imm);
      madeBy("4 X", 180, 0, 5, imm, imm & ONES);
      madeBy("0 + X", 7, 0, 0, imm, imm);
      madeBy("4 0 + X", 4, 0, -1L << 32, imm, imm & ONES);
      madeBy("-1 and X", 87, 0, -1, imm, imm);
      madeBy("0 xor X", 167, 0, 0, imm, imm);
      madeBy("0 or X", 71, 0, 0, imm, imm);
    }
  }

  /** "of 64 bits .. of the lowest 32: operands are cut to these, what comes has 0s above" */
  private static void wrapAround() {
    made("+ to 2^64 - 1", 15, 0, MOST, BIG, -1);
    made("+ to 2^64", 15, 0, -1, 1, 0);
    made("+ of twice the most", 15, 0, -1, -1, -2);
    made("- to 0", 31, 0, -1, -1, 0);
    made("- below 0", 31, 0, 0, 1, -1);
    made("- of the least", 31, 0, 0, BIG, BIG);
    made("* to 2^64", 47, 0, BIG, 2, 0);
    made("* of twice the most", 47, 0, -1, -1, 1);
    madeBy("0 - 0", 135, 0, 0, 0, 0);
    madeBy("0 - 1", 135, 0, 1, 0, -1);
    madeBy("0 - 2^63", 135, 0, BIG, 0, BIG);
    made("4 + to 2^32 - 1", 12, 0, 1L << 31, (1L << 31) - 1, ONES);
    made("4 + to 2^32", 12, 0, ONES, 1, 0);
    made("4 + of what is above", 12, 0, 1L << 32 | 1, 7L << 32 | 2, 3);
    made("4 - below 0", 28, 0, 1L << 32, 1, ONES);
    made("4 - of what is above", 28, 0, 5, 1L << 32, 5);
    made("4 * to 2^32", 44, 0, 1L << 16, 1L << 16, 0);
    made("4 * of the most", 44, 0, -1, ONES, 1);
    madeBy("4 0 - 0", 132, 0, 1L << 32, 0, 0);
    madeBy("4 0 - 1", 132, 0, 1, 0, ONES);
    madeBy("4 0 - 2^31", 132, 0, 1L << 31, 0, 1L << 31);
    made("4 or", 76, 0, BIG | 1, BIG | 2, 3);
    made("4 and", 92, 0, -1, -1, ONES);
    made("4 xor", 172, 0, BIG, 0, 0);
  }

  /** "OFFSET 0: without sign; 1: with sign, towards 0 ..; by 0: the quotient is 0 ..; the least number by -1: itself" */
  private static void quotients() {
    made("the most / 1", 63, 0, -1, 1, -1);
    made("the most / the most", 63, 0, -1, -1, 1);
    made("the most but 1 / the most", 63, 0, -2, -1, 0);
    made("2^63 / 2", 63, 0, BIG, 2, 1L << 62);
    made("2^63 / (2^64 - 1), without sign", 63, 0, BIG, -1, 0);
    made("0 / 2^63", 63, 0, 0, BIG, 0);
    made("0 / the most", 63, 0, 0, -1, 0);
    made("the most / 3", 63, 0, -1, 3, 0x5555555555555555L);
    made("the most / 10", 63, 0, -1, 10, 1844674407370955161L);
    made("the most / (2^63 - 1)", 63, 0, -1, MOST, 2);
    made("(2^64 - 2) / (2^63 - 1)", 63, 0, -2, MOST, 2);
    made("(2^64 - 3) / (2^63 - 1)", 63, 0, -3, MOST, 1);
    made("2^63 / 3", 63, 0, BIG, 3, 3074457345618258602L);
    made("/ 0", 63, 0, -1, 0, 0);
    made("0 / 0", 63, 0, 0, 0, 0);
    madeBy("/ 0 by IMM", 55, 0, 9, 0, 0);
    made("with sign: / 0", 63, 1, -1, 0, 0);
    madeBy("with sign: / 0 by IMM", 55, 1, 9, 0, 0);
    made("with sign: the least / -1", 63, 1, BIG, -1, BIG);
    madeBy("with sign: the least / -1 by IMM", 55, 1, BIG, -1, BIG);
    made("with sign: the least / 1", 63, 1, BIG, 1, BIG);
    made("with sign: the most / -1", 63, 1, MOST, -1, -MOST);
    made("with sign, towards 0: -1 / 2", 63, 1, -1, 2, 0);
    made("with sign, towards 0: -7 / 2", 63, 1, -7, 2, -3);
    made("with sign, towards 0: 7 / -2", 63, 1, 7, -2, -3);
    made("with sign: -7 / -2", 63, 1, -7, -2, 3);
    made("4 / 0", 60, 0, 7L << 32 | 9, 5L << 32, 0);
    made("4 the most / 1", 60, 0, -1, 1, ONES);
    made("4 2^31 / (2^32 - 1), without sign", 60, 0, 1L << 31, ONES, 0);
    made("4 with sign: the least / -1", 60, 1, 1L << 31, ONES, 1L << 31);
    madeBy("4 with sign: the least / -1 by IMM", 52, 1, 1L << 31, -1, 1L << 31);
    made("4 with sign: / 0", 60, 1, ONES, 1L << 32, 0);
    made("4 with sign, towards 0: -7 / 2", 60, 1, -7, 2, ONES - 2);
    made("4 with sign, of what is above", 60, 1, 1L << 32 | 8, -2, ONES - 3);
  }

  /** "9 the rest of that (.. the rest having DST's sign; by 0: .. the rest DST (of 4 its lower half); the least number by -1: .. rest 0)" */
  private static void rests() {
    made("the most rest 2^63", 159, 0, -1, BIG, MOST);
    made("0 rest 2^63", 159, 0, 0, BIG, 0);
    made("the most rest 3", 159, 0, -1, 3, 0);
    made("the most rest 10", 159, 0, -1, 10, 5);
    made("the most rest 2^63 - 1", 159, 0, -1, MOST, 1);
    made("(2^64 - 3) rest 2^63 - 1", 159, 0, -3, MOST, MOST - 1);
    made("2^63 rest 3", 159, 0, BIG, 3, 2);
    made("rest by 1", 159, 0, -1, 1, 0);
    made("rest by itself", 159, 0, -1, -1, 0);
    made("rest by more", 159, 0, 5, 6, 5);
    made("rest by 0", 159, 0, -1, 0, -1);
    madeBy("rest by 0 by IMM", 151, 0, -9, 0, -9);
    made("with sign: rest by 0", 159, 1, BIG, 0, BIG);
    made("with sign: the least rest -1", 159, 1, BIG, -1, 0);
    madeBy("with sign: the least rest -1 by IMM", 151, 1, BIG, -1, 0);
    made("with sign: -7 rest 2", 159, 1, -7, 2, -1);
    made("with sign: 7 rest -2", 159, 1, 7, -2, 1);
    made("with sign: -7 rest -2", 159, 1, -7, -2, -1);
    made("with sign: -6 rest 2", 159, 1, -6, 2, 0);
    made("with sign: the least rest the most", 159, 1, BIG, MOST, -1);
    made("4 rest by 0: the lower half", 156, 0, 7L << 32 | ONES, 5L << 32, ONES);
    made("4 with sign: rest by 0: the lower half", 156, 1, -1, 1L << 32, ONES);
    made("4 with sign: the least rest -1", 156, 1, 1L << 31, -1, 0);
    made("4 with sign: -7 rest 2", 156, 1, -7, 2, ONES);
    made("4 with sign: 7 rest -2", 156, 1, 7, -2, 1);
    made("4 without sign: -7 rest 2", 156, 0, -7, 2, 1);
  }

  /** "6 moved left, 7 right, 12 right with the sign, by X's lowest six (of 4 five) bits" */
  private static void shifts() {
    long[][] left = {{0, 3}, {1, 6}, {62, 3L << 62}, {63, BIG}, {64, 3}, {65, 6}, {127, BIG}, {-1, BIG}, {-64, 3}, {1L << 32, 3}};
    for (long[] s : left) { made("left", 111, 0, 3, s[0], s[1]); }
    long[][] right = {{0, -1}, {1, MOST}, {63, 1}, {64, -1}, {65, MOST}, {-1, 1}, {1L << 40, -1}};
    for (long[] s : right) { made("right", 127, 0, -1, s[0], s[1]); }
    long[][] signed = {{0, BIG}, {1, 3L << 62}, {62, -2}, {63, -1}, {64, BIG}, {-1, -1}};
    for (long[] s : signed) {
      made("right with the sign", 207, 0, BIG, s[0], s[1]);
      madeBy("right with the sign by IMM", 199, 0, BIG, (int) s[0], s[1]);
    }
    made("right with the sign, of what has none", 207, 0, MOST, 62, 1);
    long[][] half = {{0, ONES}, {1, ONES - 1}, {31, 1L << 31}, {32, ONES}, {33, ONES - 1}, {63, 1L << 31}, {-1, 1L << 31}};
    for (long[] s : half) { made("4 left", 108, 0, -1, s[0], s[1]); }
    long[][] halfRight = {{0, ONES}, {1, ONES >> 1}, {31, 1}, {32, ONES}, {63, 1}, {-1, 1}};
    for (long[] s : halfRight) { made("4 right", 124, 0, -1, s[0], s[1]); }
    long[][] halfSigned = {{0, 1L << 31}, {1, 3L << 30}, {31, ONES}, {32, 1L << 31}, {63, ONES}};
    for (long[] s : halfSigned) { made("4 right with the sign", 204, 0, 7L << 32 | 1L << 31, s[0], s[1]); }
    made("4 right with the sign, of what has none below", 204, 0, -1L << 31 & ~(1L << 31) | 8, 1, 4);
  }

  /** "with the bit 8 also 8, 16 and, of 7, 32: so many lowest bits of X, with their highest as sign" */
  private static void movesWithSign() {
    for (int w = 8; w <= 32; w *= 2) {
      long half = 1L << (w - 1);
      long[][] edges = {{0, 0}, {half - 1, half - 1}, {half, -half}, {2 * half - 1, -1}, {2 * half, 0}, {-1, -1}, {BIG, 0}, {BIG | half, -half}};
      for (long[] e : edges) {
        made("X of " + w + " bits", 191, w, 5, e[0], e[1]);
        if (w < 32) { made("4 X of " + w + " bits", 188, w, 5, e[0], e[1] & ONES); }
      }
    }
  }

  /** "13, IMM 16, 32, 64, with SRC 0: the lowest IMM bits of all 64 of DST, others 0 .." */
  private static void turns() {
    long x = 0xF1E2D3C4B5A69788L;
    long[][] edges = {{212, 16, 0x9788L}, {212, 32, 0xB5A69788L}, {212, 64, x}, {220, 16, 0x8897L}, {220, 32, 0x8897A6B5L},
      {220, 64, 0x8897A6B5C4D3E2F1L}, {215, 16, 0x8897L}, {215, 32, 0x8897A6B5L}, {215, 64, 0x8897A6B5C4D3E2F1L}};
    for (long[] e : edges) {
      madeBy("13", (int) e[0], 0, x, (int) e[1], e[2]);
      madeBy("13 of 0", (int) e[0], 0, 0, (int) e[1], 0);
      madeBy("13 of all bits", (int) e[0], 0, -1, (int) e[1], e[1] == 64 ? -1 : (1L << e[1]) - 1);
    }
  }

  // ---- jumps ----

  private static boolean comes(int code, long d, long x, boolean wide) {
    long a = wide ? d : d & ONES;
    long b = wide ? x : x & ONES;
    int u = Long.compareUnsigned(a, b);
    int s = wide ? Long.compare(a, b) : Integer.compare((int) a, (int) b);
    switch (code) {
      case 1: return u == 0;
      case 5: return u != 0;
      case 2: return u > 0;
      case 3: return u >= 0;
      case 10: return u < 0;
      case 11: return u <= 0;
      case 6: return s > 0;
      case 7: return s >= 0;
      case 12: return s < 0;
      case 13: return s <= 0;
      default: return (a & b) != 0;
    }
  }

  /** "SORT 5 (64 bits) and 6 (the lowest 32 of both)": each comparison at the ends of the numbers, with sign and without. */
  private static void comparisons() {
    long[] ends = {0, 1, (1L << 31) - 1, 1L << 31, ONES, 1L << 32, 1L << 32 | 1, MOST, BIG, -1};
    for (int code : new int[] {1, 2, 3, 4, 5, 6, 7, 10, 11, 12, 13}) {
      for (long d : ends) {
        for (long x : ends) {
          for (int sort = 5; sort <= 6; sort++) {
            Asm a = new Asm().wide(3, d).wide(4, x).feed(16 * code + 8 + sort, 3, 4, 7, 0);
            a.x.start();
            a.x.run(3);
            due.is("sort " + sort + ", " + code + " of " + d + ", " + x, a.x.told(1), comes(code, d, x, sort == 5) ? 12 : 5);
            if (x != (int) x) { continue; }
            a = new Asm().wide(3, d).feed(16 * code + sort, 3, 0, 7, (int) x);
            a.x.start();
            a.x.run(2);
            due.is("sort " + sort + ", " + code + " of " + d + ", IMM " + x, a.x.told(1), comes(code, d, x, sort == 5) ? 10 : 3);
          }
        }
      }
    }
  }

  /** "Jumps go OFFSET slots on from the one behind"; "Of 6: 0 jumps IMM slots". */
  private static void distances() {
    for (int o : new int[] {-32768, -3, -2, -1, 0, 1, 32767}) {
      for (int op : new int[] {5, 21, 22}) {
        Asm a = new Asm().set(3, 0).feed(op, op == 5 ? 0 : 3, 0, o, 0).end();
        a.x.start();
        due.is("a jump by " + o, a.x.run(2), 1);
        due.is("where it goes, by " + op, a.x.told(1), 2 + o);
      }
      Asm a = new Asm().set(3, 0).goFar(o).end();
      a.x.start();
      due.is("a far jump by " + o, a.x.run(2), 1);
      due.is("where it goes", a.x.told(1), 2 + o);
    }
    Asm a = new Asm().goFar(32768);
    a.x.start();
    a.x.step();
    due.is("a far jump goes farther than an OFFSET", a.x.told(1), 32769);
    a = new Asm().by(Asm.ADD, 3, 1).go(-2);
    a.x.start();
    due.is("a jump back", a.x.run(9), 1);
    due.is("how often it was done", a.x.register(3), 5);
  }

  // ---- widths ----

  private static final int[] WIDTHS = {1, 2, 4, 8};

  /** The STACK's last 24 octets are 1 .. 24. */
  private static Asm filled() {
    Asm a = new Asm();
    for (int i = 1; i <= 24; i++) { a.putNumber(1, 10, i - 25, i); }
    return a;
  }

  private static long octets(int first, int n) {
    long number = 0;
    for (int i = n - 1; i >= 0; i--) { number = number << 8 | first + i; }
    return number;
  }

  /** "in memory the lowest octet is first .. DST is what stands at SRC + OFFSET (0s above); 129 + (0, 8, 16): with its sign" */
  private static void widthsRead() {
    for (int n : WIDTHS) {
      Asm a = filled().wide(3, -1).load(n, 3, 10, -24).load(n, 4, 10, -n).end();
      due.is("status", a.go(), 2);
      due.is(n + " octets, 0s above", a.x.register(3), octets(1, n));
      due.is("the last " + n + " octets", a.x.register(4), octets(25 - n, n));
      if (n == 8) { continue; }
      long half = 1L << (8 * n - 1);
      for (long v : new long[] {0, half - 1, half, 2 * half - 1}) {
        a = new Asm().wide(3, v).put(8, 10, -8, 3).loadSigned(n, 4, 10, -8).load(n, 5, 10, -8).end();
        due.is("status", a.go(), 2);
        due.is(n + " octets with sign", a.x.register(4), v < half ? v : v - 2 * half);
        due.is(n + " octets without", a.x.register(5), v);
      }
    }
  }

  /** "IMM (8 octets: with its sign) is put at DST + OFFSET"; "SRC's lowest octets are put there": and no others. */
  private static void widthsPut() {
    for (int n : WIDTHS) {
      for (long v : new long[] {0x8182838485868788L, -1, 0, Integer.MIN_VALUE, Integer.MAX_VALUE}) {
        stands("a put of a register", filled().wide(3, v).put(n, 10, -16, 3).end(), n, v);
        if (v == (int) v) { stands("a put of IMM", filled().putNumber(n, 10, -16, (int) v).end(), n, v); }
      }
    }
  }

  private static void stands(String what, Asm a, int n, long v) {
    due.is("status", a.go(), 2);
    for (int i = 0; i < 24; i++) {
      long want = i >= 8 && i < 8 + n ? v >> 8 * (i - 8) & 255 : i + 1;
      due.is(what + ", " + n + " octets: octet " + i, a.x.octet((1L << 33) - 24 + i), want);
    }
  }

  // ---- 195 and 219 ----

  /** What stood at -16, beside octets of 255, is changed by SRC: what is there then, and SRC. */
  private static void change(String what, int n, int how, long stood, long given, long there, long src) {
    Asm a = new Asm().putNumber(8, 10, -24, -1).putNumber(8, 10, -16, -1).putNumber(8, 10, -8, -1);
    a.wide(3, stood).put(n, 10, -16, 3).wide(4, given).wide(0, 77).change(n, how, 10, -16, 4).end();
    due.is(what + ": status", a.go(), 2);
    for (int i = 0; i < 24; i++) {
      due.is(what + ": octet " + i, a.x.octet((1L << 33) - 24 + i), i >= 8 && i < 8 + n ? there >> 8 * (i - 8) & 255 : 255);
    }
    due.is(what + ": SRC", a.x.register(4), src);
    due.is(what + ": 0 stays", a.x.register(0), 77);
  }

  /** "0 what stands at DST + OFFSET + SRC, 64 or, 80 and, 160 xor: put there; with 1 more, SRC becomes what stood there (0s above)" */
  private static void changesWrapAround() {
    change("4 octets, + to 2^32", 4, 0, ONES, 1, 0, 1);
    change("4 octets, + to 2^32, with 1", 4, 1, ONES, 1, 0, ONES);
    change("4 octets, + of what is above", 4, 1, 5, 1L << 32, 5, 5);
    change("4 octets, + -1", 4, 1, 0, -1, ONES, 0);
    change("8 octets, + to 2^64", 8, 0, -1, 1, 0, 1);
    change("8 octets, + to 2^64, with 1", 8, 1, -1, 1, 0, -1);
    change("4 octets, or", 4, 64, 1, -2, ONES, -2);
    change("4 octets, or, with 1", 4, 65, ONES, 0, ONES, ONES);
    change("8 octets, or, with 1", 8, 65, BIG, 1, BIG | 1, BIG);
    change("4 octets, and", 4, 80, ONES, 1L << 32, 0, 1L << 32);
    change("4 octets, and, with 1", 4, 81, ONES, -1, ONES, ONES);
    change("8 octets, and, with 1", 8, 81, -1, BIG, BIG, -1);
    change("4 octets, xor", 4, 160, ONES, -1, 0, -1);
    change("4 octets, xor, with 1", 4, 161, ONES, -1, 0, ONES);
    change("8 octets, xor, with 1", 8, 161, -1, BIG, MOST, -1);
    change("4 octets, 225", 4, 225, ONES, -1L << 32 | 7, 7, ONES);
    change("8 octets, 225", 8, 225, BIG, -1, -1, BIG);
  }

  private static void compared(String what, int n, long stood, long zero, boolean put, long newZero) {
    Asm a = new Asm().wide(3, stood).put(8, 10, -8, 3).wide(0, zero).wide(4, 0x1112131415161718L).change(n, 241, 10, -8, 4).load(8, 5, 10, -8).end();
    due.is(what + ": status", a.go(), 2);
    long there = n == 8 ? 0x1112131415161718L : stood & ~ONES | 0x15161718L;
    due.is(what + ": what is there", a.x.register(5), put ? there : stood);
    due.is(what + ": 0", a.x.register(0), newZero);
    due.is(what + ": SRC stays", a.x.register(4), 0x1112131415161718L);
  }

  /** "241: if what stands there is the lowest octets of register 0, SRC is put there; register 0 is what stood there" */
  private static void changesCompare() {
    compared("alike, 8 octets", 8, -1, -1, true, -1);
    compared("the lowest bit, 8 octets", 8, -1, -2, false, -1);
    compared("the highest bit, 8 octets", 8, -1, MOST, false, -1);
    compared("alike, 4 octets", 4, 7, 7, true, 7);
    compared("alike in the lowest 4", 4, BIG | ONES, ONES, true, ONES);
    compared("alike but for what is above in 0", 4, ONES, -1, true, ONES);
    compared("the lowest bit, 4 octets", 4, -1, -2, false, ONES);
    compared("the highest bit, 4 octets", 4, -1, ONES >> 1, false, ONES);
  }

  /** SRC and DST, or SRC and 0, may be one register. */
  private static void changesOfOneRegister() {
    Asm a = new Asm().copy(3, 10).by(Asm.ADD, 3, -8).change(8, 1, 3, 0, 3).end();
    due.is("an address added where it shows", a.go(), 2);
    due.is("it is what stood there", a.x.register(3), 0);
    due.is("its octet 4", a.x.octet((1L << 33) - 4), 1);
    a = new Asm().putNumber(8, 10, -8, 5).set(0, 5).change(8, 241, 10, -8, 0).load(8, 4, 10, -8).end();
    due.is("241 with SRC 0", a.go(), 2);
    due.is("what is there", a.x.register(4), 5);
    a = new Asm().putNumber(8, 10, -8, 5).set(0, 6).change(8, 241, 10, -8, 0).load(8, 4, 10, -8).end();
    due.is("241 with SRC 0 that is another", a.go(), 2);
    due.is("what is there", a.x.register(4), 5);
    due.is("0 is what stood there", a.x.register(0), 5);
    a = new Asm().putNumber(8, 10, -8, 5).set(0, 6).change(8, 225, 10, -8, 0).load(8, 4, 10, -8).end();
    due.is("225 with SRC 0", a.go(), 2);
    due.is("what is there", a.x.register(4), 6);
    due.is("0 is what stood there", a.x.register(0), 5);
  }

  /** "SRC 0: DST is both IMMs, the second one the highest 32 bits; SRC 1: TABLE IMM" */
  private static void pairs() {
    for (long v : new long[] {0, 1, -1, BIG, MOST, ONES, 1L << 31, 1L << 32, -1L << 32}) {
      Asm a = new Asm().wide(9, v).set(0, 0).end();
      due.is("both IMMs: judge()", a.x.judge(), 0);
      due.is("both IMMs: low", a.x.may(2, 9, 1), v);
      due.is("both IMMs: high", a.x.may(2, 9, 2), v);
      due.is("both IMMs: status", a.go(), 2);
      due.is("both IMMs", a.x.register(9), v);
      due.is("24 is one step", a.x.told(2), 3);
    }
    for (int tables = 0; tables <= 4; tables++) {
      for (int t : new int[] {Integer.MIN_VALUE, -1, 0, 1, 2, 3, 4, 16, 256, Integer.MAX_VALUE}) {
        Asm a = new Asm().table(3, t).set(0, 0).end();
        for (int k = 0; k < tables; k++) { a.x.table(0, 4, 1, 1); }
        boolean there = t >= 0 && t < tables;
        due.is("TABLE " + t + " of " + tables + ": judge()", a.x.judge(), there ? 0 : 4);
        due.is("TABLE " + t + " of " + tables + ": status", a.go(), there ? 2 : 4);
        due.is("TABLE " + t + " of " + tables, a.x.register(3), there ? (1L << 34) + t : 0);
        if (there) { due.is("its t", a.x.may(2, 3, 3), t); }
      }
    }
  }
}
