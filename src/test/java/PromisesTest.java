/** Each promise of the document's face, with its edges and wrong inputs. */
public final class PromisesTest {
  private static final Due due = new Due();

  public static void main(String[] args) {
    newObject();
    feed();
    alter();
    cut();
    table();
    context();
    poke();
    tick();
    judgeAndPlace();
    may();
    cell();
    start();
    step();
    run();
    told();
    register();
    octet();
    putAt();
    keys();
    idleBehindChanges();
    due.end();
  }

  private static void newObject() {
    JudgedCode x = new JudgedCode();
    for (int what = 0; what <= 5; what++) { due.is("new told(" + what + ")", x.told(what), 0); }
    for (int r = -1; r <= 11; r++) { due.is("new register(" + r + ")", x.register(r), 0); }
    due.is("new place()", x.place(), -1);
    due.is("new keys(0)", x.keys(0), -1);
    due.is("new putAt(0)", x.putAt(0), 0);
    due.is("new context octet", x.octet(1L << 32), -1);
    due.is("new stack octet", x.octet((1L << 33) - 1), 0);
    due.is("new step()", x.step(), -3);
    due.is("new run(1)", x.run(1), -3);
    due.is("new start()", x.start(), -3);
    due.is("new may(0, 0, 0)", x.may(0, 0, 0), -1);
    due.is("new cell(0, -1)", x.cell(0, -1), -1);
    due.is("new tick(0)", x.tick(0), 0);
    due.is("new cut(0)", x.cut(0), 0);
    due.is("new context(0)", x.context(0), 0);
  }

  private static void feed() {
    JudgedCode x = new JudgedCode();
    due.is("feed op -1", x.feed(-1, 0, 0, 0), -2);
    due.is("feed op 256", x.feed(256, 0, 0, 0), -2);
    due.is("feed regs -1", x.feed(0, -1, 0, 0), -2);
    due.is("feed regs 256", x.feed(0, 256, 0, 0), -2);
    due.is("feed offset -32769", x.feed(0, 0, -32769, 0), -2);
    due.is("feed offset 32768", x.feed(0, 0, 32768, 0), -2);
    due.is("slots behind refusals", x.told(3), 0);
    for (int i = 0; i < 200; i++) {
      due.is("feed " + i, x.feed(i % 2 * 255, i % 3 == 0 ? 255 : 0, i % 2 == 0 ? -32768 : 32767, Integer.MIN_VALUE), i);
    }
    due.is("feed the 201st", x.feed(0, 0, 0, 0), -4);
    due.is("feed the 201st, out of range too", x.feed(256, 0, 0, 0), -2);
    due.is("slots", x.told(3), 200);
    // DST is the lowest four bits, SRC the next.
    Asm a = new Asm();
    a.x.feed(183, 3, 0, 77);
    a.x.feed(191, 0x30, 0, 0);
    a.end();
    due.is("a copy from 3 to 0 ends", a.go(), 2);
    due.is("what it copied", a.x.register(0), 77);
  }

  private static void alter() {
    Asm a = new Asm().set(0, 1).end();
    due.is("alter -1", a.x.alter(-1, 183, 0, 0, 0), -1);
    due.is("alter 2 of 2", a.x.alter(2, 183, 0, 0, 0), -1);
    due.is("alter 2 of 2, wrong op", a.x.alter(2, 256, 0, 0, 0), -1);
    due.is("alter op", a.x.alter(0, 256, 0, 0, 0), -2);
    due.is("alter regs", a.x.alter(0, 0, 256, 0, 0), -2);
    due.is("alter offset", a.x.alter(0, 0, 0, -32769, 0), -2);
    a.go();
    due.is("not altered by refusals", a.x.register(0), 1);
    due.is("alter", a.x.alter(0, 183, 0, 0, 9), 1);
    due.is("slots", a.x.told(3), 2);
    a.go();
    due.is("altered", a.x.register(0), 9);
  }

  private static void cut() {
    Asm a = new Asm().set(0, 1).set(0, 2).end();
    due.is("cut -1", a.x.cut(-1), -2);
    due.is("cut 4 of 3", a.x.cut(4), -2);
    due.is("cut 3 of 3", a.x.cut(3), 3);
    due.is("cut 1 of 3", a.x.cut(1), 3);
    due.is("slots", a.x.told(3), 1);
    a.end();
    a.go();
    due.is("the first one stayed", a.x.register(0), 1);
    due.is("cut 0 of 2", a.x.cut(0), 2);
    due.is("start() without slots", a.x.start(), -3);
  }

  private static void table() {
    JudgedCode x = new JudgedCode();
    int[][] wrong = {{-1, 4, 1, 1}, {2, 4, 1, 1}, {0, 3, 1, 1}, {0, 5, 1, 1}, {0, 8, 1, 1}, {1, 0, 1, 1}, {1, 9, 1, 1},
      {0, 4, 0, 1}, {0, 4, 33, 1}, {1, 4, 1, 0}, {1, 4, 1, 33}, {1, -1, 1, 1}, {1, 1, -1, 1}, {1, 1, 1, -1}};
    for (int[] w : wrong) { due.is("table" + java.util.Arrays.toString(w), x.table(w[0], w[1], w[2], w[3]), -2); }
    due.is("tables", x.told(4), 0);
    due.is("table 0", x.table(0, 4, 32, 32), 0);
    due.is("table 1", x.table(1, 1, 1, 1), 1);
    due.is("table 2", x.table(1, 8, 32, 32), 2);
    due.is("table 3", x.table(0, 4, 1, 1), 3);
    due.is("table 4", x.table(0, 4, 1, 1), -4);
    due.is("table 4, wrong", x.table(0, 5, 1, 1), -2);
    due.is("tables", x.told(4), 4);
  }

  private static void context() {
    Asm a = new Asm().go(-1);
    JudgedCode x = a.x;
    due.is("context -1", x.context(-1), -2);
    due.is("context 257", x.context(257), -2);
    due.is("context 256", x.context(256), 0);
    for (int i = 0; i < 256; i++) { x.poke(i, 255 - i % 7); }
    due.is("context 3", x.context(3), 256);
    due.is("octet 2", x.octet((1L << 32) + 2), 253);
    due.is("octet 3", x.octet((1L << 32) + 3), -1);
    due.is("context 5", x.context(5), 3);
    due.is("octet 2 stays", x.octet((1L << 32) + 2), 253);
    due.is("octet 3 is new", x.octet((1L << 32) + 3), 0);
    x.start();
    due.is("context while RUNNING", x.context(7), -3);
    due.is("context while RUNNING, wrong", x.context(257), -2);
    due.is("octet 5", x.octet((1L << 32) + 5), -1);
  }

  private static void poke() {
    JudgedCode x = new Asm().go(-1).x;
    due.is("poke without octets", x.poke(0, 1), -1);
    x.context(2);
    due.is("poke -1", x.poke(-1, 1), -1);
    due.is("poke 2 of 2", x.poke(2, 256), -1);
    due.is("poke v -1", x.poke(1, -1), -2);
    due.is("poke v 256", x.poke(1, 256), -2);
    due.is("poke", x.poke(1, 255), 0);
    due.is("poke again", x.poke(1, 3), 255);
    due.is("octet", x.octet((1L << 32) + 1), 3);
    x.start();
    due.is("poke while RUNNING", x.poke(1, 4), -3);
    due.is("poke while RUNNING, v wrong", x.poke(1, 256), -2);
    due.is("poke while RUNNING, none", x.poke(2, 1), -1);
    due.is("octet stays", x.octet((1L << 32) + 1), 3);
  }

  private static void tick() {
    Asm a = new Asm().call(5).end();
    due.is("tick -1", a.x.tick(-1), -2);
    due.is("tick least", a.x.tick(Long.MIN_VALUE), -2);
    due.is("tick 5", a.x.tick(5), 5);
    due.is("tick over", a.x.tick((1L << 62) - 4), -2);
    due.is("tick greatest", a.x.tick(Long.MAX_VALUE), -2);
    due.is("tick 0", a.x.tick(0), 5);
    a.go();
    due.is("the CLOCK", a.x.register(0), 5);
    due.is("tick to 2^62", a.x.tick((1L << 62) - 5), 1L << 62);
    due.is("tick over by 1", a.x.tick(1), -2);
    a.go();
    due.is("the CLOCK at last", a.x.register(0), 1L << 62);
  }

  private static void judgeAndPlace() {
    Asm a = new Asm();
    due.is("judge() without slots", a.x.judge(), 6);
    due.is("place()", a.x.place(), 0);
    a.set(0, 0).end();
    due.is("place() before the next judge()", a.x.place(), 0);
    due.is("judge()", a.x.judge(), 0);
    due.is("place()", a.x.place(), -1);
    a.clear().set(2, 0).copy(0, 3).end();
    due.is("judge() of NONE", a.x.judge(), 2);
    due.is("place() of NONE", a.x.place(), 1);
    a.clear();
    due.is("place() stays", a.x.place(), 1);
  }

  private static void may() {
    Asm a = new Asm();
    a.x.context(8);
    a.x.table(0, 4, 8, 4);
    a.x.table(1, 4, 8, 4);
    a.load(1, 6, 1, 0).by(Asm.ADD, 1, 3).copy(7, 10).by(Asm.ADD, 7, -16).putNumber(4, 10, -4, 0);
    a.copy(2, 10).by(Asm.ADD, 2, -4).table(1, 1);
    int call = a.here();
    a.call(1).jumpBy(Asm.NE, 0, 0, 2).set(0, 0).end().set(0, 1).end();
    due.is("judge()", a.x.judge(), 0);
    found(a, 0, 0, 0, 0, 0, 0, 0);
    found(a, 0, 1, 2, 0, 0, 0, 0);
    found(a, 0, 10, 3, 0, 0, 0, 0);
    found(a, 1, 6, 1, 0, 255, 0, 0);
    found(a, 2, 1, 2, 3, 3, 0, 0);
    found(a, 4, 7, 3, -16, 0, 0, 0);
    found(a, call, 1, 4, 0, 0, 1, 0);
    found(a, call - 1, 1, 0, 0, 0, 0, 0);
    found(a, call + 1, 0, 6, 0, 0, 1, call);
    found(a, call + 1, 1, 0, 0, 0, 0, 0);
    found(a, call + 1, 5, 0, 0, 0, 0, 0);
    found(a, call + 2, 0, 1, 0, 0, 0, 0);
    found(a, call + 4, 0, 5, 0, 0, 1, 0);
    due.is("may(-1, 0, 0)", a.x.may(-1, 0, 0), -1);
    due.is("may(n, 0, 9)", a.x.may(a.here(), 0, 9), -1);
    due.is("may(0, -1, 0)", a.x.may(0, -1, 0), -1);
    due.is("may(0, 11, 9)", a.x.may(0, 11, 9), -1);
    due.is("may(0, 0, -1)", a.x.may(0, 0, -1), -2);
    due.is("may(0, 0, 5)", a.x.may(0, 0, 5), -2);
    mayStaysTillTheNextJudge();
    notGoneOnFromTheRefused();
  }

  private static void found(Asm a, int i, int r, long... dues) {
    for (int what = 0; what < 5; what++) {
      due.is("may(" + i + ", " + r + ", " + what + ")", a.x.may(i, r, what), dues[what]);
    }
  }

  private static void mayStaysTillTheNextJudge() {
    Asm a = new Asm().set(0, 5).set(3, 6).end();
    a.x.judge();
    a.x.alter(0, 183, 0, 0, 7);
    due.is("may() behind alter()", a.x.may(1, 0, 1), 5);
    a.x.cut(1);
    due.is("may() of a slot that is cut", a.x.may(1, 0, 1), -1);
    a.end().end().end();
    due.is("may() of a slot that is there again", a.x.may(1, 0, 1), 5);
    due.is("may() of a slot that is new", a.x.may(3, 0, 0), 0);
    a.x.judge();
    due.is("may() behind judge()", a.x.may(1, 0, 1), 7);
    due.is("may() of a slot that is not come to any more", a.x.may(2, 0, 0), 0);
    // As far as it went: slot 3 was come to from 1 before slot 2 was refused.
    a = new Asm().set(0, 5).jumpHalfBy(Asm.EQ, 0, 5, 1).copy(0, 4).end();
    due.is("judge()", a.x.judge(), 2);
    due.is("place()", a.x.place(), 2);
    due.is("may(3, 0, 1)", a.x.may(3, 0, 1), 5);
    a = new Asm();
    a.x.judge();
    a.set(0, 0);
    due.is("may() behind judge() without slots", a.x.may(0, 1, 0), 0);
  }

  /** A slot at which the program is refused is gone on from by none of its ways. */
  private static void notGoneOnFromTheRefused() {
    int[][] branches = {{Asm.SGT, 1}, {Asm.EQ, 1}, {Asm.LT, 1}, {Asm.SGT, -2}, {Asm.EQ, -1}, {Asm.LT, -32768}};
    for (int[] b : branches) {
      Asm a = new Asm();
      a.x.context(1);
      a.load(1, 2, 1, 0).putNumber(1, 10, -1, 0).jumpBy(b[0], 2, 7, b[1]).end();
      due.is("a jump that is not there", a.x.judge(), 6);
      due.is("place()", a.x.place(), 2);
      due.is("the refused slot", a.x.may(2, 2, 2), 255);
      due.is("a cell of the refused slot", a.x.cell(2, -1), 1);
      found(a, 3, 1, 0, 0, 0, 0, 0);
      found(a, 3, 2, 0, 0, 0, 0, 0);
      due.is("a cell behind", a.x.cell(3, -1), 0);
    }
    // Slot 5 was come to from 2 with 7 in 3; the refused slot 4 would have joined 8 to it.
    Asm a = new Asm();
    a.x.context(1);
    a.load(1, 2, 1, 0).set(3, 7).jumpBy(Asm.SGT, 2, 1, 2).set(3, 8).jumpBy(Asm.SGT, 2, 1, 9).end();
    due.is("a jump that is not there", a.x.judge(), 6);
    due.is("place()", a.x.place(), 4);
    found(a, 5, 3, 1, 7, 7, 0, 0);
    // Neither way of a VALUE or 0 is gone.
    a = new Asm();
    a.table(1, 0);
    a.x.table(0, 4, 1, 1);
    a.putNumber(4, 10, -4, 0).copy(2, 10).by(Asm.ADD, 2, -4).call(1).jumpBy(Asm.EQ, 0, 0, 9).end();
    due.is("a jump of a VALUE or 0", a.x.judge(), 6);
    due.is("place()", a.x.place(), 6);
    found(a, 6, 0, 6, 0, 0, 0, 5);
    found(a, 7, 0, 0, 0, 0, 0, 0);
  }

  private static void cell() {
    Asm a = new Asm().set(3, 4).put(8, 10, -8, 3).put(8, 10, -16, 1).putNumber(2, 10, -20, 7).putNumber(1, 10, -512, 7);
    a.putNumber(1, 10, -6, 1).putNumber(1, 10, -9, 1).set(0, 0).end();
    due.is("judge()", a.x.judge(), 0);
    due.is("cell NONE", a.x.cell(0, -1), 0);
    for (int o = -8; o < 0; o++) { due.is("cell of a NUMBER", a.x.cell(2, o), 2); }
    for (int o = -16; o < -8; o++) { due.is("cell of another", a.x.cell(3, o), 3); }
    due.is("cell known", a.x.cell(4, -20), 1);
    due.is("cell known", a.x.cell(4, -19), 1);
    due.is("cell beside", a.x.cell(4, -18), 0);
    due.is("cell beside", a.x.cell(4, -21), 0);
    due.is("the least cell", a.x.cell(5, -512), 1);
    for (int o = -8; o < 0; o++) { due.is("cell that held a NUMBER", a.x.cell(6, o), 1); }
    for (int o = -16; o < -8; o++) { due.is("cell that held another", a.x.cell(7, o), o == -9 ? 1 : 0); }
    due.is("cell(.., -513)", a.x.cell(0, -513), -1);
    due.is("cell(.., 0)", a.x.cell(0, 0), -1);
    due.is("cell(-1, ..)", a.x.cell(-1, -1), -1);
    due.is("cell(n, ..)", a.x.cell(a.here(), -1), -1);
    a.clear().set(0, 0);
    due.is("cell of a slot that was come to", a.x.cell(0, -1), 0);
  }

  private static void start() {
    Asm a = new Asm().set(0, 1).putNumber(1, 10, -1, 9).set(1, 77).call(6).go(-5);
    due.is("start()", a.x.start(), 1);
    a.x.run(4);
    due.is("steps", a.x.told(2), 4);
    due.is("PUT", a.x.told(5), 1);
    due.is("the STACK", a.x.octet((1L << 33) - 1), 9);
    due.is("start() again", a.x.start(), 1);
    due.is("status", a.x.told(0), 1);
    due.is("the slot", a.x.told(1), 0);
    due.is("steps", a.x.told(2), 0);
    due.is("PUT", a.x.told(5), 0);
    due.is("putAt(0)", a.x.putAt(0), 0);
    due.is("the STACK", a.x.octet((1L << 33) - 1), 0);
    for (int r = 0; r <= 10; r++) {
      due.is("register " + r, a.x.register(r), r == 1 ? 1L << 32 : r == 10 ? 1L << 33 : 0);
    }
  }

  private static void step() {
    Asm a = new Asm().wide(3, 1).end();
    due.is("step() before START", a.x.step(), -3);
    a.x.start();
    due.is("step()", a.x.step(), 1);
    due.is("the slot behind 24", a.x.told(1), 2);
    due.is("step() to the end", a.x.step(), 2);
    due.is("the slot at the end", a.x.told(1), 2);
    due.is("steps", a.x.told(2), 2);
    due.is("step() behind the end", a.x.step(), -3);
    due.is("steps", a.x.told(2), 2);
  }

  private static void run() {
    Asm a = new Asm().by(Asm.ADD, 0, 1).go(-2);
    due.is("run(-1)", a.x.run(-1), -2);
    due.is("run(10001)", a.x.run(10001), -2);
    due.is("run(0)", a.x.run(0), -3);
    a.x.start();
    due.is("run(-1)", a.x.run(-1), -2);
    due.is("run(10001)", a.x.run(10001), -2);
    due.is("run(0)", a.x.run(0), 1);
    due.is("steps", a.x.told(2), 0);
    due.is("run(10000)", a.x.run(10000), 1);
    due.is("steps", a.x.told(2), 10000);
    due.is("what it did", a.x.register(0), 5000);
    due.is("run(3)", a.x.run(3), 1);
    due.is("the slot", a.x.told(1), 1);
    a.clear().set(0, 1).end();
    a.x.start();
    due.is("run(1)", a.x.run(1), 1);
    due.is("run(5)", a.x.run(5), 2);
    due.is("steps", a.x.told(2), 2);
    due.is("run(5) behind the end", a.x.run(5), -3);
  }

  private static void told() {
    Asm a = new Asm().set(1, 4).call(6).feed(255, 0, 0, 0, 0);
    a.x.table(0, 4, 1, 1);
    a.go();
    long[] dues = {3, 2, 2, 3, 1, 1};
    for (int what = 0; what <= 5; what++) { due.is("told(" + what + ")", a.x.told(what), dues[what]); }
    due.is("told(-1)", a.x.told(-1), -2);
    due.is("told(6)", a.x.told(6), -2);
  }

  private static void register() {
    Asm a = new Asm();
    for (int r = 0; r <= 9; r++) { a.set(r, -r - 1); }
    a.end().go();
    for (int r = 0; r <= 9; r++) { due.is("register " + r, a.x.register(r), -r - 1); }
    due.is("register 10", a.x.register(10), 1L << 33);
    due.is("register 11", a.x.register(11), 0);
    due.is("register -1", a.x.register(-1), 0);
    due.is("register least", a.x.register(Integer.MIN_VALUE), 0);
  }

  private static void octet() {
    JudgedCode x = new JudgedCode();
    x.context(4);
    x.poke(3, 200);
    x.table(0, 4, 5, 2);
    x.table(1, 2, 32, 32);
    due.is("context 3", x.octet((1L << 32) + 3), 200);
    due.is("context 4", x.octet((1L << 32) + 4), -1);
    due.is("context -1", x.octet((1L << 32) - 1), -1);
    due.is("stack first", x.octet((1L << 33) - 512), 0);
    due.is("stack before", x.octet((1L << 33) - 513), -1);
    due.is("stack last", x.octet((1L << 33) - 1), 0);
    due.is("stack behind", x.octet(1L << 33), -1);
    due.is("table", x.octet(1L << 34), -1);
    due.is("value 0 of 0", x.octet(1L << 35), 0);
    due.is("value 0 of 0, last", x.octet((1L << 35) + 4), 0);
    due.is("value 0 of 0, behind", x.octet((1L << 35) + 5), -1);
    due.is("value 1 of 0", x.octet((1L << 35) + 4096 + 4), 0);
    due.is("value 2 of 0", x.octet((1L << 35) + 8192), -1);
    due.is("value 31 of 1", x.octet((1L << 35) + (1L << 24) + 31 * 4096 + 31), 0);
    due.is("value 32 of 1", x.octet((1L << 35) + (1L << 24) + 32 * 4096), -1);
    due.is("table 2", x.octet((1L << 35) + (2L << 24)), -1);
    for (long a : new long[] {0, -1, Long.MIN_VALUE, Long.MAX_VALUE, 1L << 36, -(1L << 35), (1L << 63) + (1L << 32)}) {
      due.is("octet " + a, x.octet(a), -1);
    }
  }

  private static void putAt() {
    Asm a = new Asm().by(Asm.ADD, 6, 1).copy(1, 6).call(6).go(-4);
    a.x.start();
    a.x.run(4 * 5);
    for (int i = -1; i <= 33; i++) { due.is("putAt(" + i + ") of 5", a.x.putAt(i), i >= 0 && i < 5 ? i + 1 : 0); }
    a.x.run(4 * 27);
    due.is("putAt(0) of 32", a.x.putAt(0), 1);
    due.is("putAt(31) of 32", a.x.putAt(31), 32);
    a.x.run(4 * 40);
    due.is("PUT", a.x.told(5), 72);
    for (int i = 0; i < 32; i++) { due.is("putAt(" + i + ") of 72", a.x.putAt(i), 41 + i); }
    due.is("putAt(32)", a.x.putAt(32), 0);
    due.is("register 0 behind", a.x.register(0), 0);
  }

  private static void keys() {
    Asm a = new Asm();
    a.x.table(0, 4, 1, 7);
    a.x.table(1, 1, 1, 2);
    due.is("keys of a ROW", a.x.keys(0), 7);
    due.is("keys of an empty HASH", a.x.keys(1), 0);
    due.is("keys(2)", a.x.keys(2), -1);
    due.is("keys(-1)", a.x.keys(-1), -1);
    update(a, 1, 5, 0);
    due.is("keys behind one", a.x.keys(1), 1);
    update(a, 1, 5, 0);
    due.is("keys behind it again", a.x.keys(1), 1);
    update(a, 1, 6, 0);
    due.is("keys behind two", a.x.keys(1), 2);
    update(a, 1, 7, 0);
    due.is("no room", a.x.register(0), -1);
    due.is("keys when there is no room", a.x.keys(1), 2);
  }

  private static void update(Asm a, int t, int key, int mode) {
    a.clear().putNumber(4, 10, -4, key).copy(2, 10).by(Asm.ADD, 2, -4).copy(3, 2).table(1, t).set(4, mode).call(2).end();
    due.is("update", a.go(), 2);
  }

  private static void idleBehindChanges() {
    Asm a = new Asm().set(0, 1).go(-2);
    a.x.start();
    a.x.run(3);
    a.x.feed(-1, 0, 0, 0);
    a.x.alter(9, 0, 0, 0, 0);
    a.x.cut(9);
    due.is("RUNNING behind refusals", a.x.told(0), 1);
    a.x.judge();
    a.x.table(0, 4, 1, 1);
    a.x.tick(1);
    due.is("RUNNING behind judge(), table(), tick()", a.x.told(0), 1);
    a.x.feed(0, 0, 0, 0);
    due.is("IDLE behind feed()", a.x.told(0), 0);
    due.is("step() when IDLE", a.x.step(), -3);
    a.x.start();
    a.x.alter(0, 183, 0, 0, 1);
    due.is("IDLE behind alter()", a.x.told(0), 0);
    a.x.start();
    a.x.cut(3);
    due.is("IDLE behind cut()", a.x.told(0), 0);
    due.is("context() when IDLE", a.x.context(3), 0);
  }
}
