/** Promises 1 to 20: a test for each sentence with an edge, the promise's words above it. What is refused is in RefusalsTest, too. */
public final class PromiseEdgesTest {
  private static final Due due = new Due();
  private static final int MIN = Integer.MIN_VALUE;
  private static final int MAX = Integer.MAX_VALUE;
  private static final long CONTEXT = 1L << 32;

  public static void main(String[] args) {
    newObject();
    feedNumbers();
    feedTakes();
    feedIsFull();
    alterEachPart();
    alterWhere();
    cutStays();
    cutOfNothing();
    tableSizes();
    tableNumbers();
    contextSizes();
    contextNewOnes();
    contextNow();
    poke();
    tick();
    judgeAnswers();
    place();
    mayBefore();
    mayTells();
    mayNotComeTo();
    mayWithTheSlotsOfNow();
    cellEdges();
    start();
    step();
    runFuel();
    runStops();
    told();
    register();
    octet();
    putAt();
    keys();
    due.end();
  }

  /** 1: "No slots, no tables, a context of 0 octets, CLOCK 0; IDLE." */
  private static void newObject() {
    JudgedCode x = new JudgedCode();
    due.is("IDLE", x.told(0), 0);
    due.is("slots", x.told(3), 0);
    due.is("no slot to cut", x.cut(1), -2);
    due.is("tables", x.told(4), 0);
    due.is("keys(0)", x.keys(0), -1);
    due.is("a VALUE's octet", x.octet(1L << 35), -1);
    due.is("the CONTEXT's octet", x.octet(CONTEXT), -1);
    due.is("the CONTEXT's length", x.context(3), 0);
    due.is("the CLOCK", x.tick(0), 0);
    due.is("place()", x.place(), -1);
    due.is("start()", x.start(), -3);
    Asm a = new Asm().wide(0, 7).call(5).end();
    due.is("status", a.go(), 2);
    due.is("the CLOCK as a program sees it", a.x.register(0), 0);
    // Two objects have nothing in common.
    JudgedCode y = new JudgedCode();
    x.feed(0, 0, 0, 0);
    x.table(0, 4, 1, 1);
    x.tick(9);
    due.is("slots of another", y.told(3), 0);
    due.is("tables of another", y.told(4), 0);
    due.is("the CLOCK of another", y.tick(0), 0);
    due.is("the CONTEXT of another", y.context(0), 0);
  }

  /** 2: "One more slot: its number." */
  private static void feedNumbers() {
    JudgedCode x = new JudgedCode();
    for (int i = 0; i < 3; i++) { due.is("feed " + i, x.feed(183, 0, 0, 0), i); }
    x.feed(256, 0, 0, 0);
    due.is("behind one that was refused", x.feed(183, 0, 0, 0), 3);
    x.cut(1);
    due.is("behind cut(1)", x.feed(183, 0, 0, 0), 1);
    x.cut(0);
    due.is("behind cut(0)", x.feed(183, 0, 0, 0), 0);
  }

  /** 2: "regs: DST in its lowest four bits, SRC in the next. -2 op, or regs, is not 0 .. 255, offset not -32768 .. 32767" */
  private static void feedTakes() {
    int[][] good = {{0, 0, 0, 0}, {255, 0, 0, 0}, {0, 255, 0, 0}, {0, 0, -32768, 0}, {0, 0, 32767, 0}, {0, 0, 0, MIN}, {0, 0, 0, MAX},
      {255, 255, -32768, -1}};
    for (int[] g : good) { due.is("feed" + java.util.Arrays.toString(g), new JudgedCode().feed(g[0], g[1], g[2], g[3]), 0); }
    int[][] wrong = {{-1, 0, 0}, {256, 0, 0}, {MIN, 0, 0}, {MAX, 0, 0}, {0, -1, 0}, {0, 256, 0}, {0, MIN, 0}, {0, MAX, 0}, {0, 0, -32769},
      {0, 0, 32768}, {0, 0, MIN}, {0, 0, MAX}, {0, 0, 65535}};
    for (int[] w : wrong) { due.is("feed" + java.util.Arrays.toString(w), new JudgedCode().feed(w[0], w[1], w[2], 0), -2); }
    for (int d = 0; d <= 9; d++) {
      for (int s = 0; s <= 9; s++) {
        JudgedCode x = new JudgedCode();
        x.feed(183, s, 0, 7);
        x.feed(191, d + 16 * s, 0, 0);
        x.start();
        due.is("status", x.run(2), 1);
        for (int r = 0; r <= 9; r++) { due.is("register " + r, x.register(r), r == s || r == d ? 7 : r == 1 ? CONTEXT : 0); }
      }
    }
  }

  /** 2: "-4 there are 200" */
  private static void feedIsFull() {
    JudgedCode x = new JudgedCode();
    for (int i = 0; i < 199; i++) { x.feed(183, 0, 0, i); }
    due.is("199 slots", x.told(3), 199);
    due.is("the 200th", x.feed(149, 0, 0, 0), 199);
    due.is("the 201st", x.feed(149, 0, 0, 0), -4);
    due.is("200 slots", x.told(3), 200);
    x.start();
    due.is("all of them run", x.run(200), 2);
    due.is("the last of them", x.register(0), 198);
    due.is("one is cut", x.cut(199), 200);
    due.is("then there is room", x.feed(149, 0, 0, 0), 199);
    due.is("and none again", x.feed(149, 0, 0, 0), -4);
  }

  /** 3: "Slot i becomes this: 1." Each part of it. */
  private static void alterEachPart() {
    Asm a = new Asm().set(3, 5).load(1, 4, 10, -8).set(0, 0).end();
    due.is("alter", a.x.alter(0, 122, 10, -8, -2), 1);
    due.is("status", a.go(), 2);
    due.is("it puts", a.x.octet((1L << 33) - 8), 254);
    due.is("register 3", a.x.register(3), 0);
    due.is("register 4", a.x.register(4), 254);
    due.is("alter to DST 9, SRC 10", a.x.alter(0, 191, 9 + 16 * 10, 0, 0), 1);
    due.is("status", a.go(), 2);
    due.is("register 9", a.x.register(9), 1L << 33);
    due.is("slots", a.x.told(3), 4);
    due.is("alter to the same", a.x.alter(0, 191, 9 + 16 * 10, 0, 0), 1);
  }

  /** 3: "-1 there is none, -2 as feed()" */
  private static void alterWhere() {
    JudgedCode x = new JudgedCode();
    due.is("without slots", x.alter(0, 0, 0, 0, 0), -1);
    for (int i = 0; i < 200; i++) { x.feed(183, 0, 0, i); }
    due.is("the first", x.alter(0, 183, 3, 0, 77), 1);
    due.is("the last", x.alter(199, 149, 0, 0, 0), 1);
    due.is("behind it", x.alter(200, 149, 0, 0, 0), -1);
    x.start();
    due.is("status", x.run(200), 2);
    due.is("what the first did", x.register(3), 77);
    due.is("what the others did", x.register(0), 198);
    x.cut(1);
    due.is("a slot that was cut", x.alter(1, 149, 0, 0, 0), -1);
    due.is("the one that stays", x.alter(0, 149, 0, 0, 0), 1);
  }

  /** 4: "Only the first n slots stay: how many there were." */
  private static void cutStays() {
    for (int n = 0; n <= 4; n++) {
      Asm a = new Asm();
      for (int i = 0; i < 4; i++) { a.by(Asm.ADD, 3, 1 << i); }
      due.is("cut(" + n + ")", a.x.cut(n), 4);
      due.is("slots", a.x.told(3), n);
      due.is("cut(" + n + ") again", a.x.cut(n), n);
      due.is("cut to more", a.x.cut(n + 1), -2);
      a.end();
      due.is("status", a.go(), 2);
      due.is("what stayed", a.x.register(3), (1 << n) - 1);
    }
  }

  /** 4: "-2 n is not 0 .. that" */
  private static void cutOfNothing() {
    JudgedCode x = new JudgedCode();
    due.is("cut(0)", x.cut(0), 0);
    for (int n : new int[] {1, -1, MIN, MAX}) { due.is("cut(" + n + ")", x.cut(n), -2); }
    for (int i = 0; i < 200; i++) { x.feed(0, 0, 0, 0); }
    due.is("cut(201)", x.cut(201), -2);
    due.is("cut(200)", x.cut(200), 200);
    due.is("cut(0)", x.cut(0), 200);
  }

  /** 5: "-2 kind is not 0, 1; key not 4 (of a ROW), 1 .. 8; value, or n, not 1 .. 32" */
  private static void tableSizes() {
    for (int kind = -2; kind <= 3; kind++) {
      for (int key = -1; key <= 10; key++) {
        boolean good = kind == 0 && key == 4 || kind == 1 && key >= 1 && key <= 8;
        due.is("kind " + kind + ", key " + key, new JudgedCode().table(kind, key, 1, 1), good ? 0 : -2);
      }
    }
    for (int kind = 0; kind <= 1; kind++) {
      for (int v : new int[] {MIN, -1, 0, 1, 2, 31, 32, 33, MAX}) {
        boolean good = v >= 1 && v <= 32;
        JudgedCode x = new JudgedCode();
        due.is("value " + v, x.table(kind, 4, v, 3), good ? 0 : -2);
        due.is("its last octet", x.octet(PlainModel.valueAt(0, 2) + (good ? v - 1 : 0)), good ? 0 : -1);
        due.is("behind its last octet", x.octet(PlainModel.valueAt(0, 2) + (good ? v : 0)), -1);
        x = new JudgedCode();
        due.is("n " + v, x.table(kind, 4, 3, v), good ? 0 : -2);
        due.is("its last VALUE", x.octet(PlainModel.valueAt(0, good ? v - 1 : 0)), good ? 0 : -1);
        due.is("behind its last VALUE", x.octet(PlainModel.valueAt(0, good ? v : 0)), -1);
        due.is("its keys", x.keys(0), !good ? -1 : kind == 0 ? v : 0);
      }
    }
  }

  /** 5: "A new TABLE: its number .. -4 there are 4" */
  private static void tableNumbers() {
    JudgedCode x = new JudgedCode();
    for (int t = 0; t < 4; t++) {
      due.is("refused", x.table(0, 4, 0, 1), -2);
      due.is("tables", x.told(4), t);
      due.is("table " + t, x.table(t % 2, 4, 1, t + 1), t);
      due.is("its keys", x.keys(t), t % 2 == 0 ? t + 1 : 0);
    }
    due.is("the fifth", x.table(0, 4, 1, 1), -4);
    due.is("tables", x.told(4), 4);
    due.is("keys(4)", x.keys(4), -1);
    Asm a = new Asm().set(0, 0).go(-2);
    a.x.start();
    due.is("a TABLE while RUNNING", a.x.table(0, 4, 1, 1), 0);
    due.is("it runs on", a.x.step(), 1);
    a.clear();
    due.is("TABLES last", a.x.told(4), 1);
  }

  /** 6: "The CONTEXT has n octets: how many it had .. -2 n is not 0 .. 256" */
  private static void contextSizes() {
    JudgedCode x = new JudgedCode();
    int before = 0;
    for (int n : new int[] {0, 1, 256, 255, 0, 0, 256, 256, 1}) {
      due.is("context(" + n + ")", x.context(n), before);
      due.is("the octet behind", x.octet(CONTEXT + n), -1);
      due.is("the last octet", x.octet(CONTEXT + n - 1), n == 0 ? -1 : 0);
      for (int wrong : new int[] {-1, 257, MIN, MAX}) { due.is("context(" + wrong + ")", x.context(wrong), -2); }
      before = n;
    }
  }

  /** 6: "new ones are 0": those that were there before, too. */
  private static void contextNewOnes() {
    JudgedCode x = new JudgedCode();
    x.context(10);
    for (int i = 0; i < 10; i++) { x.poke(i, 100 + i); }
    x.context(4);
    x.context(7);
    for (int i = 0; i < 8; i++) { due.is("octet " + i, x.octet(CONTEXT + i), i < 4 ? 100 + i : i < 7 ? 0 : -1); }
    x.context(256);
    for (int i = 0; i < 256; i++) { due.is("octet " + i, x.octet(CONTEXT + i), i < 4 ? 100 + i : 0); }
    x.context(0);
    x.context(2);
    due.is("octet 0", x.octet(CONTEXT), 0);
  }

  /** 6, 7: "-3 RUNNING": and in no other status. */
  private static void contextNow() {
    Asm a = new Asm().set(0, 0).end();
    due.is("before START", a.x.context(2), 0);
    due.is("poke()", a.x.poke(1, 5), 0);
    a.x.start();
    due.is("RUNNING", a.x.context(3), -3);
    due.is("poke()", a.x.poke(1, 6), -3);
    a.x.step();
    due.is("RUNNING still", a.x.context(2), -3);
    a.x.step();
    due.is("ENDED", a.x.context(4), 2);
    due.is("poke()", a.x.poke(1, 7), 5);
    a.clear().feed(255, 0, 0, 0, 0);
    a.x.start();
    a.x.step();
    due.is("at a FAULT", a.x.context(5), 4);
    due.is("poke()", a.x.poke(1, 8), 7);
    a.x.start();
    a.x.alter(0, 149, 0, 0, 0);
    due.is("IDLE again", a.x.context(6), 5);
    due.is("poke()", a.x.poke(1, 9), 8);
  }

  /** 7: "Octet i of the CONTEXT becomes v: what it was. -1 there is none, -2 v is not 0 .. 255" */
  private static void poke() {
    JudgedCode x = new JudgedCode();
    due.is("without octets", x.poke(0, 0), -1);
    x.context(256);
    for (int i : new int[] {0, 255}) {
      due.is("255", x.poke(i, 255), 0);
      due.is("0", x.poke(i, 0), 255);
      due.is("128", x.poke(i, 128), 0);
      due.is("128 again", x.poke(i, 128), 128);
      due.is("the octet", x.octet(CONTEXT + i), 128);
      for (int v : new int[] {-1, 256, MIN, MAX}) { due.is("v " + v, x.poke(i, v), -2); }
      due.is("the octet stays", x.octet(CONTEXT + i), 128);
    }
    for (int i : new int[] {-1, 256, MIN, MAX}) { due.is("octet " + i, x.poke(i, 0), -1); }
    due.is("the octets beside", x.octet(CONTEXT + 1) + x.octet(CONTEXT + 254), 0);
  }

  /** 8: "The CLOCK goes on by n: what it is. -2 n is below 0, or it would be above 2^62." */
  private static void tick() {
    long most = 1L << 62;
    JudgedCode x = new JudgedCode();
    due.is("by 0", x.tick(0), 0);
    due.is("by 2^62 + 1", x.tick(most + 1), -2);
    due.is("by 2^62", x.tick(most), most);
    due.is("by 0 at the end", x.tick(0), most);
    due.is("by 1 at the end", x.tick(1), -2);
    due.is("by -1 at the end", x.tick(-1), -2);
    x = new JudgedCode();
    due.is("by 1", x.tick(1), 1);
    due.is("by 2^62", x.tick(most), -2);
    due.is("by the most", x.tick(Long.MAX_VALUE), -2);
    due.is("by the least", x.tick(Long.MIN_VALUE), -2);
    due.is("by 2^62 - 1", x.tick(most - 1), most);
    x = new JudgedCode();
    for (int i = 1; i <= 4; i++) { due.is("by quarters", x.tick(most / 4), i * (most / 4)); }
    due.is("by a quarter more", x.tick(most / 4), -2);
  }

  /** 9: "THE JUDGE: 0, or how it is REFUSED (1 .. 6)." */
  private static void judgeAnswers() {
    Asm[] programs = {new Asm().set(0, 0).end(), new Asm().feed(255, 0, 0, 0, 0), new Asm().copy(0, 3), new Asm().by(Asm.MUL, 1, 1),
      new Asm().load(1, 0, 1, 0), new Asm().end(), new Asm()};
    for (int by = 0; by <= 6; by++) {
      due.is("judge()", programs[by].x.judge(), by);
      due.is("judge() again", programs[by].x.judge(), by);
      due.is("place()", programs[by].x.place(), by == 0 ? -1 : 0);
      due.is("IDLE still", programs[by].x.told(0), 0);
    }
    Asm a = new Asm().set(0, 1).go(-2);
    a.x.start();
    a.x.step();
    due.is("judge() while RUNNING", a.x.judge(), 6);
    due.is("it runs on", a.x.told(0), 1);
    due.is("where it was", a.x.told(1), 1);
    a = new Asm().feed(255, 0, 0, 0, 0);
    due.is("a program that is REFUSED", a.x.judge(), 1);
    due.is("can be started", a.x.start(), 1);
    due.is("and run", a.x.step(), 3);
  }

  /** 10: "The slot at which the latest judge() REFUSED; -1 when it did not, or before." */
  private static void place() {
    Asm a = new Asm();
    due.is("before judge()", a.x.place(), -1);
    while (a.here() < 199) { a.set(0, 0); }
    a.copy(0, 3);
    a.x.judge();
    due.is("the last of 200", a.x.place(), 199);
    a.x.alter(199, 149, 0, 0, 0);
    due.is("behind alter()", a.x.place(), 199);
    a.x.start();
    a.x.run(5);
    due.is("behind run()", a.x.place(), 199);
    a.x.cut(3);
    due.is("behind cut()", a.x.place(), 199);
    a.end();
    due.is("behind feed()", a.x.place(), 199);
    due.is("judge()", a.x.judge(), 0);
    due.is("when it did not", a.x.place(), -1);
    a.x.alter(0, 255, 0, 0, 0);
    due.is("before it is judged", a.x.place(), -1);
    a.x.judge();
    due.is("the first", a.x.place(), 0);
  }

  /** 11: "What register r (0 .. 10) was found to be BEFORE slot i by the latest judge()": before any, it is not come to. */
  private static void mayBefore() {
    Asm a = new Asm().set(0, 5).end();
    for (int r = 0; r <= 10; r++) {
      for (int what = 0; what <= 4; what++) { due.is("before judge()", a.x.may(0, r, what), 0); }
    }
    a.x.judge();
    due.is("BEFORE slot 0", a.x.may(0, 0, 0), 0);
    due.is("BEFORE slot 1", a.x.may(1, 0, 1), 5);
    due.is("register 10", a.x.may(1, 10, 0), 3);
    due.is("register 11", a.x.may(1, 11, 0), -1);
    due.is("register -1", a.x.may(1, -1, 0), -1);
    due.is("slot 2", a.x.may(2, 0, 0), -1);
    due.is("slot -1", a.x.may(-1, 0, 0), -1);
    due.is("what 5", a.x.may(1, 0, 5), -2);
    due.is("what -1", a.x.may(1, 0, -1), -2);
  }

  /** 11: "0 its KIND, 1 low (of 1, 2, 5; of 3 its number; else 0), 2 high (of 1, 2, 5; else 0), 3 t (of 4 to 6; else 0), 4 c (of 6; else 0)" */
  private static void mayTells() {
    Asm a = new Asm();
    a.x.context(8);
    for (int t = 0; t < 4; t++) { a.x.table(1, 8, 8, 2); }
    a.wide(6, -2).copy(7, 10).by(Asm.ADD, 7, -16).put(8, 10, -8, 6).copy(2, 10).by(Asm.ADD, 2, -8).table(1, 3).copy(8, 1);
    int call = a.here();
    a.call(1).copy(9, 0).jumpBy(Asm.NE, 9, 0, 2).set(0, 0).end().by(Asm.ADD, 9, -3).set(0, 0).end();
    due.is("judge()", a.x.judge(), 0);
    long[][] dues = {{call, 3, 0, 0, 0, 0, 0}, {call, 6, 1, -2, -2, 0, 0}, {call, 7, 3, -16, 0, 0, 0}, {call, 8, 4, 0, 0, 3, 0},
      {call, 10, 3, 0, 0, 0, 0}, {call + 2, 9, 6, 0, 0, 3, call}, {call + 6, 9, 5, -3, -3, 3, 0}, {0, 1, 2, 0, 0, 0, 0}};
    for (long[] d : dues) {
      for (int what = 0; what <= 4; what++) {
        due.is("may(" + d[0] + ", " + d[1] + ", " + what + ")", a.x.may((int) d[0], (int) d[1], what), d[2 + what]);
      }
    }
    // A call in the last slots: c is as great as it can be.
    a = new Asm();
    a.x.context(8);
    a.x.table(0, 4, 1, 1);
    a.copy(2, 1).table(1, 0);
    while (a.here() < 196) { a.set(3, 0); }
    a.call(1).copy(3, 0).set(0, 0).end();
    due.is("judge()", a.x.judge(), 0);
    due.is("c", a.x.may(199, 3, 4), 196);
    due.is("t", a.x.may(199, 3, 3), 0);
  }

  /** 11: "as far as it went .. 0 also when slot i is not come to" */
  private static void mayNotComeTo() {
    Asm a = new Asm().set(0, 5).go(1).set(0, 6).copy(3, 4).end();
    due.is("judge()", a.x.judge(), 2);
    due.is("place()", a.x.place(), 3);
    due.is("before the refused slot", a.x.may(3, 0, 1), 5);
    for (int r = 0; r <= 10; r++) {
      for (int what = 0; what <= 4; what++) {
        due.is("a slot that is jumped over", a.x.may(2, r, what), 0);
        due.is("a slot behind the refused one", a.x.may(4, r, what), 0);
      }
    }
    for (int o = -512; o < 0; o += 5) { due.is("a cell there", a.x.cell(2, o) + a.x.cell(4, o), 0); }
    a = new Asm().wide(0, 5).end();
    due.is("judge()", a.x.judge(), 0);
    due.is("a second one of 24", a.x.may(1, 10, 0), 0);
    due.is("the slot behind it", a.x.may(2, 10, 0), 3);
  }

  /** 11, 12: "-1 there is no such slot now" */
  private static void mayWithTheSlotsOfNow() {
    Asm a = new Asm().set(0, 5).putNumber(1, 10, -1, 0).end();
    a.x.judge();
    due.is("slot 2", a.x.may(2, 0, 1), 5);
    due.is("its cell", a.x.cell(2, -1), 1);
    a.x.cut(2);
    due.is("slot 2, cut", a.x.may(2, 0, 1), -1);
    due.is("its cell", a.x.cell(2, -1), -1);
    due.is("slot 1 stays", a.x.may(1, 0, 1), 5);
    a.end().end();
    due.is("slot 2 of the latest judge()", a.x.may(2, 0, 1), 5);
    due.is("its cell", a.x.cell(2, -1), 1);
    due.is("slot 3 was not come to", a.x.may(3, 0, 1), 0);
    a.clear();
    due.is("without slots", a.x.may(0, 0, 0), -1);
    a.x.judge();
    a.end();
    due.is("behind judge() without slots", a.x.may(0, 1, 0), 0);
  }

  /**
   * 12: "What octet a (-512 .. -1, from 2^33 on) of the STACK was found to be BEFORE slot i: 0 NONE, 1 known, 2 of a cell that
   * HOLDS a NUMBER, 3 another."
   */
  private static void cellEdges() {
    Asm a = new Asm().set(3, 1);
    due.is("before judge()", a.x.cell(0, -1), 0);
    a.put(8, 10, -512, 3).put(8, 10, -504, 1).putNumber(1, 10, -1, 0).put(8, 10, -16, 10).set(0, 0).end();
    due.is("judge()", a.x.judge(), 0);
    for (int o = -512; o < -495; o++) { due.is("octet " + o, a.x.cell(5, o), o < -504 ? 2 : o < -496 ? 3 : 0); }
    for (int o = -18; o < 0; o++) { due.is("octet " + o, a.x.cell(5, o), o == -1 ? 1 : o >= -16 && o < -8 ? 3 : 0); }
    due.is("BEFORE it is put", a.x.cell(1, -512), 0);
    due.is("BEFORE the next", a.x.cell(2, -512), 2);
    for (int o : new int[] {-513, 0, MIN, MAX}) { due.is("octet " + o, a.x.cell(5, o), -1); }
    for (int i : new int[] {-1, 7, MIN, MAX}) { due.is("slot " + i, a.x.cell(i, -1), -1); }
    due.is("the last slot", a.x.cell(6, -1), 1);
  }

  /** 13: "START: 1. -3 there are no slots." */
  private static void start() {
    Asm a = new Asm();
    due.is("no slots", a.x.start(), -3);
    due.is("IDLE", a.x.told(0), 0);
    a.end();
    for (int i = 0; i < 3; i++) { due.is("start()", a.x.start(), 1); }
    a.x.step();
    due.is("start() behind an end", a.x.start(), 1);
    due.is("RUNNING", a.x.told(0), 1);
    a.clear();
    due.is("no slots again", a.x.start(), -3);
    due.is("IDLE", a.x.told(0), 0);
    a.feed(255, 0, 0, 0, 0);
    due.is("BAD slots can be started", a.x.start(), 1);
  }

  /** 14: "A step: the STATUS. -3 it is not RUNNING." */
  private static void step() {
    Asm a = new Asm().set(0, 1).end();
    due.is("IDLE", a.x.step(), -3);
    a.x.start();
    due.is("RUNNING", a.x.step(), 1);
    due.is("to the end", a.x.step(), 2);
    due.is("ENDED", a.x.step(), -3);
    due.is("told(0)", a.x.told(0), 2);
    int[][] faults = {{255, 0, 3}, {97, 10, 4}, {24, 0, 5}};
    for (int[] f : faults) {
      a = new Asm().feed(f[0], 3, f[1], 0, 0);
      a.x.start();
      due.is("FAULT", a.x.step(), f[2]);
      due.is("behind a FAULT", a.x.step(), -3);
      due.is("told(0)", a.x.told(0), f[2]);
    }
  }

  /** 15: "At most fuel steps, while RUNNING: the STATUS. -2 fuel is not 0 .. 10000, -3 it is not RUNNING." */
  private static void runFuel() {
    Asm a = new Asm().by(Asm.ADD, 3, 1).go(-2);
    a.x.start();
    int steps = 0;
    for (int fuel : new int[] {0, 1, 2, 9999, 10000, 10000, 0}) {
      due.is("run(" + fuel + ")", a.x.run(fuel), 1);
      steps += fuel;
      due.is("steps", a.x.told(2), steps);
      due.is("what was done", a.x.register(3), (steps + 1) / 2);
      due.is("the slot", a.x.told(1), steps % 2);
    }
    for (int fuel : new int[] {-1, 10001, MIN, MAX}) { due.is("run(" + fuel + ")", a.x.run(fuel), -2); }
    due.is("steps", a.x.told(2), steps);
  }

  private static void runStops() {
    for (int fuel = 0; fuel <= 5; fuel++) {
      Asm a = new Asm().set(0, 1).set(0, 2).end();
      a.x.start();
      due.is("run(" + fuel + ") to an end", a.x.run(fuel), fuel < 3 ? 1 : 2);
      due.is("steps", a.x.told(2), Math.min(fuel, 3));
      due.is("behind it", a.x.run(0), fuel < 3 ? 1 : -3);
      a = new Asm().set(0, 1).set(0, 2).feed(255, 0, 0, 0, 0);
      a.x.start();
      due.is("run(" + fuel + ") to a FAULT", a.x.run(fuel), fuel < 3 ? 1 : 3);
      due.is("steps", a.x.told(2), Math.min(fuel, 2));
      due.is("the slot", a.x.told(1), Math.min(fuel, 2));
      due.is("behind it", a.x.run(0), fuel < 3 ? 1 : -3);
    }
  }

  /** 16: "0 STATUS, 1 the slot at which it is, 2 steps since START (FAULTS do not count), 3 slots, 4 TABLES, 5 how many were PUT (since START)" */
  private static void told() {
    Asm a = new Asm().set(1, 7).call(6).set(1, 8).call(6).load(1, 0, 10, 0);
    a.x.table(0, 4, 1, 1);
    long[][] dues = {{1, 0, 0, 5, 1, 0}, {1, 1, 1, 5, 1, 0}, {1, 2, 2, 5, 1, 1}, {1, 3, 3, 5, 1, 1}, {1, 4, 4, 5, 1, 2}, {4, 4, 4, 5, 1, 2}};
    for (int times = 0; times < 2; times++) {
      a.x.start();
      for (int s = 0; s < dues.length; s++) {
        for (int what = 0; what <= 5; what++) { due.is("told(" + what + ") behind " + s, a.x.told(what), dues[s][what]); }
        a.x.step();
      }
    }
    for (int what : new int[] {-1, 6, MIN, MAX}) { due.is("told(" + what + ")", a.x.told(what), -2); }
    a = new Asm().end();
    a.x.start();
    a.x.step();
    due.is("an end counts", a.x.told(2), 1);
    due.is("it is at the end", a.x.told(1), 0);
  }

  /** 17: "Register i (0 .. 10); 0 for others." */
  private static void register() {
    Asm a = new Asm();
    for (int r = 0; r <= 9; r++) { a.wide(r, Long.MIN_VALUE + r); }
    a.end();
    due.is("status", a.go(), 2);
    for (int r = 0; r <= 9; r++) { due.is("register " + r, a.x.register(r), Long.MIN_VALUE + r); }
    due.is("register 10", a.x.register(10), 1L << 33);
    for (int r : new int[] {-1, 11, 15, 16, MIN, MAX}) { due.is("register " + r, a.x.register(r), 0); }
  }

  /** 18: "The octet at an ADDRESS; -1 there is none. (All VALUES 0 .. n - 1 are there, also those of no key.)" */
  private static void octet() {
    Asm a = new Asm();
    a.x.table(1, 1, 3, 2);
    a.x.table(0, 4, 3, 2);
    for (int t = 0; t < 2; t++) {
      for (int e = -1; e <= 2; e++) {
        for (int i = -1; i <= 3; i++) {
          boolean there = e >= 0 && e < 2 && i >= 0 && i < 3;
          due.is("octet " + i + " of VALUE " + e, a.x.octet(PlainModel.valueAt(t, e) + i), there ? 0 : -1);
        }
      }
    }
    // A program may put octets of no key, and they are seen as 0 .. 255.
    a.wide(3, PlainModel.valueAt(0, 1)).putNumber(1, 3, 2, 255).putNumber(1, 3, 0, 128).end();
    due.is("status", a.go(), 2);
    due.is("255", a.x.octet(PlainModel.valueAt(0, 1) + 2), 255);
    due.is("128", a.x.octet(PlainModel.valueAt(0, 1)), 128);
    due.is("beside", a.x.octet(PlainModel.valueAt(0, 1) + 1), 0);
    due.is("the VALUE before", a.x.octet(PlainModel.valueAt(0, 0) + 2), 0);
    due.is("keys", a.x.keys(0), 0);
    for (long far : new long[] {0, -1, Long.MIN_VALUE, Long.MAX_VALUE, CONTEXT - 1, CONTEXT, -CONTEXT, (1L << 33) - 513, 1L << 33, 1L << 34,
      (1L << 35) - 1, 1L << 36, -(1L << 35), (1L << 35) | 1L << 62, (1L << 35) | 1L << 63, PlainModel.valueAt(256, 0), PlainModel.valueAt(-1, 0)}) {
      due.is("octet " + far, a.x.octet(far), -1);
    }
  }

  /** 19: "The i-th number that was PUT, of the last 32 (0 the first of these that are kept); 0 when there is none." */
  private static void putAt() {
    for (int puts : new int[] {0, 1, 2, 31, 32, 33, 63, 64, 65, 100}) {
      Asm a = new Asm().by(Asm.ADD, 6, 1).copy(1, 6).call(6).go(-4);
      a.x.start();
      a.x.run(4 * puts);
      due.is("how many", a.x.told(5), puts);
      int kept = Math.min(puts, 32);
      for (int i = 0; i < 40; i++) { due.is("putAt(" + i + ") of " + puts, a.x.putAt(i), i < kept ? puts - kept + i + 1 : 0); }
      for (int i : new int[] {-1, MIN, MAX, 32}) { due.is("putAt(" + i + ")", a.x.putAt(i), 0); }
      a.x.start();
      due.is("none since START", a.x.told(5), 0);
      due.is("putAt(0)", a.x.putAt(0), 0);
    }
  }

  /** 20: "How many keys of a TABLE are there (of a ROW all). -1." */
  private static void keys() {
    Asm a = new Asm();
    for (int t : new int[] {-1, 0, 1, 3, 4, MIN, MAX}) { due.is("keys(" + t + ") without TABLES", a.x.keys(t), -1); }
    a.x.table(0, 4, 1, 32);
    a.x.table(1, 1, 1, 32);
    due.is("a ROW", a.x.keys(0), 32);
    due.is("an empty HASH", a.x.keys(1), 0);
    due.is("none", a.x.keys(2), -1);
    a.put(1, 10, -1, 6).by(Asm.ADD, 6, 1).copy(2, 10).by(Asm.ADD, 2, -1).copy(3, 2).table(1, 1).call(2).go(-9);
    a.x.start();
    for (int n = 1; n <= 33; n++) {
      due.is("status", a.x.run(8), 1);
      due.is("keys", a.x.keys(1), Math.min(n, 32));
    }
    for (int t : new int[] {-1, 2, 3, 4, MIN, MAX}) { due.is("keys(" + t + ")", a.x.keys(t), -1); }
  }
}
