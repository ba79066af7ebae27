/** Section 3 of the document, THE JUDGE, but for ranges: a test for each sentence with an edge. The sentence stands above its test. */
public final class JudgeEdgesTest {
  private static final Due due = new Due();
  private static final int[] WIDTHS = {1, 2, 4, 8};

  public static void main(String[] args) {
    atSlotZero();
    judgedAnew();
    joinedKinds();
    joinedRegisters();
    joinedOneAfterTheOther();
    joinedCells();
    joinedCellsAll();
    joinedOctets();
    bad();
    readsNone();
    ends();
    noSlots();
    goneOnTo();
    secondSlots();
    firstOfSeveral();
    firstSlot();
    placesBySmallNumbers();
    placesByImm();
    placesFarAway();
    placesOfStack();
    allOthersWithAKind();
    sixWithZero();
    sixInAllCells();
    rangesInContext();
    rangesInValue();
    reads();
    readsBesideTheStack();
    readsWithSign();
    puts();
    putsOfOthers();
    changes();
    changesMake();
    keysAsLongAs();
    valuesAsLongAs();
    eachTableItsOwn();
    callsByKind();
    callsForget();
    due.end();
  }

  /** An object with a CONTEXT of 16 octets, a ROW (0: VALUES of 8) and a HASH (1: keys of 8, VALUES of 16). */
  private static Asm asm() {
    Asm a = new Asm();
    a.x.context(16);
    a.x.table(0, 4, 8, 4);
    a.x.table(1, 8, 16, 4);
    return a;
  }

  /** Refused so at the last slot that is there (then 0 and an end follow); 0: not refused. */
  private static void judged(String what, int by, Asm a) {
    int last = a.here() - 1;
    a.set(0, 0).end();
    due.is("judge() of " + what, a.x.judge(), by);
    due.is("place() of " + what, a.x.place(), by == 0 ? -1 : last);
  }

  /** Taken; then r before what follows: kind, low, high, t, c. */
  private static void found(String what, Asm a, int r, long... dues) {
    int at = a.here();
    a.set(0, 0).end();
    due.is("judge() of " + what, a.x.judge(), 0);
    for (int k = 0; k < dues.length; k++) { due.is(what + ", " + k, a.x.may(at, r, k), dues[k]); }
  }

  /** "At slot 0: 1 is CONTEXT + 0, 10 STACK + 0 (from 2^33 on), all others, and the STACK's octets, NONE." */
  private static void atSlotZero() {
    Asm a = asm().end();
    due.is("judge()", a.x.judge(), 5);
    for (int r = 0; r <= 10; r++) {
      for (int what = 0; what <= 4; what++) {
        due.is("may(0, " + r + ", " + what + ")", a.x.may(0, r, what), what > 0 ? 0 : r == 1 ? 2 : r == 10 ? 3 : 0);
      }
    }
    for (int half = -512; half < 0; half += 256) {
      a = asm().end();
      a.x.judge();
      for (int o = half; o < half + 256; o++) { due.is("cell(0, " + o + ")", a.x.cell(0, o), 0); }
    }
  }

  /** "At slot 0 ..": by every judge(), whatever the one before had found. */
  private static void judgedAnew() {
    Asm a = asm();
    for (int r = 0; r <= 9; r++) { if (r != 1) { a.set(r, r); } }
    for (int o = -512; o < 0; o += 8) { a.put(8, 10, o, o % 16 == 0 ? 3 : 1); }
    a.set(1, 1).end();
    due.is("judge()", a.x.judge(), 0);
    a.clear().end();
    due.is("judge() of another", a.x.judge(), 5);
    for (int r = 0; r <= 10; r++) { due.is("register " + r + " again", a.x.may(0, r, 0), r == 1 ? 2 : r == 10 ? 3 : 0); }
    for (int o = -512; o < 0; o += 3) { due.is("octet " + o + " again", a.x.cell(0, o), 0); }
    a.clear().copy(0, 9).end();
    due.is("a register that was known", a.x.judge(), 2);
    a.clear().load(1, 0, 10, -16).end();
    due.is("octets that were known", a.x.judge(), 4);
    a.clear().load(8, 0, 10, -8).end();
    due.is("a cell that was held", a.x.judge(), 4);
    // What is come to by this judge() counts, not what was by the one before.
    a.clear().set(0, 0).set(3, 0).end();
    due.is("judge()", a.x.judge(), 0);
    a.x.alter(0, 5, 0, 1, 0);
    due.is("a way that goes over slot 1", a.x.judge(), 5);
    due.is("slot 1 is not come to", a.x.may(1, 10, 0), 0);
    due.is("slot 2 is not joined with what it was", a.x.may(2, 1, 0), 2);
    due.is("register 3 there", a.x.may(2, 3, 0), 0);
  }

  // ---- JOINED ----

  private interface Piece { void on(Asm a); }

  /** 6 is an octet, 4 is 1, 5 is 9 before two ways that meet at the last slot but one, judged. */
  private static Asm meet(String what, Piece... pieces) {
    Asm a = asm().load(1, 6, 1, 0).set(4, 1).set(5, 9).copy(2, 1).copy(7, 1).table(1, 0).call(1).copy(8, 0).set(4, 1).set(5, 9);
    int[] exits = new int[pieces.length];
    for (int p = 0; p < pieces.length; p++) {
      int branch = a.here();
      if (p < pieces.length - 1) { a.jumpHalfBy(Asm.EQ, 6, p, 0); }
      pieces[p].on(a);
      exits[p] = a.here();
      if (p < pieces.length - 1) {
        a.go(0);
        a.x.alter(branch, 16 + 6, 6, a.here() - branch - 1, p);
      }
    }
    for (int p = 0; p < pieces.length - 1; p++) { a.x.alter(exits[p], 5, 0, a.here() - exits[p] - 1, 0); }
    a.set(0, 0).end();
    due.is("judge() of " + what, a.x.judge(), 0);
    return a;
  }

  private static void joined(String what, Piece one, Piece other, long... dues) {
    for (Asm a : new Asm[] {meet(what, one, other), meet(what, other, one)}) {
      for (int k = 0; k < dues.length; k++) { due.is(what + ", " + k, a.x.may(a.here() - 2, 3, k), dues[k]); }
    }
  }

  private static Piece number(long v) { return a -> a.wide(3, v); }

  private static Piece context(int v) { return a -> a.copy(3, 7).by(Asm.ADD, 3, v); }

  private static Piece stack(int v) { return a -> a.copy(3, 10).by(Asm.ADD, 3, v); }

  private static Piece table(int t) { return a -> a.table(3, t); }

  /** 8 is the VALUE of TABLE 0, or 0, from one call before both ways. */
  private static final Piece SIX = a -> a.copy(3, 8);

  private static Piece value(int v) { return a -> a.copy(3, 8).jumpBy(Asm.NE, 3, 0, 2).set(0, 0).end().by(Asm.ADD, 3, v); }

  private static final Piece NOTHING = a -> { };

  /** "two NUMBERS, CONTEXTS, VALUES of one t: the lesser low, the greater high; alike otherwise: that; else NONE" */
  private static void joinedKinds() {
    joined("NUMBERS 0 and W", number(0), number(-1), 1, 0, -1, 0, 0);
    joined("NUMBERS around 2^63", number(Long.MAX_VALUE), number(Long.MIN_VALUE), 1, Long.MAX_VALUE, Long.MIN_VALUE, 0, 0);
    joined("NUMBERS alike", number(5), number(5), 1, 5, 5, 0, 0);
    joined("CONTEXTS around 0", context(-1), context(1), 2, -1, 1, 0, 0);
    joined("CONTEXTS alike", context(3), context(3), 2, 3, 3, 0, 0);
    joined("VALUES around 0", value(-1), value(1), 5, -1, 1, 0, 0);
    joined("STACKS alike", stack(-8), stack(-8), 3, -8, 0, 0, 0);
    joined("STACKS by 1", stack(-8), stack(-7), 0, 0, 0, 0, 0);
    joined("STACKS by a sign", stack(-8), stack(8), 0, 0, 0, 0, 0);
    joined("TABLES alike", table(1), table(1), 4, 0, 0, 1, 0);
    joined("TABLES 0 and 1", table(0), table(1), 0, 0, 0, 0, 0);
    joined("one 6", SIX, SIX, 6, 0, 0, 0, 7);
    Piece[] all = {NOTHING, number(0), context(0), stack(0), table(0), value(0), SIX};
    for (int p = 0; p < all.length; p++) {
      for (int q = 0; q < p; q++) { joined("KINDS " + p + " and " + q, all[p], all[q], 0, 0, 0, 0, 0); }
    }
  }

  /** Each register is joined. */
  private static void joinedRegisters() {
    for (int r = 0; r <= 9; r++) {
      Asm a = asm().load(1, r, 1, 0).jumpHalfBy(Asm.EQ, r, 0, 2).set(r, 5).go(1).set(r, 9);
      found("NUMBERS in " + r, a, r, 1, 5, 9, 0, 0);
      a = asm().load(1, r, 1, 0).jumpHalfBy(Asm.EQ, r, 0, 2).set(r, 5).go(1).copy(r, 10);
      found("NUMBER and STACK in " + r, a, r, 0, 0, 0, 0, 0);
    }
  }

  /** "JOINED, from two ways, one after the other" */
  private static void joinedOneAfterTheOther() {
    Asm a = meet("three NUMBERS", number(5), number(1), number(9));
    due.is("low of three", a.x.may(a.here() - 2, 3, 1), 1);
    due.is("high of three", a.x.may(a.here() - 2, 3, 2), 9);
    Piece[][] orders = {{number(5), context(0), number(5)}, {number(5), number(5), context(0)}, {context(0), number(5), number(5)}};
    for (Piece[] o : orders) {
      a = meet("NUMBERS and a CONTEXT", o);
      due.is("what is NONE once stays so", a.x.may(a.here() - 2, 3, 0), 0);
    }
    a = meet("four ways", number(5), number(3), number(4), number(6));
    due.is("low of four", a.x.may(a.here() - 2, 3, 1), 3);
    due.is("high of four", a.x.may(a.here() - 2, 3, 2), 6);
  }

  private static final int NONE = 0, KNOWN = 1, ONE = 2, NINE = 3, CONTEXT = 4, CONTEXT_5 = 5, AT_STACK = 6, A_SIX = 7;

  private static Piece cell(int what, int at) {
    switch (what) {
      case NONE: return NOTHING;
      case KNOWN: return a -> a.putNumber(8, 10, at, 0);
      case ONE: return a -> a.put(8, 10, at, 4);
      case NINE: return a -> a.put(8, 10, at, 5);
      case CONTEXT: return a -> a.put(8, 10, at, 7);
      case CONTEXT_5: return a -> a.by(Asm.ADD, 7, 5).put(8, 10, at, 7);
      case AT_STACK: return a -> a.put(8, 10, at, 10);
      default: return a -> a.put(8, 10, at, 8);
    }
  }

  /** What cell() says where two cells meet. */
  private static int meets(int p, int q) {
    boolean numbers = (p == ONE || p == NINE) && (q == ONE || q == NINE);
    boolean contexts = (p == CONTEXT || p == CONTEXT_5) && (q == CONTEXT || q == CONTEXT_5);
    if (numbers) { return 2; }
    if (contexts || p == q && p >= AT_STACK) { return 3; }
    return p >= KNOWN && p <= NINE && q >= KNOWN && q <= NINE ? 1 : 0;
  }

  /**
   * "Cells that HOLD: both joined, if both do (else, or if NONE comes of it: they hold nothing; octets of what was NUMBER
   * are known then, others NONE)"
   */
  private static void joinedCells() {
    for (int at : new int[] {-512, -256, -8}) {
      for (int p = NONE; p <= A_SIX; p++) {
        for (int q = NONE; q <= A_SIX; q++) {
          Asm a = meet("cells", cell(p, at), cell(q, at));
          for (int o = at; o < at + 8; o++) { due.is("cells " + p + " and " + q + " at " + o, a.x.cell(a.here() - 2, o), meets(p, q)); }
          if (at > -512) { due.is("the octet before", a.x.cell(a.here() - 2, at - 1), 0); }
          if (at < -8) { due.is("the octet behind", a.x.cell(a.here() - 2, at + 8), 0); }
        }
      }
    }
    held("1 and 9", ONE, NINE, 1, 1, 9);
    held("CONTEXT and CONTEXT + 5", CONTEXT, CONTEXT_5, 2, 0, 5);
    held("STACK", AT_STACK, AT_STACK, 3, 0, 0);
    held("6", A_SIX, A_SIX, 6, 0, 0);
    held("a NUMBER, and known octets", ONE, KNOWN, 1, 0, -1);
  }

  /** All 64 cells HOLD, on both ways. */
  private static void joinedCellsAll() {
    Asm a = asm().load(1, 6, 1, 0).set(4, 1).set(5, 9);
    for (int o = -512; o < 0; o += 8) { a.put(8, 10, o, 4); }
    a.jumpHalfBy(Asm.EQ, 6, 0, 64);
    for (int o = -512; o < 0; o += 8) { a.put(8, 10, o, o % 16 == 0 ? 5 : 1); }
    int at = a.here();
    for (int o = -512; o < 0; o += 16) { a.load(8, 3, 10, o); }
    a.set(0, 0).end();
    due.is("judge()", a.x.judge(), 0);
    for (int o = -512; o < 0; o += 8) { due.is("the cell at " + o, a.x.cell(at, o), o % 16 == 0 ? 2 : 0); }
    for (int k = 0; k < 32; k++) {
      due.is("low of cell " + k, a.x.may(at + k + 1, 3, 1), 1);
      due.is("high of cell " + k, a.x.may(at + k + 1, 3, 2), 9);
    }
  }

  /** What is read then, from slot at on. */
  private static void held(String what, int p, int q, long... dues) {
    for (int[] order : new int[][] {{p, q}, {q, p}}) {
      Asm a = meet(what, cell(order[0], -8), cell(order[1], -8));
      int at = a.here() - 2;
      a.x.alter(at, 121, 3 + 16 * 10, -8, 0);
      a.x.alter(at + 1, 183, 0, 0, 0);
      a.end();
      due.is("judge() of a read of " + what, a.x.judge(), 0);
      for (int k = 0; k < dues.length; k++) { due.is("a read of " + what + ", " + k, a.x.may(at + 1, 3, k), dues[k]); }
    }
  }

  /** "octets: known if both are" */
  private static void joinedOctets() {
    Asm a = meet("octets", x -> x.putNumber(4, 10, -8, 0), x -> x.putNumber(4, 10, -6, 0));
    for (int o = -9; o < 0; o++) { due.is("octet " + o, a.x.cell(a.here() - 2, o), o == -6 || o == -5 ? 1 : 0); }
    a = meet("octets and a cell", x -> x.putNumber(1, 10, -8, 0).putNumber(1, 10, -1, 0), x -> x.put(8, 10, -8, 4));
    for (int o = -8; o < 0; o++) { due.is("octet " + o + " beside a NUMBER", a.x.cell(a.here() - 2, o), o == -8 || o == -1 ? 1 : 0); }
    a = meet("octets of all cells", x -> { for (int o = -512; o < 0; o += 8) { x.putNumber(1, 10, o, 0); } },
        x -> { for (int o = -512; o < 0; o += 8) { x.putNumber(1, 10, o + o / 8 % 2, 0); } });
    for (int o = -512; o < 0; o += 8) { due.is("octet " + o, a.x.cell(a.here() - 2, o), o / 8 % 2 == 0 ? 1 : 0); }
  }

  // ---- REFUSED ----

  /** "1 BAD.": wherever it is come to, and nowhere else. */
  private static void bad() {
    judged("a BAD slot", 1, asm().feed(255, 0, 0, 0, 0));
    judged("a BAD helper", 1, asm().call(4));
    judged("a BAD register", 1, asm().feed(183, 10, 0, 0, 0));
    judged("a BAD slot that is not come to", 0, asm().go(1).feed(255, 0, 0, 0, 0));
  }

  /** "2 a register that is read is NONE": each of them, in every instruction. */
  private static void readsNone() {
    for (int code : new int[] {0, 1, 2, 3, 4, 5, 6, 7, 9, 10, 12}) {
      judged(code + ", DST", 2, asm().by(code, 3, 1));
      judged(code + ", DST of 4", 2, asm().halfBy(code, 3, 1));
      judged(code + ", SRC", 2, asm().set(3, 1).with(code, 3, 4));
      judged(code + ", SRC of 4", 2, asm().set(3, 1).halfWith(code, 3, 4));
      judged(code + ", DST with SRC", 2, asm().set(4, 1).with(code, 3, 4));
      judged(code + ", none is NONE", 0, asm().set(3, 1).set(4, 1).with(code, 3, 4));
    }
    for (int code : new int[] {1, 2, 3, 4, 5, 6, 7, 10, 11, 12, 13}) {
      judged("jump " + code + ", DST", 2, asm().jumpBy(code, 3, 1, 0));
      judged("jump " + code + ", DST of 6", 2, asm().jumpHalfBy(code, 3, 1, 0));
      judged("jump " + code + ", SRC", 2, asm().set(3, 1).jumpWith(code, 3, 4, 0));
      judged("jump " + code + ", SRC of 6", 2, asm().set(3, 1).jumpHalfWith(code, 3, 4, 0));
    }
    for (int op : new int[] {132, 135}) { judged("0 - NONE", 2, asm().feed(op, 3, 0, 0, 0)); }
    for (int op : new int[] {212, 215, 220}) { judged("13 of NONE", 2, asm().feed(op, 3, 0, 0, 16)); }
    for (int w : new int[] {0, 8, 16, 32}) { judged("X of NONE", 2, asm().feed(191, 3, 4, w, 0)); }
    for (int w : new int[] {0, 8, 16}) { judged("4 X of NONE", 2, asm().feed(188, 3, 4, w, 0)); }
    for (int n : WIDTHS) {
      judged("a read at NONE", 2, asm().load(n, 3, 4, 0));
      judged("a put at NONE", 2, asm().putNumber(n, 3, 0, 0));
      judged("a put of a register at NONE", 2, asm().set(4, 1).put(n, 3, 0, 4));
      judged("a put of NONE", 2, asm().put(n, 10, -8, 3));
    }
    int[] given = {0, 2, 4, 2, 0, 0, 1};
    for (int helper : new int[] {1, 2, 3, 5, 6}) {
      for (int none = 1; none <= 5; none++) {
        Asm a = asm().call(5);
        for (int r = 1; r <= 5; r++) { if (r != none) { a.set(r, 1); } }
        // What is not NONE are NUMBERS: of a TABLE's helper those are refused by 3.
        judged("helper " + helper + ", register " + none, none <= given[helper] ? 2 : helper <= 3 ? 3 : 0, a.call(helper));
      }
    }
  }

  /** "5 an end without NUMBER in 0 (NONE there, too: 5)" */
  private static void ends() {
    Asm[] others = {asm(), asm().copy(0, 1), asm().copy(0, 10), asm().table(0, 1), asm().copy(2, 1).table(1, 0).call(1),
      asm().copy(2, 1).table(1, 0).call(1).jumpBy(Asm.NE, 0, 0, 2).set(0, 0).end()};
    for (Asm a : others) {
      int at = a.here();
      a.end();
      due.is("an end with KIND " + a.x.may(at, 0, 0), a.x.judge(), 5);
      due.is("place()", a.x.place(), at);
    }
    for (Asm a : new Asm[] {asm().set(0, 0), asm().wide(0, -1), asm().load(8, 0, 1, 0), asm().call(5)}) {
      a.end();
      due.is("an end with a NUMBER", a.x.judge(), 0);
    }
  }

  /** "And at 0 a program without slots: 6." */
  private static void noSlots() {
    Asm a = asm();
    due.is("judge() without slots", a.x.judge(), 6);
    due.is("place()", a.x.place(), 0);
    a.set(0, 0).end();
    due.is("judge() with slots", a.x.judge(), 0);
    a.clear();
    due.is("judge() when all are cut", a.x.judge(), 6);
    due.is("place()", a.x.place(), 0);
  }

  /** "6 a slot that is gone on to is not there, or is no later one": a jump at 2 of 6 slots, to each around. */
  private static void goneOnTo() {
    for (int to = -3; to <= 9; to++) {
      boolean good = to >= 3 && to <= 5;
      jumps("a jump to " + to, good, asm().set(0, 0).set(3, 0).go(to - 3));
      jumps("a far jump to " + to, good, asm().set(0, 0).set(3, 0).goFar(to - 3));
      jumps("a branch to " + to, good, asm().set(0, 0).set(3, 0).jumpHalfBy(Asm.EQ, 3, 0, to - 3));
      jumps("a branch to " + to + ", the one way", good, asm().set(0, 0).set(3, 0).jumpBy(Asm.EQ, 3, 0, to - 3));
    }
    for (int far : new int[] {Integer.MIN_VALUE, -65536, 65536, Integer.MAX_VALUE - 1, Integer.MAX_VALUE}) {
      jumps("a far jump by " + far, false, asm().set(0, 0).set(3, 0).goFar(far));
    }
    for (int far : new int[] {-32768, 32767}) { jumps("a jump by " + far, false, asm().set(0, 0).set(3, 0).go(far)); }
    Asm a = asm().set(0, 0).set(0, 0);
    due.is("a last slot that goes on", a.x.judge(), 6);
    due.is("place()", a.x.place(), 1);
    a = asm().set(0, 0).call(5);
    due.is("a call that goes on", a.x.judge(), 6);
    a = asm().load(1, 0, 1, 0).jumpBy(Asm.EQ, 0, 5, -1).end();
    due.is("a branch to itself", a.x.judge(), 6);
    due.is("place()", a.x.place(), 1);
  }

  private static void jumps(String what, boolean good, Asm a) {
    a.end().end().end();
    due.is(what + ": judge()", a.x.judge(), good ? 0 : 6);
    due.is(what + ": place()", a.x.place(), good ? -1 : 2);
  }

  /**
   * "or the second one of 24 (from 0 on each slot with the OP 24 that is no second one has the next as its second one);
   * of 24 that there is none"
   */
  private static void secondSlots() {
    // Slots 1 .. 5 have the OP 24: 2, 4 and 6 are second ones, whatever they are.
    for (int to = 1; to <= 7; to++) {
      Asm a = asm().go(to - 1);
      for (int i = 1; i <= 5; i++) { a.feed(24, 3, 0, 0, 0); }
      a.feed(183, 0, 0, 0, 0).set(0, 0).end();
      int by = to == 7 ? 0 : to % 2 == 0 ? 6 : 1;
      due.is("a jump to " + to + " among 24s", a.x.judge(), by);
      due.is("place()", a.x.place(), by == 0 ? -1 : by == 6 ? 0 : to);
    }
    Asm a = asm().set(0, 0).load(1, 3, 1, 0).jumpHalfBy(Asm.EQ, 3, 0, 1).wide(4, 0).end();
    due.is("a branch to a second one", a.x.judge(), 6);
    due.is("place()", a.x.place(), 2);
    a = asm().set(0, 0).set(3, 1).jumpBy(Asm.EQ, 3, 0, 1).wide(4, 0).end();
    due.is("a branch to a second one that is not gone", a.x.judge(), 0);
    for (int src = 0; src <= 1; src++) {
      a = asm().set(0, 0).feed(24, 3, src, 0, 0);
      due.is("24 without a second one", a.x.judge(), 6);
      due.is("place()", a.x.place(), 1);
      a = asm().set(0, 0).feed(24, 3, src, 0, 0).feed(0, 0, 0, 0, 0);
      due.is("24 that goes on to nothing", a.x.judge(), 6);
      due.is("place()", a.x.place(), 1);
    }
    a = asm().end();
    a.x.alter(0, 24, 3, 0, 0);
    due.is("24 alone", a.x.judge(), 6);
    due.is("place()", a.x.place(), 0);
  }

  /** "(of several the first here)" */
  private static void firstOfSeveral() {
    judged("1 and 2", 1, asm().feed(15, 3, 4, 1, 0));
    judged("1 and 4", 1, asm().feed(97, 3, 1, 99, 1));
    judged("2 and 3, the first NONE", 2, asm().with(Asm.MUL, 3, 1));
    judged("2 and 3, the second NONE", 2, asm().with(Asm.MUL, 1, 3));
    judged("2 and 3 of a jump", 2, asm().jumpWith(Asm.EQ, 1, 3, 0));
    judged("2 and 3 of a put", 2, asm().set(3, 0).put(8, 3, 0, 4));
    judged("2 and 3 of a put, changed about", 2, asm().put(4, 3, 0, 1));
    judged("2 and 4 of a put", 2, asm().put(8, 10, 0, 3));
    judged("2 and 3 of 241", 2, asm().change(8, 241, 1, 0, 1));
    judged("2 and 3 of a call", 2, asm().copy(2, 1).set(3, 0).call(2));
    judged("3 and 4 of a put", 3, asm().put(4, 10, 0, 1));
    judged("3 and 4 of a put by 8", 3, asm().put(8, 10, -1, 1));
    judged("3 and 4 of a put into the CONTEXT", 3, asm().put(8, 1, 0, 10));
    judged("3 and 4 of a change", 3, asm().change(8, 0, 10, 0, 1));
    judged("3 and 4 of a call, TABLE", 3, asm().copy(2, 10).call(1));
    judged("3 and 4 of a call, VALUE", 3, asm().copy(2, 10).set(3, 0).set(4, 0).table(1, 0).call(2));
    judged("3 and 4 of a call, 4", 3, asm().copy(2, 10).copy(3, 1).copy(4, 1).table(1, 0).call(2));
    Asm[] last = {asm().feed(255, 0, 0, 0, 0), asm().copy(3, 4), asm().by(Asm.MUL, 1, 1), asm().load(1, 3, 1, 16), asm().end()};
    for (int by = 1; by <= 5; by++) { due.is(by + " and 6", last[by - 1].x.judge(), by); }
    Asm a = asm().load(1, 3, 1, 0).jumpWith(Asm.EQ, 3, 1, 99);
    due.is("3 and 6 of a jump", a.x.judge(), 3);
    a = asm().feed(24, 3, 1, 0, 2);
    due.is("4 and 6 of 24", a.x.judge(), 4);
    a = asm().feed(24, 10, 1, 0, 2);
    due.is("1, 4 and 6 of 24", a.x.judge(), 1);
  }

  /** "REFUSED is a program at the first slot": in the order of slots, not of ways. */
  private static void firstSlot() {
    Asm a = asm().load(1, 3, 1, 0).jumpBy(Asm.EQ, 3, 0, 1).load(1, 3, 1, 16).feed(255, 0, 0, 0, 0);
    due.is("4 at 2 before 1 at 3", a.x.judge(), 4);
    due.is("place()", a.x.place(), 2);
    a = asm().load(1, 3, 1, 0).jumpBy(Asm.EQ, 3, 0, 1).go(1).feed(255, 0, 0, 0, 0).end();
    due.is("1 at 3 before 5 at 4", a.x.judge(), 1);
    due.is("place()", a.x.place(), 3);
  }

  // ---- CONTEXT, STACK, VALUE with a NUMBER ----

  /** Register r is l .. h, both below 2^16 or so: an octet or two of the CONTEXT, cut and moved on. */
  private static Asm small(Asm a, int r, int l, int h) {
    if (l == h) { return a.set(r, l); }
    return a.load(4, r, 1, 0).jumpBy(Asm.GE, r, l, 2).set(0, 0).end().jumpBy(Asm.LE, r, h, 2).set(0, 0).end();
  }

  /** "low + low .. high + high (1: low - high .. high - low), NUMBERS of 0 .. 2^16 alone" */
  private static void placesBySmallNumbers() {
    found("CONTEXT + 3 .. 65536", small(asm(), 3, 3, 65536).with(Asm.ADD, 1, 3), 1, 2, 3, 65536, 0, 0);
    found("3 .. 65536 + CONTEXT", small(asm(), 3, 3, 65536).with(Asm.ADD, 3, 1), 3, 2, 3, 65536, 0, 0);
    found("CONTEXT - 3 .. 65536", small(asm(), 3, 3, 65536).with(Asm.SUB, 1, 3), 1, 2, -65536, -3, 0, 0);
    found("CONTEXT + 65536", asm().set(3, 65536).with(Asm.ADD, 1, 3), 1, 2, 65536, 65536, 0, 0);
    found("CONTEXT + 0", asm().set(3, 0).with(Asm.ADD, 1, 3), 1, 2, 0, 0, 0, 0);
    judged("CONTEXT + 3 .. 65537", 3, small(asm(), 3, 3, 65537).with(Asm.ADD, 1, 3));
    judged("3 .. 65537 + CONTEXT", 3, small(asm(), 3, 3, 65537).with(Asm.ADD, 3, 1));
    judged("CONTEXT - 3 .. 65537", 3, small(asm(), 3, 3, 65537).with(Asm.SUB, 1, 3));
    judged("CONTEXT + 65537", 3, asm().set(3, 65537).with(Asm.ADD, 1, 3));
    judged("CONTEXT + a register of -1", 3, asm().set(3, -1).with(Asm.ADD, 1, 3));
    judged("CONTEXT + any", 3, asm().load(8, 3, 1, 0).with(Asm.ADD, 1, 3));
    judged("3 .. 5 - CONTEXT", 3, small(asm(), 3, 3, 5).with(Asm.SUB, 3, 1));
    Asm twice = small(small(asm(), 3, 3, 5), 4, 10, 20).with(Asm.ADD, 1, 4).with(Asm.SUB, 1, 3);
    found("CONTEXT + 10 .. 20 - 3 .. 5", twice, 1, 2, 5, 17, 0, 0);
    found("VALUE + 3 .. 5", small(value(), 3, 3, 5).with(Asm.ADD, 7, 3), 7, 5, 3, 5, 0, 0);
    found("3 .. 5 + VALUE", small(value(), 3, 3, 5).with(Asm.ADD, 3, 7), 3, 5, 3, 5, 0, 0);
    found("VALUE - 3 .. 5", small(value(), 3, 3, 5).with(Asm.SUB, 7, 3), 7, 5, -5, -3, 0, 0);
    judged("VALUE + 65537", 3, value().set(3, 65537).with(Asm.ADD, 7, 3));
  }

  /** 7 is VALUE + 0 of TABLE 0, 1 the CONTEXT. */
  private static Asm value() {
    return asm().copy(6, 1).copy(2, 1).table(1, 0).call(1).copy(7, 0).copy(1, 6).jumpBy(Asm.NE, 7, 0, 2).set(0, 0).end();
  }

  /** "IMM of -2^16 .. 2^16 as it is" */
  private static void placesByImm() {
    for (int imm : new int[] {-65536, -1, 0, 1, 65536}) {
      found("CONTEXT + " + imm, asm().by(Asm.ADD, 1, imm), 1, 2, imm, imm, 0, 0);
      found("CONTEXT - " + imm, asm().by(Asm.SUB, 1, imm), 1, 2, -imm, -imm, 0, 0);
      found("VALUE + " + imm, value().by(Asm.ADD, 7, imm), 7, 5, imm, imm, 0, 0);
      found("VALUE - " + imm, value().by(Asm.SUB, 7, imm), 7, 5, -imm, -imm, 0, 0);
      found("STACK + " + imm, asm().copy(3, 10).by(Asm.ADD, 3, imm), 3, 3, imm, 0, 0, 0);
      found("STACK - " + imm, asm().copy(3, 10).by(Asm.SUB, 3, imm), 3, 3, -imm, 0, 0, 0);
    }
    for (int imm : new int[] {Integer.MIN_VALUE, -65537, 65537, Integer.MAX_VALUE}) {
      judged("CONTEXT + " + imm, 3, asm().by(Asm.ADD, 1, imm));
      judged("CONTEXT - " + imm, 3, asm().by(Asm.SUB, 1, imm));
      judged("VALUE + " + imm, 3, value().by(Asm.ADD, 7, imm));
      judged("STACK + " + imm, 3, asm().copy(3, 10).by(Asm.ADD, 3, imm));
    }
  }

  /** As far from where it was as can be, by sixteen slots. */
  private static Asm far(Asm a, int r, int sign) {
    for (int i = 0; i < 16; i++) { a.by(Asm.ADD, r, sign * 65536); }
    return a;
  }

  /** "what comes must lie in -2^20 .. 2^20" */
  private static void placesFarAway() {
    int most = 1 << 20;
    for (int sign = -1; sign <= 1; sign += 2) {
      found("CONTEXT at the end", far(asm(), 1, sign), 1, 2, sign * most, sign * most);
      found("STACK at the end", far(asm().copy(3, 10), 3, sign), 3, 3, sign * most, 0);
      found("VALUE at the end", far(value(), 7, sign), 7, 5, sign * most, sign * most);
      judged("CONTEXT behind the end", 3, far(asm(), 1, sign).by(Asm.ADD, 1, sign));
      judged("STACK behind the end", 3, far(asm().copy(3, 10), 3, sign).by(Asm.ADD, 3, sign));
      judged("VALUE behind the end", 3, far(value(), 7, sign).by(Asm.ADD, 7, sign));
      judged("CONTEXT behind the end, by -", 3, far(asm(), 1, sign).by(Asm.SUB, 1, -sign));
      found("CONTEXT back again", far(asm(), 1, sign).by(Asm.ADD, 1, -sign), 1, 2, sign * (most - 1), sign * (most - 1));
    }
    judged("high alone behind the end", 3, small(far(asm().copy(7, 1), 7, 1), 3, 0, 1).with(Asm.ADD, 7, 3));
    judged("low alone behind the end", 3, small(far(asm().copy(7, 1), 7, -1), 3, 0, 1).with(Asm.SUB, 7, 3));
    found("a range up to the end", small(far(asm().copy(7, 1), 7, 1).by(Asm.ADD, 7, -1), 3, 0, 1).with(Asm.ADD, 7, 3), 7, 2, most - 1, most);
    judged("changed about, behind the end", 3, far(asm().copy(7, 1), 7, 1).set(3, 1).with(Asm.ADD, 3, 7));
  }

  /** "a STACK only with one number (low = high)" */
  private static void placesOfStack() {
    found("STACK + a register", asm().copy(3, 10).set(4, 65536).with(Asm.ADD, 3, 4), 3, 3, 65536, 0);
    found("STACK - a register", asm().copy(3, 10).set(4, 512).with(Asm.SUB, 3, 4), 3, 3, -512, 0);
    found("a register + STACK", asm().set(4, 8).with(Asm.ADD, 4, 10), 4, 3, 8, 0);
    judged("STACK + 0 .. 1", 3, small(asm().copy(3, 10), 4, 0, 1).with(Asm.ADD, 3, 4));
    judged("STACK - 0 .. 1", 3, small(asm().copy(3, 10), 4, 0, 1).with(Asm.SUB, 3, 4));
    judged("0 .. 1 + STACK", 3, small(asm(), 4, 0, 1).with(Asm.ADD, 4, 10));
    judged("STACK + 65537", 3, asm().copy(3, 10).set(4, 65537).with(Asm.ADD, 3, 4));
    judged("a number - STACK", 3, asm().set(4, 8).with(Asm.SUB, 4, 10));
  }

  /** "All others with a KIND that is no NUMBER: 3." */
  private static void allOthersWithAKind() {
    Piece[] kinds = {a -> a.copy(3, 1), a -> a.copy(3, 10), a -> a.table(3, 0),
      a -> a.copy(6, 1).copy(2, 1).table(1, 0).call(1).copy(3, 0).copy(1, 6).jumpBy(Asm.NE, 3, 0, 2).set(0, 0).end(),
      a -> a.copy(6, 1).copy(2, 1).table(1, 0).call(1).copy(3, 0).copy(1, 6)};
    for (int k = 0; k < kinds.length; k++) {
      boolean place = k != 2 && k != 4;
      for (int code = 0; code <= 12; code++) {
        if (code == 8 || code == 11) { continue; }
        boolean good = place && code <= 1;
        judged(code + " of KIND " + k, good ? 0 : 3, with(kinds[k]).by(code, 3, 1));
        judged(code + " of KIND " + k + " with a register", good ? 0 : 3, with(kinds[k]).set(4, 1).with(code, 3, 4));
        judged(code + " with KIND " + k, good && code == 0 ? 0 : 3, with(kinds[k]).set(4, 1).with(code, 4, 3));
        judged("4 " + code + " of KIND " + k, 3, with(kinds[k]).halfBy(code, 3, 1));
        judged("4 " + code + " with KIND " + k, 3, with(kinds[k]).set(4, 1).halfWith(code, 4, 3));
        judged(code + " of KIND " + k + " with itself", 3, with(kinds[k]).with(code, 3, 3));
        judged(code + " of KIND " + k + " with CONTEXT", 3, with(kinds[k]).with(code, 3, 1));
      }
      for (int op : new int[] {132, 135}) { judged("0 - KIND " + k, 3, with(kinds[k]).feed(op, 3, 0, 0, 0)); }
      for (int op : new int[] {212, 215, 220}) { judged("13 of KIND " + k, 3, with(kinds[k]).feed(op, 3, 0, 0, 64)); }
      for (int w : new int[] {8, 16, 32}) { judged("X of KIND " + k + " with " + w, 3, with(kinds[k]).feed(191, 4, 3, w, 0)); }
      for (int w : new int[] {0, 8, 16}) { judged("4 X of KIND " + k + " with " + w, 3, with(kinds[k]).feed(188, 4, 3, w, 0)); }
      judged("X of KIND " + k, 0, with(kinds[k]).copy(4, 3));
      judged("X by IMM over KIND " + k, 0, with(kinds[k]).set(3, 1));
      judged("4 X by IMM over KIND " + k, 0, with(kinds[k]).halfBy(Asm.MOV, 3, 1));
    }
  }

  private static Asm with(Piece kind) {
    Asm a = asm();
    kind.on(a);
    return a;
  }

  /** "or a 6 with 0 (IMM, sort 5, = or not)": "Else 3" */
  private static void sixWithZero() {
    for (int code : new int[] {1, 2, 3, 4, 5, 6, 7, 10, 11, 12, 13}) {
      boolean good = code == 1 || code == 5;
      judged("6 by 0, " + code, good ? 0 : 3, six().jumpBy(code, 3, 0, 0));
      judged("6 by 1, " + code, 3, six().jumpBy(code, 3, 1, 0));
      judged("6 by -1, " + code, 3, six().jumpBy(code, 3, -1, 0));
      judged("6 by 0 of sort 6, " + code, 3, six().jumpHalfBy(code, 3, 0, 0));
      judged("6 with a register of 0, " + code, 3, six().set(4, 0).jumpWith(code, 3, 4, 0));
      judged("a register of 0 with 6, " + code, 3, six().set(4, 0).jumpWith(code, 4, 3, 0));
      judged("6 with itself, " + code, 3, six().jumpWith(code, 3, 3, 0));
      for (int r : new int[] {1, 10, 7}) {
        judged("a place by 0, " + code, 3, value().jumpBy(code, r, 0, 0));
        judged("a place with itself, " + code, 3, value().jumpWith(code, r, r, 0));
      }
      judged("a TABLE by 0, " + code, 3, asm().table(3, 0).jumpBy(code, 3, 0, 0));
    }
    // Two 6s, of the calls at 4 and 10: only those of the one that is asked for are settled.
    Asm a = six().copy(8, 3).copy(2, 6).table(1, 0).call(1).copy(7, 0).put(8, 10, -8, 8).put(8, 10, -16, 7).jumpBy(Asm.EQ, 8, 0, 2);
    int on = a.here();
    a.set(0, 0).end().set(0, 0).end();
    due.is("judge()", a.x.judge(), 0);
    long[][] dues = {{5, 6, 3, 3}, {1, 6, 2, 3}};
    for (int way = 0; way < 2; way++) {
      due.is("the one 6", a.x.may(on + 2 * way, 8, 0), dues[way][0]);
      due.is("its copy", a.x.may(on + 2 * way, 3, 0), 0);
      due.is("the other 6", a.x.may(on + 2 * way, 7, 0), dues[way][1]);
      due.is("the one cell", a.x.cell(on + 2 * way, -8), dues[way][2]);
      due.is("the other cell", a.x.cell(on + 2 * way, -16), dues[way][3]);
      due.is("the call of the other", a.x.may(on + 2 * way, 7, 4), 10);
    }
  }

  /** "all registers and cells that HOLD the 6 of the same c are VALUE + 0 on the way where it is not 0, the NUMBER 0 on the other one" */
  private static void sixInAllCells() {
    for (int[] cells : new int[][] {{-512}, {-8}, {-512, -8}, null}) {
      for (int code : new int[] {Asm.EQ, Asm.NE}) {
        Asm a = six();
        for (int o = -512; o < 0; o += 8) { if (cells == null || o == cells[0] || o == cells[cells.length - 1]) { a.put(8, 10, o, 3); } }
        for (int r : new int[] {0, 2, 4, 5, 7, 8, 9}) { a.copy(r, 3); }
        a.jumpBy(code, 9, 0, 3);
        int on = a.here();
        a.load(8, 1, 10, cells == null ? -256 : cells[0]).set(0, 0).end();
        a.load(8, 1, 10, cells == null ? -256 : cells[0]).set(0, 0).end();
        due.is("judge()", a.x.judge(), 0);
        for (int way = 0; way < 2; way++) {
          int at = on + 3 * way;
          boolean zero = (code == Asm.EQ) == (way == 1);
          for (int r : new int[] {0, 2, 3, 4, 5, 7, 8, 9}) { settled("register " + r, a, at, r, zero); }
          settled("what a cell holds", a, at + 1, 1, zero);
          for (int o = -512; o < 0; o += 8) {
            boolean holds = cells == null || o == cells[0] || o == cells[cells.length - 1];
            due.is("the cell at " + o, a.x.cell(at, o), !holds ? 0 : zero ? 2 : 3);
          }
        }
      }
    }
    // The octets of the NUMBER 0 are known; those of a VALUE are not.
    judged("a part of the NUMBER 0", 0, six().put(8, 10, -512, 3).jumpBy(Asm.NE, 3, 0, 1).load(1, 4, 10, -505));
    judged("a part of a VALUE", 4, six().put(8, 10, -512, 3).jumpBy(Asm.EQ, 3, 0, 1).load(1, 4, 10, -505));
    judged("a part of a 6", 4, six().put(8, 10, -512, 3).load(1, 4, 10, -505));
  }

  private static void settled(String what, Asm a, int at, int r, boolean zero) {
    long[] dues = {zero ? 1 : 5, 0, 0, 0, 0};
    for (int k = 0; k < 5; k++) { due.is(what + (zero ? " where it is 0, " : " where it is not 0, ") + k, a.x.may(at, r, k), dues[k]); }
  }

  /** 3 is a VALUE of TABLE 0, or 0, from the call at 4; 6 the CONTEXT. */
  private static Asm six() { return asm().copy(6, 1).copy(2, 1).table(1, 0).call(1).copy(3, 0); }

  // ---- ACCESS ----

  /** "CONTEXT: 0 <= low, high + n <= its length": 16 octets, and a range. */
  private static void rangesInContext() {
    for (int n : WIDTHS) {
      judged(n + " octets at 0 .. the last", 0, small(asm(), 3, 0, 16 - n).with(Asm.ADD, 1, 3).load(n, 4, 1, 0));
      judged(n + " octets at 0 .. one more", 4, small(asm(), 3, 0, 17 - n).with(Asm.ADD, 1, 3).load(n, 4, 1, 0));
      judged(n + " octets at 1 .. the last, OFFSET -1", 0, small(asm(), 3, 1, 17 - n).with(Asm.ADD, 1, 3).load(n, 4, 1, -1));
      judged(n + " octets at 0 .. the last, OFFSET -1", 4, small(asm(), 3, 0, 17 - n).with(Asm.ADD, 1, 3).load(n, 4, 1, -1));
      judged(n + " octets below", 0, small(asm(), 3, 0, 16 - n).with(Asm.SUB, 1, 3).load(n, 4, 1, 16 - n));
      judged(n + " octets too far below", 4, small(asm(), 3, 0, 17 - n).with(Asm.SUB, 1, 3).load(n, 4, 1, 16 - n));
    }
    Asm a = new Asm().load(1, 3, 1, 0).set(0, 0).end();
    due.is("a CONTEXT of 0", a.x.judge(), 4);
    a.x.context(1);
    due.is("a CONTEXT of 1", a.x.judge(), 0);
    a.x.context(0);
    due.is("a CONTEXT of 0 again", a.x.judge(), 4);
    a = new Asm().load(8, 3, 1, 248).set(0, 0).end();
    a.x.context(256);
    due.is("the end of a CONTEXT of 256", a.x.judge(), 0);
    a.x.context(255);
    due.is("the end of a CONTEXT of 255", a.x.judge(), 4);
  }

  /** "VALUE: likewise by its octets": 8 octets, and a range. */
  private static void rangesInValue() {
    for (int n : WIDTHS) {
      judged(n + " octets read up to the last", 0, small(value(), 3, 0, 8 - n).with(Asm.ADD, 7, 3).load(n, 4, 7, 0));
      judged(n + " octets read, one more", 4, small(value(), 3, 0, 9 - n).with(Asm.ADD, 7, 3).load(n, 4, 7, 0));
      judged(n + " octets put up to the last", 0, small(value(), 3, 0, 8 - n).with(Asm.ADD, 7, 3).putNumber(n, 7, 0, 1));
      judged(n + " octets put, one more", 4, small(value(), 3, 0, 9 - n).with(Asm.ADD, 7, 3).putNumber(n, 7, 0, 1));
      judged(n + " octets put below", 4, small(value(), 3, 0, 1).with(Asm.SUB, 7, 3).putNumber(n, 7, 0, 1));
      judged(n + " octets put below, and on by OFFSET", n == 8 ? 4 : 0, small(value(), 3, 0, 1).with(Asm.SUB, 7, 3).putNumber(n, 7, 1, 1));
    }
    judged("a register put into a VALUE", 0, value().set(3, 1).put(8, 7, 0, 3));
    for (int r : new int[] {1, 10, 7}) { judged("KIND of " + r + " put into a VALUE", 3, value().put(8, 7, 0, r)); }
  }

  // What the last two cells of the STACK are: nothing, known octets, a NUMBER (5), the CONTEXT.
  private static final int[] STATES = {0, 1, 2, 3};

  private static Asm cells(int first, int second) {
    Asm a = asm().set(3, 5);
    int[] states = {first, second};
    for (int c = 0; c < 2; c++) {
      int at = 8 * c - 16;
      if (states[c] == 1) { a.putNumber(8, 10, at, 0); }
      if (states[c] == 2) { a.put(8, 10, at, 3); }
      if (states[c] == 3) { a.put(8, 10, at, 1); }
    }
    return a;
  }

  private static boolean allKnown(int first, int second, int o, int n) {
    for (int i = o; i < o + n; i++) {
      int state = i < -8 ? first : second;
      if (state != 1 && state != 2) { return false; }
    }
    return true;
  }

  /**
   * "of the STACK: 8 that HOLD a register: it, if n is 8 and at their address; else if all known, and none of them HELD as
   * other than a NUMBER: NUMBER; else 4"
   */
  private static void reads() {
    for (int first : STATES) {
      for (int second : STATES) {
        for (int n : WIDTHS) {
          for (int o = -16; o <= -n; o++) {
            String what = "a read of " + n + " at " + o + " of " + first + ", " + second;
            int whole = n == 8 && o == -16 ? first : n == 8 && o == -8 ? second : 0;
            Asm a = cells(first, second).load(n, 4, 10, o);
            if (whole >= 2) {
              found(what, a, 4, whole == 2 ? 1 : 2, whole == 2 ? 5 : 0, whole == 2 ? 5 : 0);
            } else if (allKnown(first, second, o, n)) {
              found(what, a, 4, 1, 0, n == 8 ? -1 : (1L << 8 * n) - 1);
            } else {
              judged(what, 4, a);
            }
          }
        }
      }
    }
  }

  /** What the STACK HOLDS is not read elsewhere. */
  private static void readsBesideTheStack() {
    for (int at : new int[] {-512, -8}) {
      found("8 octets of the CONTEXT", asm().set(3, 5).put(8, 10, at, 3).load(8, 4, 1, 0), 4, 1, 0, -1);
      found("8 octets of a VALUE", value().set(3, 5).put(8, 10, at, 3).load(8, 4, 7, 0), 4, 1, 0, -1);
      judged("8 octets put into a VALUE", 0, value().set(3, 5).put(8, 10, at, 1).putNumber(8, 7, 0, 1).load(8, 4, 10, at).load(8, 5, 4, 0));
      judged("8 octets of a VALUE changed", 0, value().set(3, 5).put(8, 10, at, 1).change(8, 0, 7, 0, 3).load(8, 4, 10, at).load(8, 5, 4, 0));
    }
  }

  /** "(129 ..: n octets with sign: ALL)" */
  private static void readsWithSign() {
    for (int n : new int[] {1, 2, 4}) {
      found(n + " octets with sign of the CONTEXT", asm().loadSigned(n, 4, 1, 16 - n), 4, 1, 0, -1);
      judged(n + " octets with sign behind the CONTEXT", 4, asm().loadSigned(n, 4, 1, 17 - n));
      found(n + " octets with sign of a VALUE", value().loadSigned(n, 4, 7, 8 - n), 4, 1, 0, -1);
      judged(n + " octets with sign behind a VALUE", 4, value().loadSigned(n, 4, 7, 9 - n));
      found(n + " octets with sign of a NUMBER that is held", cells(2, 2).loadSigned(n, 4, 10, -8), 4, 1, 0, -1);
      judged(n + " octets with sign of the CONTEXT that is held", 4, cells(2, 3).loadSigned(n, 4, 10, -8));
    }
  }

  private static int stateAt(int first, int second, int i) { return i < -8 ? first : second; }

  /** "otherwise octets are known, cells that they touch HOLD nothing more (their other octets are known if it was a NUMBER, else NONE)" */
  private static void puts() {
    for (int first : STATES) {
      for (int second : STATES) {
        for (int n : WIDTHS) {
          for (int o = -16; o <= -n; o++) {
            cellsBehind("a put of IMM, " + n + " at " + o, cells(first, second).putNumber(n, 10, o, 7), first, second, o, n, false);
            boolean holds = n == 8 && o % 8 == 0;
            cellsBehind("a put of a NUMBER, " + n + " at " + o, cells(first, second).put(n, 10, o, 3), first, second, o, n, holds);
          }
        }
      }
    }
  }

  private static void cellsBehind(String what, Asm a, int first, int second, int o, int n, boolean holds) {
    int at = a.here();
    a.set(0, 0).end();
    due.is("judge() of " + what, a.x.judge(), 0);
    for (int i = -24; i < 0; i++) {
      // The cell of octet i is -16 .. -9 or -8 .. -1.
      int cell = i < -16 ? -24 : i < -8 ? -16 : -8;
      boolean touched = o < cell + 8 && o + n > cell;
      int state = i < -16 ? 0 : stateAt(first, second, i);
      int want = i >= o && i < o + n ? holds ? 2 : 1 : !touched ? state : state == 1 || state == 2 ? 1 : 0;
      due.is(what + " over " + first + ", " + second + ": octet " + i, a.x.cell(at, i), want);
    }
  }

  /** "Put: NUMBERS; 99 + 24 also others into the STACK at an address that 8 divides" */
  private static void putsOfOthers() {
    for (int o = -17; o <= 1; o++) {
      boolean divides = o % 8 == 0;
      boolean there = o + 8 <= 0;
      judged("a put of the CONTEXT at " + o, !divides ? 3 : there ? 0 : 4, asm().put(8, 10, o, 1));
      judged("a put of the STACK at " + o, !divides ? 3 : there ? 0 : 4, asm().put(8, 10, o, 10));
      judged("a put of a TABLE at " + o, !divides ? 3 : there ? 0 : 4, asm().table(3, 0).put(8, 10, o, 3));
      judged("a put of a NUMBER at " + o, there ? 0 : 4, asm().set(3, 0).put(8, 10, o, 3));
      for (int n : new int[] {1, 2, 4}) { judged("a put of " + n + " octets of the CONTEXT at " + o, 3, asm().put(n, 10, o, 1)); }
    }
    for (int o : new int[] {-528, -520, -512, -504}) { judged("a put of the CONTEXT at " + o, o < -512 ? 4 : 0, asm().put(8, 10, o, 1)); }
    // The sum counts, not its parts.
    for (int part = -15; part <= 15; part++) {
      judged("a sum that 8 divides", 0, asm().copy(3, 10).by(Asm.ADD, 3, -32 + part).put(8, 3, -part, 1));
      judged("a sum that 8 does not divide", 3, asm().copy(3, 10).by(Asm.ADD, 3, -32 + part).put(8, 3, 1 - part, 1));
    }
    Piece[] kinds = {a -> a.set(3, -7), a -> a.copy(3, 1).by(Asm.ADD, 3, -9), a -> a.copy(3, 10).by(Asm.ADD, 3, 20), a -> a.table(3, 1),
      a -> a.copy(2, 1).table(1, 1).call(1).copy(3, 0).jumpBy(Asm.NE, 3, 0, 2).set(0, 0).end(), a -> a.copy(2, 1).table(1, 1).call(1).copy(3, 0)};
    long[][] dues = {{1, -7, -7, 0, 0}, {2, -9, -9, 0, 0}, {3, 20, 0, 0, 0}, {4, 0, 0, 1, 0}, {5, 0, 0, 1, 0}, {6, 0, 0, 1, 3}};
    for (int k = 0; k < kinds.length; k++) {
      found("KIND " + dues[k][0] + " put and read", with(kinds[k]).put(8, 10, -512, 3).load(8, 4, 10, -512), 4, dues[k]);
    }
  }

  /** "195, 219: STACK or VALUE, as read and put (what is read there must be known, HOLDS nothing more)" */
  private static void changes() {
    for (int first : STATES) {
      for (int second : STATES) {
        for (int n : new int[] {4, 8}) {
          for (int o = -16; o <= -n; o++) {
            String what = "a change of " + n + " at " + o;
            Asm a = cells(first, second).set(4, 1).change(n, 0, 10, o, 4);
            if (allKnown(first, second, o, n)) { cellsBehind(what, a, first, second, o, n, false); } else { judged(what, 4, a); }
          }
        }
      }
    }
    for (int n : new int[] {4, 8}) {
      judged("a change before the STACK", 4, asm().set(4, 1).change(n, 0, 10, -513, 4));
      judged("a change behind the STACK", 4, asm().set(4, 1).putNumber(8, 10, -8, 0).change(n, 0, 10, 1 - n, 4));
      judged("a change of a VALUE", 0, value().set(4, 1).change(n, 0, 7, 8 - n, 4));
      judged("a change behind a VALUE", 4, value().set(4, 1).change(n, 0, 7, 9 - n, 4));
      judged("a change before a VALUE", 4, value().set(4, 1).change(n, 0, 7, -1, 4));
    }
    for (int how : new int[] {0, 1, 64, 65, 80, 81, 160, 161, 225, 241}) {
      judged("SRC of KIND 2, " + how, 3, asm().set(0, 0).putNumber(8, 10, -8, 0).change(8, how, 10, -8, 1));
      judged("SRC of KIND 3, " + how, 3, asm().set(0, 0).putNumber(8, 10, -8, 0).change(8, how, 10, -8, 10));
      judged("0 of KIND 2, " + how, how == 241 ? 3 : 0, asm().copy(0, 1).set(4, 1).putNumber(8, 10, -8, 0).change(8, how, 10, -8, 4));
      judged("0 of NONE, " + how, how == 241 ? 2 : 0, asm().set(4, 1).putNumber(8, 10, -8, 0).change(8, how, 10, -8, 4));
      judged("SRC of NONE, " + how, 2, asm().set(0, 0).putNumber(8, 10, -8, 0).change(8, how, 10, -8, 4));
      judged("at a NUMBER, " + how, 3, asm().set(0, 0).set(4, 1).change(8, how, 4, 0, 4));
      judged("at a TABLE, " + how, 3, asm().set(0, 0).set(4, 1).table(3, 0).change(8, how, 3, 0, 4));
      judged("at a 6, " + how, 3, six().set(0, 0).set(4, 1).change(8, how, 3, 0, 4));
    }
  }

  /** "then, with 1, 225: SRC, of 241: 0 is NUMBER 0 .. 2^(8 n) - 1" */
  private static void changesMake() {
    for (int n : new int[] {4, 8}) {
      long most = n == 8 ? -1 : 0xFFFFFFFFL;
      for (int how : new int[] {0, 64, 80, 160, 1, 65, 81, 161, 225, 241}) {
        boolean src = how == 1 || how == 65 || how == 81 || how == 161 || how == 225;
        Asm a = asm().set(0, 7).set(4, 1).putNumber(8, 10, -8, 0).change(n, how, 10, -8, 4);
        found("SRC behind " + how, a, 4, 1, src ? 0 : 1, src ? most : 1);
        a = asm().set(0, 7).set(4, 1).putNumber(8, 10, -8, 0).change(n, how, 10, -8, 4);
        found("0 behind " + how, a, 0, 1, how == 241 ? 0 : 7, how == 241 ? most : 7);
      }
    }
  }

  // ---- CALLS ----

  /** "2 an ACCESS to read of as many octets as a key has (of ROWS 4)" */
  private static void keysAsLongAs() {
    for (int k = 0; k <= 8; k++) {
      int octets = k == 0 ? 4 : k;
      for (int helper = 1; helper <= 3; helper++) {
        keyed(k, helper, octets, octets, 0, "a key of ");
        keyed(k, helper, octets, octets - 1, 4, "one octet NONE of a key of ");
        keyed(k, helper, octets - 1, octets, 4, "one octet too high, of a key of ");
      }
    }
  }

  /** A key at -below, of which so many octets are known (a ROW: k is 0). */
  private static void keyed(int k, int helper, int below, int known, int by, String what) {
    Asm a = new Asm();
    a.x.table(k == 0 ? 0 : 1, k == 0 ? 4 : k, 1, 2);
    a.x.context(1);
    for (int i = 0; i < known; i++) { a.putNumber(1, 10, i - Math.max(below, known), 0); }
    a.copy(2, 10).by(Asm.ADD, 2, -below).copy(3, 1).set(4, 0).table(1, 0).call(helper);
    judged(what + k + " of helper " + helper, by, a);
    a = new Asm();
    a.x.table(k == 0 ? 0 : 1, k == 0 ? 4 : k, 1, 2);
    a.x.context(k == 0 ? 4 : k);
    int more = by == 0 ? 0 : 1;
    a.copy(2, 1).by(Asm.ADD, 2, more).copy(3, 1).set(4, 0).table(1, 0).call(helper);
    judged("in the CONTEXT, " + what + k, by, a);
  }

  /** "3 (of 2) of as many as a VALUE has" */
  private static void valuesAsLongAs() {
    for (int v = 1; v <= 32; v++) {
      for (int less = 0; less <= 1; less++) {
        Asm a = new Asm();
        a.x.table(0, 4, v, 2);
        a.x.context(4);
        for (int i = 0; i < v - less; i++) { a.putNumber(1, 10, i - v, 0); }
        a.copy(2, 1).copy(3, 10).by(Asm.ADD, 3, -v).set(4, 0).table(1, 0).call(2);
        judged("a VALUE of " + v + ", " + less + " NONE", less == 0 ? 0 : 4, a);
        a = new Asm();
        a.x.table(1, 1, v, 2);
        a.x.context(v);
        a.copy(2, 1).copy(3, 1).by(Asm.ADD, 3, less).set(4, 0).table(1, 0).call(2);
        judged("a VALUE of " + v + " in the CONTEXT, " + less + " more", less == 0 ? 0 : 4, a);
      }
    }
    judged("1 asks for no VALUE", 0, asm().copy(2, 1).copy(3, 10).table(1, 1).call(1));
    judged("3 asks for no VALUE", 0, asm().copy(2, 1).copy(3, 10).table(1, 1).call(3));
  }

  /** Kind, key and VALUE of four TABLES that are all unlike. */
  private static final int[][] SIZES = {{0, 4, 1}, {1, 8, 2}, {1, 1, 32}, {1, 3, 9}};

  private static Asm unlike(int context) {
    Asm a = new Asm();
    for (int[] t : SIZES) { a.x.table(t[0], t[1], t[2], 2); }
    a.x.context(context);
    return a;
  }

  /** 2 is the CONTEXT (a key of any TABLE), 3 is below the STACK's end, where all is known. */
  private static Asm withValueAt(int below) {
    Asm a = unlike(8).copy(2, 1).set(4, 0).copy(3, 10).by(Asm.ADD, 3, -below);
    for (int o = -32; o < 0; o += 8) { a.putNumber(8, 10, o, 0); }
    return a;
  }

  /** As long as the key, and the VALUE, of the TABLE in 1. */
  private static void eachTableItsOwn() {
    for (int t = 0; t < 4; t++) {
      found("a key of TABLE " + t, unlike(SIZES[t][1]).copy(2, 1).table(1, t).call(1), 0, 6, 0, 0, t, 3);
      judged("a key of TABLE " + t + ", too short", 4, unlike(SIZES[t][1] - 1).copy(2, 1).table(1, t).call(1));
      judged("a VALUE of TABLE " + t, 0, withValueAt(SIZES[t][2]).table(1, t).call(2));
      judged("a VALUE of TABLE " + t + ", too short", 4, withValueAt(SIZES[t][2] - 1).table(1, t).call(2));
    }
    // Keys and VALUES in a VALUE of another TABLE (0: 8 octets): TABLE 1 asks for keys of 8 and VALUES of 16.
    judged("a VALUE as key", 0, value().copy(2, 7).table(1, 1).call(1));
    judged("a VALUE as key, too far", 4, value().copy(2, 7).by(Asm.ADD, 2, 1).table(1, 1).call(1));
    judged("a VALUE as VALUE, too short", 4, value().copy(2, 7).copy(3, 7).set(4, 0).table(1, 1).call(2));
  }

  /** "1 is a TABLE (else 3) .. 4 (of 2) a NUMBER; 6: 1 is a NUMBER" */
  private static void callsByKind() {
    for (int helper = 1; helper <= 3; helper++) {
      judged("a NUMBER for a TABLE", 3, asm().copy(2, 1).copy(3, 1).set(4, 0).wide(1, 1L << 34).call(helper));
      judged("the CONTEXT for a TABLE", 3, asm().copy(2, 1).copy(3, 1).set(4, 0).call(helper));
      judged("the STACK for a TABLE", 3, asm().copy(2, 1).copy(3, 1).set(4, 0).copy(1, 10).call(helper));
      judged("a NUMBER for a key", 3, asm().set(2, 1).copy(3, 1).set(4, 0).table(1, 0).call(helper));
      judged("a TABLE for a key", 3, asm().table(2, 1).copy(3, 1).set(4, 0).table(1, 0).call(helper));
      judged("a TABLE for a VALUE", helper == 2 ? 3 : 0, asm().copy(2, 1).table(3, 1).set(4, 0).table(1, 0).call(helper));
      judged("the CONTEXT for 4", helper == 2 ? 3 : 0, asm().copy(2, 1).copy(3, 1).copy(4, 1).table(1, 0).call(helper));
      judged("any NUMBER for 4", 0, asm().copy(2, 1).copy(3, 1).load(8, 4, 1, 0).table(1, 0).call(helper));
      judged("a VALUE for a key, and for a VALUE", 0, value().copy(2, 7).copy(3, 7).set(4, 0).table(1, 0).call(helper));
      judged("a VALUE for a key, too far", 4, value().copy(2, 7).by(Asm.ADD, 2, 5).copy(3, 7).set(4, 0).table(1, 0).call(helper));
      judged("a 6 for a key", 3, six().copy(2, 3).copy(3, 6).set(4, 0).table(1, 0).call(helper));
    }
    judged("PUT of the CONTEXT", 3, asm().call(6));
    judged("PUT of a TABLE", 3, asm().table(1, 0).call(6));
    judged("PUT of a 6", 3, six().copy(1, 3).call(6));
    judged("PUT of any NUMBER", 0, asm().load(8, 1, 1, 0).call(6));
  }

  /** "Then 0: of 1 kind 6, of others ALL; 1 .. 5 NONE." */
  private static void callsForget() {
    for (int helper : new int[] {1, 2, 3, 5, 6}) {
      Asm a = asm();
      for (int r = 0; r <= 9; r++) { if (r != 1) { a.set(r, 50 + r); } }
      a.copy(2, 1).copy(3, 1);
      if (helper == 6) { a.set(1, 1); } else { a.table(1, 1); }
      int call = a.here();
      a.call(helper);
      if (helper == 1) { found("0", a, 0, 6, 0, 0, 1, call); } else { found("0", a, 0, 1, 0, -1, 0, 0); }
      for (int r = 1; r <= 5; r++) { due.is("register " + r, a.x.may(call + 1, r, 0), 0); }
      for (int r = 6; r <= 9; r++) { due.is("register " + r, a.x.may(call + 1, r, 1), 50 + r); }
      due.is("register 10", a.x.may(call + 1, 10, 0), 3);
    }
  }
}
