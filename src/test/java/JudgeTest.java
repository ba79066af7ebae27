/** What THE JUDGE finds and refuses, with answers worked out by hand. */
public final class JudgeTest {
  private static final Due due = new Due();
  private static final long HALF = 0xFFFFFFFFL;

  public static void main(String[] args) {
    readsNone();
    kinds();
    places();
    numbers();
    halves();
    shifts();
    oneNumbers();
    ends();
    ways();
    seconds();
    joins();
    joinedCells();
    narrowing();
    settling();
    contextAccess();
    valueAccess();
    stackAccess();
    puts();
    changes();
    calls();
    order();
    due.end();
  }

  /** An object with a CONTEXT of 16 octets, a ROW (0: VALUES of 8) and a HASH (1: keys of 8, VALUES of 16). */
  private static Asm asm() {
    Asm a = new Asm();
    a.x.context(16);
    a.x.table(0, 4, 8, 4);
    a.x.table(1, 8, 16, 4);
    return a;
  }

  /** Refused so at the last slot that is there (then 0 and an end follow); 0: not refused. */
  private static void judged(String what, int by, Asm a) {
    int last = a.here() - 1;
    a.set(0, 0).end();
    due.is("judge() of " + what, a.x.judge(), by);
    due.is("place() of " + what, a.x.place(), by == 0 ? -1 : last);
  }

  /** Taken, and r is this before what follows. */
  private static void found(String what, Asm a, int r, int kind, long low, long high) {
    int at = a.here();
    a.set(0, 0).end();
    due.is("judge() of " + what, a.x.judge(), 0);
    due.is(what + ": kind", a.x.may(at, r, 0), kind);
    due.is(what + ": low", a.x.may(at, r, 1), low);
    due.is(what + ": high", a.x.may(at, r, 2), high);
  }

  private static void readsNone() {
    judged("+ of NONE", 2, asm().by(Asm.ADD, 3, 1));
    judged("+ with NONE", 2, asm().set(3, 1).with(Asm.ADD, 3, 4));
    judged("4 X of NONE", 2, asm().halfWith(Asm.MOV, 3, 4));
    judged("7 X of NONE", 2, asm().copy(3, 4));
    judged("X does not read DST", 0, asm().halfBy(Asm.MOV, 3, 4));
    judged("0 - NONE", 2, asm().by(Asm.NEG, 3, 0));
    judged("13 of NONE", 2, asm().feed(220, 3, 0, 0, 16));
    judged("13 with the bit 8 does not read 0", 0, asm().set(3, 1).feed(220, 3, 0, 0, 16));
    judged("a jump by NONE", 2, asm().jumpBy(Asm.EQ, 3, 0, 0));
    judged("a jump with NONE", 2, asm().set(3, 0).jumpWith(Asm.EQ, 3, 4, 0));
    judged("a load at NONE", 2, asm().load(8, 3, 4, 0));
    judged("a put at NONE", 2, asm().putNumber(8, 3, 0, 0));
    judged("a put of NONE", 2, asm().put(8, 10, -8, 3));
    judged("a change at NONE", 2, asm().set(4, 1).change(8, 0, 3, 0, 4));
    judged("a change by NONE", 2, asm().putNumber(8, 10, -8, 0).change(8, 0, 10, -8, 4));
    judged("241 with NONE in 0", 2, asm().set(4, 1).putNumber(8, 10, -8, 0).change(8, 241, 10, -8, 4));
    judged("225 does not read 0", 0, asm().set(4, 1).putNumber(8, 10, -8, 0).change(8, 225, 10, -8, 4));
    judged("call 1 with NONE in 2", 2, asm().table(1, 0).call(1));
    judged("call 2 with NONE in 4", 2, asm().copy(2, 1).copy(3, 1).table(1, 0).call(2));
    judged("call 3 does not read 3", 0, asm().copy(2, 1).table(1, 0).call(3));
    judged("call 6 with NONE in 1", 2, asm().call(5).call(6));
    judged("call 5 reads nothing", 0, asm().call(5).call(5));
  }

  private static void kinds() {
    found("a copy of CONTEXT", asm().by(Asm.ADD, 1, 5).copy(3, 1), 3, 2, 5, 5);
    found("a copy of STACK", asm().copy(3, 10), 3, 3, 0, 0);
    found("a copy of TABLE", asm().table(4, 1).copy(3, 4), 3, 4, 0, 0);
    judged("4 X of CONTEXT", 3, asm().halfWith(Asm.MOV, 3, 1));
    judged("7 X 32 of CONTEXT", 3, asm().feed(191, 3, 1, 32, 0));
    judged("4 + of CONTEXT", 3, asm().halfBy(Asm.ADD, 1, 1));
    for (int code : new int[] {Asm.MUL, Asm.DIV, Asm.OR, Asm.AND, Asm.LEFT, Asm.RIGHT, Asm.REST, Asm.XOR, Asm.SIGNED_RIGHT}) {
      judged(code + " of CONTEXT", 3, asm().by(code, 1, 1));
      judged(code + " with CONTEXT", 3, asm().set(3, 1).with(code, 3, 1));
    }
    judged("0 - CONTEXT", 3, asm().by(Asm.NEG, 1, 0));
    judged("13 of CONTEXT", 3, asm().feed(215, 1, 0, 0, 64));
    judged("TABLE + 0", 3, asm().table(3, 0).by(Asm.ADD, 3, 0));
    judged("CONTEXT + STACK", 3, asm().with(Asm.ADD, 1, 10));
    judged("CONTEXT - CONTEXT", 3, asm().with(Asm.SUB, 1, 1));
    judged("NUMBER - CONTEXT", 3, asm().set(3, 1).with(Asm.SUB, 3, 1));
    judged("a jump by CONTEXT", 3, asm().jumpBy(Asm.EQ, 1, 0, 0));
    judged("a jump with CONTEXT", 3, asm().set(3, 0).jumpWith(Asm.EQ, 3, 1, 0));
    judged("a load at a NUMBER", 3, asm().set(3, 0).load(1, 3, 3, 0));
    judged("a load at a TABLE", 3, asm().table(3, 0).load(1, 3, 3, 0));
    judged("a put at a NUMBER", 3, asm().set(3, 0).putNumber(1, 3, 0, 0));
    judged("a change at CONTEXT", 3, asm().set(3, 0).change(8, 0, 1, 0, 3));
    judged("a change by STACK", 3, asm().putNumber(8, 10, -8, 0).change(8, 0, 10, -8, 10));
    judged("241 with CONTEXT in 0", 3, asm().copy(0, 1).set(3, 0).putNumber(8, 10, -8, 0).change(8, 241, 10, -8, 3));
  }

  private static void places() {
    found("CONTEXT + imm", asm().by(Asm.ADD, 1, -65536), 1, 2, -65536, -65536);
    found("CONTEXT - imm", asm().by(Asm.SUB, 1, 65536), 1, 2, -65536, -65536);
    judged("CONTEXT + 65537", 3, asm().by(Asm.ADD, 1, 65537));
    judged("CONTEXT - -65537", 3, asm().by(Asm.SUB, 1, -65537));
    judged("CONTEXT + the least", 3, asm().by(Asm.ADD, 1, Integer.MIN_VALUE));
    found("CONTEXT + a range", asm().load(1, 3, 1, 0).with(Asm.ADD, 1, 3), 1, 2, 0, 255);
    found("a range + CONTEXT", asm().load(1, 3, 1, 0).by(Asm.ADD, 3, 2).by(Asm.ADD, 1, 1).with(Asm.ADD, 3, 1), 3, 2, 3, 258);
    found("CONTEXT + a range + 5", asm().load(1, 3, 1, 0).with(Asm.ADD, 1, 3).by(Asm.ADD, 1, 5), 1, 2, 5, 260);
    found("CONTEXT + a range - 5", asm().load(1, 3, 1, 0).with(Asm.ADD, 1, 3).by(Asm.SUB, 1, 5), 1, 2, -5, 250);
    found("CONTEXT - a range", asm().load(1, 3, 1, 0).by(Asm.ADD, 3, 2).with(Asm.SUB, 1, 3), 1, 2, -257, -2);
    found("CONTEXT + 0 .. 65535", asm().load(2, 3, 1, 0).with(Asm.ADD, 1, 3), 1, 2, 0, 65535);
    found("CONTEXT + 1 .. 65536", asm().load(2, 3, 1, 0).by(Asm.ADD, 3, 1).with(Asm.ADD, 1, 3), 1, 2, 1, 65536);
    judged("CONTEXT + 2 .. 65537", 3, asm().load(2, 3, 1, 0).by(Asm.ADD, 3, 2).with(Asm.ADD, 1, 3));
    judged("CONTEXT + a register of -1", 3, asm().set(3, -1).with(Asm.ADD, 1, 3));
    found("STACK + one number", asm().copy(3, 10).set(4, 16).with(Asm.SUB, 3, 4), 3, 3, -16, 0);
    found("one number + STACK", asm().set(4, 16).with(Asm.ADD, 4, 10), 4, 3, 16, 0);
    judged("STACK + a range", 3, asm().copy(3, 10).load(1, 4, 1, 0).with(Asm.ADD, 3, 4));
    Asm up = asm().copy(3, 10);
    Asm down = asm();
    for (int i = 0; i < 16; i++) { up.by(Asm.ADD, 3, 65536); down.by(Asm.ADD, 1, -65536); }
    found("STACK + 2^20", up, 3, 3, 1 << 20, 0);
    found("CONTEXT - 2^20", down, 1, 2, -(1 << 20), -(1 << 20));
    up = asm().copy(3, 10);
    down = asm();
    for (int i = 0; i < 16; i++) { up.by(Asm.ADD, 3, 65536); down.by(Asm.ADD, 1, -65536); }
    judged("STACK + 2^20 + 1", 3, up.by(Asm.ADD, 3, 1));
    judged("CONTEXT - 2^20 - 1", 3, down.by(Asm.ADD, 1, -1));
    down = asm().load(1, 3, 1, 0);
    for (int i = 0; i < 16; i++) { down.by(Asm.ADD, 1, -65536); }
    judged("CONTEXT - 2^20 - a range", 3, down.with(Asm.SUB, 1, 3));
    up = asm().load(1, 3, 1, 0);
    for (int i = 0; i < 16; i++) { up.by(Asm.ADD, 1, 65536); }
    judged("CONTEXT + 2^20 + a range", 3, up.with(Asm.ADD, 1, 3));
  }

  /** 3 is l .. h, 4 is m .. n: small ranges of one octet, moved on. */
  private static Asm ranges(int width, int l, int m) {
    return asm().load(width, 3, 1, 0).by(Asm.ADD, 3, l).load(1, 4, 1, 0).by(Asm.ADD, 4, m);
  }

  private static void made(String what, Asm a, long low, long high) { found(what, a, 3, 1, low, high); }

  private static void numbers() {
    made("+", ranges(1, 1, 2).with(Asm.ADD, 3, 4), 3, 256 + 257);
    made("+ over", asm().load(8, 3, 1, 0).by(Asm.ADD, 3, 1), 0, -1);
    made("+ -1", asm().load(1, 3, 1, 0).by(Asm.ADD, 3, -1), 0, -1);
    made("+ to the end", asm().load(1, 3, 1, 0).by(Asm.ADD, 3, -256), -256, -1);
    made("- ", ranges(1, 300, 0).with(Asm.SUB, 3, 4), 45, 555);
    made("- more", ranges(1, 300, 7).with(Asm.SUB, 3, 4), 38, 548);
    made("- just", ranges(1, 255, 0).with(Asm.SUB, 3, 4), 0, 510);
    made("- below", ranges(1, 254, 0).with(Asm.SUB, 3, 4), 0, -1);
    made("*", ranges(1, 2, 3).with(Asm.MUL, 3, 4), 6, 257 * 258);
    made("* 2^32 - 1", asm().load(4, 3, 1, 0).with(Asm.MUL, 3, 3), 0, HALF * HALF);
    made("* 2^32", asm().load(4, 3, 1, 0).by(Asm.ADD, 3, 1).by(Asm.MUL, 3, 1), 0, -1);
    made("* -1", asm().load(1, 3, 1, 0).by(Asm.MUL, 3, -1), 0, -1);
    made("/", ranges(1, 10, 0).by(Asm.DIV, 3, 10), 1, 26);
    made("/ by 0", ranges(1, 10, 0).by(Asm.DIV, 3, 0), 0, 265);
    made("/ by a range", ranges(1, 10, 5).with(Asm.DIV, 3, 4), 0, 265);
    made("/ of all", asm().load(8, 3, 1, 0).by(Asm.DIV, 3, 10), 0, 1844674407370955161L);
    made("/ of all by -1", asm().load(8, 3, 1, 0).by(Asm.DIV, 3, -1), 0, 1);
    made("/ signed", ranges(1, 10, 0).feed(55, 3, 0, 1, 10), 0, -1);
    made("rest", ranges(1, 10, 0).by(Asm.REST, 3, 10), 0, 9);
    made("rest by more", ranges(1, 10, 0).by(Asm.REST, 3, 266), 10, 265);
    made("rest by just h", ranges(1, 10, 0).by(Asm.REST, 3, 265), 0, 264);
    made("rest by 0", ranges(1, 10, 0).by(Asm.REST, 3, 0), 0, 265);
    made("rest by a range", ranges(1, 10, 5).with(Asm.REST, 3, 4), 0, 265);
    made("rest signed", ranges(1, 10, 0).feed(151, 3, 0, 1, 10), 0, -1);
    made("and", ranges(1, 10, 3).with(Asm.AND, 3, 4), 0, 258);
    made("and imm", asm().load(8, 3, 1, 0).by(Asm.AND, 3, 7), 0, 7);
    made("and -1", ranges(1, 10, 0).by(Asm.AND, 3, -1), 0, 265);
    made("or", ranges(1, 10, 3).with(Asm.OR, 3, 4), 10, 511);
    made("or imm", asm().load(1, 3, 1, 0).by(Asm.OR, 3, 255), 255, 255);
    made("or 256", asm().load(1, 3, 1, 0).by(Asm.OR, 3, 256), 256, 511);
    made("or -1", asm().load(1, 3, 1, 0).by(Asm.OR, 3, -1), -1, -1);
    made("xor", ranges(1, 10, 3).with(Asm.XOR, 3, 4), 0, 511);
    made("xor with itself", asm().load(1, 3, 1, 0).with(Asm.XOR, 3, 3), 0, 255);
    made("0 -", ranges(1, 10, 0).by(Asm.NEG, 3, 0), 0, -1);
    made("X", ranges(1, 10, 3).copy(3, 4), 3, 258);
    made("X 16", asm().load(2, 4, 1, 0).by(Asm.RIGHT, 4, 1).feed(191, 3, 4, 16, 0), 0, 32767);
    made("X 16 over", asm().load(2, 4, 1, 0).by(Asm.RIGHT, 4, 1).by(Asm.ADD, 4, 1).feed(191, 3, 4, 16, 0), 0, -1);
    made("X 8", asm().load(1, 4, 1, 0).feed(191, 3, 4, 8, 0), 0, -1);
    made("X 32", asm().load(1, 4, 1, 0).feed(191, 3, 4, 32, 0), 0, 255);
    made("13, 16", asm().load(1, 3, 1, 0).feed(215, 3, 0, 0, 16), 0, 65535);
    made("13, 32", asm().load(1, 3, 1, 0).feed(212, 3, 0, 0, 32), 0, HALF);
    made("13, 64 of 4", asm().load(1, 3, 1, 0).feed(212, 3, 0, 0, 64), 0, -1);
  }

  private static void halves() {
    made("4 + of all", asm().load(8, 3, 1, 0).halfBy(Asm.ADD, 3, 0), 0, HALF);
    made("4 + over", asm().load(4, 3, 1, 0).halfBy(Asm.ADD, 3, 1), 0, HALF);
    made("4 + -1", asm().load(1, 3, 1, 0).halfBy(Asm.ADD, 3, -1), 0, HALF);
    made("4 + to the end", asm().load(1, 3, 1, 0).halfBy(Asm.ADD, 3, -256), HALF - 255, HALF);
    made("4 -", ranges(1, 300, 0).halfWith(Asm.SUB, 3, 4), 45, 555);
    made("4 - below", ranges(1, 254, 0).halfWith(Asm.SUB, 3, 4), 0, HALF);
    made("4 *", asm().load(2, 3, 1, 0).halfBy(Asm.MUL, 3, 65537), 0, HALF);
    made("4 * just", asm().load(2, 3, 1, 0).by(Asm.ADD, 3, 1).halfBy(Asm.MUL, 3, 65535), 65535, 65536L * 65535);
    made("4 * over", asm().load(2, 3, 1, 0).by(Asm.ADD, 3, 2).halfBy(Asm.MUL, 3, 65537), 0, HALF);
    made("4 / by -1 of 2^32 ..", asm().load(8, 3, 1, 0).halfBy(Asm.DIV, 3, -1), 0, 1);
    made("4 and of all", asm().load(8, 3, 1, 0).halfBy(Asm.AND, 3, -1), 0, HALF);
    made("4 X of all", asm().load(8, 4, 1, 0).halfWith(Asm.MOV, 3, 4), 0, HALF);
    made("4 X of a range", asm().load(1, 4, 1, 0).halfWith(Asm.MOV, 3, 4), 0, 255);
    made("4 X 8 over", asm().load(1, 4, 1, 0).feed(188, 3, 4, 8, 0), 0, HALF);
    made("4 X 16", asm().load(1, 4, 1, 0).feed(188, 3, 4, 16, 0), 0, 255);
    made("4 0 -", asm().load(1, 3, 1, 0).halfBy(Asm.NEG, 3, 0), 0, HALF);
    made("4 / signed", asm().load(1, 3, 1, 0).feed(52, 3, 0, 1, 10), 0, HALF);
    // One number is cut to its lowest bits; a range above is all.
    made("4 + with one number above", asm().load(1, 3, 1, 0).wide(4, 0x500000001L).halfWith(Asm.ADD, 3, 4), 1, 256);
    made("4 one number above + a range", asm().wide(3, 0x500000001L).load(1, 4, 1, 0).halfWith(Asm.ADD, 3, 4), 1, 256);
    made("4 + of a range above", asm().load(1, 3, 1, 0).wide(4, 1L << 32).with(Asm.ADD, 3, 4).halfBy(Asm.ADD, 3, 0), 0, HALF);
    made("4 / by one number whose lower half is 0", asm().load(1, 3, 1, 0).wide(4, 1L << 32).halfWith(Asm.DIV, 3, 4), 0, 255);
  }

  private static void shifts() {
    made("left", ranges(1, 1, 0).by(Asm.LEFT, 3, 3), 8, 2048);
    made("left by 64 + 3", ranges(1, 1, 0).by(Asm.LEFT, 3, 67), 8, 2048);
    made("left to the end", asm().load(1, 3, 1, 0).by(Asm.LEFT, 3, 56), 0, 255L << 56);
    made("left over", asm().load(1, 3, 1, 0).by(Asm.LEFT, 3, 57), 0, -1);
    made("left by a range", ranges(1, 1, 0).with(Asm.LEFT, 3, 4), 0, -1);
    made("one number left by a range", asm().set(3, 1).load(1, 4, 1, 0).with(Asm.LEFT, 3, 4), 0, -1);
    made("4 left", asm().load(1, 3, 1, 0).halfBy(Asm.LEFT, 3, 24), 0, 255L << 24);
    made("4 left over", asm().load(1, 3, 1, 0).halfBy(Asm.LEFT, 3, 25), 0, HALF);
    made("4 left by 33", asm().load(1, 3, 1, 0).halfBy(Asm.LEFT, 3, 33), 0, 510);
    made("right", ranges(1, 9, 0).by(Asm.RIGHT, 3, 3), 1, 33);
    made("right of what is above 2^63", asm().load(1, 3, 1, 0).by(Asm.ADD, 3, -256).by(Asm.RIGHT, 3, 60), 15, 15);
    made("right by a range", ranges(1, 9, 0).with(Asm.RIGHT, 3, 4), 0, 264);
    made("right of all", asm().load(8, 3, 1, 0).by(Asm.RIGHT, 3, 1), 0, Long.MAX_VALUE);
    made("4 right by 35", ranges(1, 9, 0).halfBy(Asm.RIGHT, 3, 35), 1, 33);
    made("right with the sign", ranges(1, 9, 0).by(Asm.SIGNED_RIGHT, 3, 3), 1, 33);
    made("right with the sign by a range", ranges(1, 9, 0).with(Asm.SIGNED_RIGHT, 3, 4), 0, 264);
    made("right with the sign of all", asm().load(8, 3, 1, 0).by(Asm.SIGNED_RIGHT, 3, 8), 0, -1);
    made("right with the sign below 2^63", asm().load(8, 3, 1, 0).by(Asm.RIGHT, 3, 1).by(Asm.SIGNED_RIGHT, 3, 8), 0, Long.MAX_VALUE >> 8);
    made("4 right with the sign", asm().load(4, 3, 1, 0).halfBy(Asm.SIGNED_RIGHT, 3, 8), 0, HALF);
    made("4 right with the sign below 2^31", asm().load(4, 3, 1, 0).by(Asm.RIGHT, 3, 1).halfBy(Asm.SIGNED_RIGHT, 3, 8), 0, Integer.MAX_VALUE >> 8);
  }

  private static void oneNumbers() {
    made("one / 0", asm().set(3, 7).by(Asm.DIV, 3, 0), 0, 0);
    made("one / signed", asm().set(3, -7).feed(55, 3, 0, 1, 2), -3, -3);
    made("4 one - one", asm().set(3, 0).halfBy(Asm.SUB, 3, 1), HALF, HALF);
    made("one left by one", asm().set(3, 3).by(Asm.LEFT, 3, 63), Long.MIN_VALUE, Long.MIN_VALUE);
    made("X 8 of one", asm().set(4, 255).feed(191, 3, 4, 8, 0), -1, -1);
    made("4 X 8 of one", asm().set(4, 255).feed(188, 3, 4, 8, 0), HALF, HALF);
    made("0 - one", asm().set(3, 5).by(Asm.NEG, 3, 0), -5, -5);
    made("13 of one", asm().wide(3, 0x1122334455667788L).feed(220, 3, 0, 0, 64), 0x8877665544332211L, 0x8877665544332211L);
    made("24", asm().wide(3, Long.MIN_VALUE), Long.MIN_VALUE, Long.MIN_VALUE);
    made("a load is no one number", asm().putNumber(8, 10, -8, 5).load(8, 3, 10, -8), 0, -1);
  }

  private static void ends() {
    Asm a = asm().end();
    due.is("an end with NONE in 0", a.x.judge(), 5);
    a = asm().copy(0, 1).end();
    due.is("an end with CONTEXT in 0", a.x.judge(), 5);
    due.is("place()", a.x.place(), 1);
    a = asm().load(1, 0, 1, 0).end();
    due.is("an end with a range in 0", a.x.judge(), 0);
  }

  private static void ways() {
    Asm a = asm().set(0, 0);
    due.is("falls off", a.x.judge(), 6);
    due.is("place()", a.x.place(), 0);
    judged("a jump to itself", 6, asm().go(-1));
    judged("a jump back", 6, asm().set(3, 1).go(-2));
    judged("a jump before 0", 6, asm().go(-32768));
    judged("a far jump before 0", 6, asm().goFar(Integer.MIN_VALUE));
    judged("a far jump behind", 6, asm().goFar(Integer.MAX_VALUE));
    judged("a jump behind", 6, asm().go(2));
    judged("a jump to the end", 0, asm().set(0, 1).go(1));
    judged("a branch behind", 6, asm().load(1, 3, 1, 0).jumpBy(Asm.EQ, 3, 1, 2));
    judged("a branch back", 6, asm().load(1, 3, 1, 0).jumpBy(Asm.EQ, 3, 1, -1));
    judged("a branch back that is not gone", 0, asm().set(3, 0).jumpBy(Asm.EQ, 3, 1, -1));
    judged("a branch of sort 6 is gone", 6, asm().set(3, 0).jumpHalfBy(Asm.EQ, 3, 1, -1));
    a = asm().set(0, 0).jumpBy(Asm.EQ, 0, 0, 1).feed(255, 15, 15, 0, 0).end();
    due.is("a BAD slot that is not come to", a.x.judge(), 0);
    a = asm().set(0, 0).end().set(0, 0);
    due.is("a last slot that is not come to", a.x.judge(), 0);
    a = asm().load(1, 0, 1, 0).jumpBy(Asm.EQ, 0, 1, 0);
    due.is("a branch that goes on to nothing", a.x.judge(), 6);
  }

  private static void seconds() {
    Asm a = asm().go(1).wide(3, 5).set(0, 0).end();
    due.is("a jump to a second slot", a.x.judge(), 6);
    due.is("place()", a.x.place(), 0);
    a = asm().set(0, 0).feed(24, 3, 0, 0, 0);
    due.is("24 without its second", a.x.judge(), 6);
    due.is("place()", a.x.place(), 1);
    a = asm().set(0, 0).wide(3, 1);
    due.is("24 that falls off", a.x.judge(), 6);
    due.is("place()", a.x.place(), 1);
    a = asm().set(0, 0).feed(24, 3, 1, 0, 9);
    due.is("24 without its second nor TABLE", a.x.judge(), 4);
    a = asm().set(0, 0).feed(24, 3, 2, 0, 9);
    due.is("BAD 24 without its second", a.x.judge(), 1);
    // 24 as a second slot has no second one: slot 3 is a slot of its own.
    a = asm().go(2).feed(24, 3, 0, 0, 0).feed(24, 3, 0, 0, 0).set(0, 0).end();
    due.is("a second slot with OP 24", a.x.judge(), 0);
    a = asm().go(1).feed(24, 3, 0, 0, 0).feed(24, 3, 0, 0, 0).set(0, 0).end();
    due.is("a jump to it", a.x.judge(), 6);
  }

  /** 3 becomes one thing on one way, and another on the other; what it is where both meet. */
  private static void joined(String what, int[][] one, int[][] other, long... dues) {
    for (Asm a : new Asm[] {meet(what, one, other), meet(what, other, one)}) {
      for (int k = 0; k < dues.length; k++) { due.is(what + ", " + k, a.x.may(a.here() - 2, 3, k), dues[k]); }
    }
  }

  /** Two ways that meet at the last slot but one, judged; 6 is an octet, 4 is 1 before them. */
  private static Asm meet(String what, int[][] one, int[][] other) {
    Asm a = asm().load(1, 6, 1, 0).set(4, 1).jumpHalfBy(Asm.EQ, 6, 1, one.length + 1);
    append(a, one);
    a.go(other.length);
    append(a, other);
    a.set(0, 0).end();
    due.is("judge() of " + what, a.x.judge(), 0);
    return a;
  }

  private static void append(Asm a, int[][] slots) {
    for (int[] s : slots) { a.feed(s[0], s[1], s[2], s[3], s[4]); }
  }

  private static int[][] piece(int[]... slots) { return slots; }

  private static int[] set(int d, int imm) { return new int[] {183, d, 0, 0, imm}; }

  private static int[] copy(int d, int s) { return new int[] {191, d, s, 0, 0}; }

  private static int[] add(int d, int imm) { return new int[] {7, d, 0, 0, imm}; }

  private static int[] put(int offset, int s) { return new int[] {123, 10, s, offset, 0}; }

  private static int[] putNumber(int offset, int imm) { return new int[] {122, 10, 0, offset, imm}; }

  private static final int[] NOTHING = {0, 0, 0, 0, 0};

  private static void joins() {
    joined("two NUMBERS", piece(set(3, 5)), piece(set(3, 2)), 1, 2, 5, 0, 0);
    joined("-1 and 1, without sign", piece(set(3, -1)), piece(set(3, 1)), 1, 1, -1, 0, 0);
    joined("two CONTEXTS", piece(copy(3, 1), add(3, -4)), piece(copy(3, 1), add(3, 9)), 2, -4, 9, 0, 0);
    int[] more = {15, 3, 6, 0, 0};
    joined("two CONTEXTS with ranges", piece(copy(3, 1), more, add(3, 5)), piece(copy(3, 1), more, add(3, 9)), 2, 5, 264, 0, 0);
    joined("two STACKS alike", piece(copy(3, 10), add(3, -4)), piece(copy(3, 10), add(3, -4)), 3, -4, 0, 0, 0);
    joined("two STACKS", piece(copy(3, 10), add(3, -4)), piece(copy(3, 10), add(3, -8)), 0, 0, 0, 0, 0);
    joined("CONTEXT and NUMBER", piece(copy(3, 1)), piece(set(3, 0)), 0, 0, 0, 0, 0);
    joined("NONE and NUMBER", piece(), piece(set(3, 0)), 0, 0, 0, 0, 0);
    joined("two TABLES", piece(new int[] {24, 3, 1, 0, 0}, NOTHING), piece(new int[] {24, 3, 1, 0, 1}, NOTHING), 0, 0, 0, 0, 0);
    joined("one TABLE", piece(new int[] {24, 3, 1, 0, 1}, NOTHING), piece(new int[] {24, 3, 1, 0, 1}, NOTHING), 4, 0, 0, 1, 0);
    int[] table0 = {24, 1, 1, 0, 0};
    int[] table1 = {24, 1, 1, 0, 1};
    int[] call = {133, 0, 0, 0, 1};
    int[] skip = {85, 0, 0, 2, 0};
    int[] zero = {183, 0, 0, 0, 0};
    int[] end = {149, 0, 0, 0, 0};
    int[][] v0 = piece(copy(2, 1), table0, NOTHING, call, skip, zero, end, copy(3, 0));
    int[][] v0more = piece(copy(2, 1), table0, NOTHING, call, skip, zero, end, copy(3, 0), add(3, 7));
    int[][] v1 = piece(copy(2, 1), table1, NOTHING, call, skip, zero, end, copy(3, 0));
    joined("two VALUES of one TABLE", v0, v0more, 5, 0, 7, 0, 0);
    joined("VALUES of two TABLES", v0, v1, 0, 0, 0, 0, 0);
    int[][] six = piece(copy(2, 1), table1, NOTHING, call, copy(3, 0));
    joined("two of KIND 6 by two calls", six, six, 0, 0, 0, 0, 0);
  }

  private static void joinedCell(String what, int[][] one, int[][] other, int dueCell) {
    for (Asm a : new Asm[] {meet(what, one, other), meet(what, other, one)}) {
      int at = a.here() - 2;
      for (int o = -8; o < 0; o++) { due.is(what + ", " + o, a.x.cell(at, o), dueCell); }
      due.is(what + ", beside", a.x.cell(at, -9), 0);
    }
  }

  private static void joinedCells() {
    joinedCell("cells with NUMBERS", piece(put(-8, 4)), piece(put(-8, 6)), 2);
    joinedCell("cells with CONTEXTS", piece(put(-8, 1)), piece(put(-8, 1)), 3);
    joinedCell("cells with NUMBER and CONTEXT", piece(put(-8, 4)), piece(put(-8, 1)), 0);
    joinedCell("cells with CONTEXT and STACK", piece(put(-8, 1)), piece(put(-8, 10)), 0);
    joinedCell("a cell with NUMBER, and known octets", piece(put(-8, 4)), piece(putNumber(-8, 1)), 1);
    joinedCell("a cell with CONTEXT, and known octets", piece(put(-8, 1)), piece(putNumber(-8, 1)), 0);
    joinedCell("a cell with NUMBER, and NONE", piece(put(-8, 4)), piece(), 0);
    joinedCell("known octets on both ways", piece(putNumber(-8, 1)), piece(putNumber(-8, 1)), 1);
    joinedCell("known octets on one way", piece(putNumber(-8, 1)), piece(), 0);
    Asm lowest = asm().load(1, 6, 1, 0).putNumber(8, 10, -512, 0).putNumber(8, 10, -504, 0);
    lowest.jumpHalfBy(Asm.EQ, 6, 1, 1).put(8, 10, -512, 1);
    int there = lowest.here();
    lowest.set(0, 0).end();
    due.is("judge()", lowest.x.judge(), 0);
    due.is("the lowest octet", lowest.x.cell(there, -512), 0);
    due.is("the lowest but 8", lowest.x.cell(there, -504), 1);
    // What a joined cell holds is joined.
    Asm a = asm().load(1, 6, 1, 0).set(4, 1).set(5, 9).jumpHalfBy(Asm.EQ, 6, 1, 2).put(8, 10, -8, 4).go(1).put(8, 10, -8, 5).load(8, 3, 10, -8);
    found("a joined cell", a, 3, 1, 1, 9);
    a = asm().load(1, 6, 1, 0).set(4, 1).set(5, 9).jumpHalfBy(Asm.EQ, 6, 1, 2).put(8, 10, -512, 4).go(1).put(8, 10, -512, 5).load(8, 3, 10, -512);
    found("the lowest cell, joined", a, 3, 1, 1, 9);
  }

  /** Register 3 is 10 .. 265; what it is on the way that goes on, and on that of the jump (kind 0: not gone). */
  private static void narrowed(String what, Asm a, long... dues) {
    int at = a.here();
    a.set(0, 0).end().set(0, 1).end();
    due.is("judge() of " + what, a.x.judge(), 0);
    for (int k = 0; k < 3; k++) {
      due.is(what + ": on, " + k, a.x.may(at, 3, k), dues[k]);
      due.is(what + ": jump, " + k, a.x.may(at + 2, 3, k), dues[3 + k]);
    }
  }

  private static Asm tenOn() { return asm().load(1, 3, 1, 0).by(Asm.ADD, 3, 10); }

  private static void narrowing() {
    narrowed("=", tenOn().jumpBy(Asm.EQ, 3, 20, 2), 1, 10, 265, 1, 20, 20);
    narrowed("= low", tenOn().jumpBy(Asm.EQ, 3, 10, 2), 1, 11, 265, 1, 10, 10);
    narrowed("= high", tenOn().jumpBy(Asm.EQ, 3, 265, 2), 1, 10, 264, 1, 265, 265);
    narrowed("= outside", tenOn().jumpBy(Asm.EQ, 3, 9, 2), 1, 10, 265, 0, 0, 0);
    narrowed("not =", tenOn().jumpBy(Asm.NE, 3, 10, 2), 1, 10, 10, 1, 11, 265);
    narrowed("not = outside", tenOn().jumpBy(Asm.NE, 3, -1, 2), 0, 0, 0, 1, 10, 265);
    narrowed(">", tenOn().jumpBy(Asm.GT, 3, 20, 2), 1, 10, 20, 1, 21, 265);
    narrowed("> high", tenOn().jumpBy(Asm.GT, 3, 265, 2), 1, 10, 265, 0, 0, 0);
    narrowed("> below low", tenOn().jumpBy(Asm.GT, 3, 9, 2), 0, 0, 0, 1, 10, 265);
    narrowed("> -1", tenOn().jumpBy(Asm.GT, 3, -1, 2), 1, 10, 265, 0, 0, 0);
    narrowed(">=", tenOn().jumpBy(Asm.GE, 3, 20, 2), 1, 10, 19, 1, 20, 265);
    narrowed(">= low", tenOn().jumpBy(Asm.GE, 3, 10, 2), 0, 0, 0, 1, 10, 265);
    narrowed(">= above", tenOn().jumpBy(Asm.GE, 3, 266, 2), 1, 10, 265, 0, 0, 0);
    narrowed("<", tenOn().jumpBy(Asm.LT, 3, 20, 2), 1, 20, 265, 1, 10, 19);
    narrowed("< low", tenOn().jumpBy(Asm.LT, 3, 10, 2), 1, 10, 265, 0, 0, 0);
    narrowed("< 0", tenOn().jumpBy(Asm.LT, 3, 0, 2), 1, 10, 265, 0, 0, 0);
    narrowed("<=", tenOn().jumpBy(Asm.LE, 3, 20, 2), 1, 21, 265, 1, 10, 20);
    narrowed("<= high", tenOn().jumpBy(Asm.LE, 3, 265, 2), 0, 0, 0, 1, 10, 265);
    for (int code : new int[] {Asm.SGT, Asm.SGE, Asm.SLT, Asm.SLE, Asm.BITS}) {
      narrowed("unchanged by " + code, tenOn().jumpBy(code, 3, 20, 2), 1, 10, 265, 1, 10, 265);
    }
    narrowed("unchanged by sort 6", tenOn().jumpHalfBy(Asm.EQ, 3, 20, 2), 1, 10, 265, 1, 10, 265);
    narrowed("unchanged by a range", tenOn().load(1, 4, 1, 0).jumpWith(Asm.LT, 3, 4, 2), 1, 10, 265, 1, 10, 265);
    narrowed("by a register", tenOn().set(4, 20).jumpWith(Asm.GT, 3, 4, 2), 1, 10, 20, 1, 21, 265);
    narrowed("changed about, >", tenOn().set(4, 20).jumpWith(Asm.GT, 4, 3, 2), 1, 20, 265, 1, 10, 19);
    narrowed("changed about, >=", tenOn().set(4, 20).jumpWith(Asm.GE, 4, 3, 2), 1, 21, 265, 1, 10, 20);
    narrowed("changed about, <", tenOn().set(4, 20).jumpWith(Asm.LT, 4, 3, 2), 1, 10, 20, 1, 21, 265);
    narrowed("changed about, <=", tenOn().set(4, 20).jumpWith(Asm.LE, 4, 3, 2), 1, 10, 19, 1, 20, 265);
    narrowed("changed about, =", tenOn().set(4, 20).jumpWith(Asm.EQ, 4, 3, 2), 1, 10, 265, 1, 20, 20);
    narrowed("changed about, not =", tenOn().set(4, 265).jumpWith(Asm.NE, 4, 3, 2), 1, 265, 265, 1, 10, 264);
    narrowed("two numbers", asm().set(3, 5).set(4, 5).jumpWith(Asm.NE, 3, 4, 2), 1, 5, 5, 0, 0, 0);
    found("both to the next slot", tenOn().jumpBy(Asm.LT, 3, 20, 0), 3, 1, 10, 265);
    found("one to the next slot", tenOn().jumpBy(Asm.EQ, 3, 9, 0), 3, 1, 10, 265);
  }

  private static Asm called() {
    return asm().copy(2, 1).table(1, 1).call(1).copy(6, 0).put(8, 10, -8, 0).put(8, 10, -512, 0).copy(7, 6);
  }

  private static void settling() {
    for (int code : new int[] {Asm.EQ, Asm.NE}) {
      Asm a = called().jumpBy(code, 7, 0, 2);
      int at = a.here();
      a.set(0, 0).end().set(0, 0).end();
      due.is("judge()", a.x.judge(), 0);
      int zero = code == Asm.EQ ? at + 2 : at;
      int value = code == Asm.EQ ? at : at + 2;
      for (int r : new int[] {0, 6, 7}) {
        due.is("KIND 6 before", a.x.may(at - 1, r, 0), 6);
        due.is("its call", a.x.may(at - 1, r, 4), 3);
        due.is("its TABLE", a.x.may(at - 1, r, 3), 1);
        due.is("the NUMBER 0", a.x.may(zero, r, 0), 1);
        due.is("the NUMBER 0, high", a.x.may(zero, r, 2), 0);
        due.is("the VALUE", a.x.may(value, r, 0), 5);
        due.is("the VALUE's TABLE", a.x.may(value, r, 3), 1);
        due.is("no call more", a.x.may(value, r, 4), 0);
      }
      due.is("the lowest cell with 0", a.x.cell(zero, -512), 2);
      due.is("the lowest cell with the VALUE", a.x.cell(value, -505), 3);
      due.is("the cell before", a.x.cell(at - 1, -8), 3);
      due.is("the cell with 0", a.x.cell(zero, -8), 2);
      due.is("the cell with the VALUE", a.x.cell(value, -8), 3);
    }
    judged("6 by 1", 3, called().jumpBy(Asm.EQ, 0, 1, 0));
    judged("6 by a register of 0", 3, called().set(4, 0).jumpWith(Asm.EQ, 0, 4, 0));
    judged("6 by sort 6", 3, called().jumpHalfBy(Asm.EQ, 0, 0, 0));
    judged("6 by >", 3, called().jumpBy(Asm.GT, 0, 0, 0));
    judged("6 as X", 3, called().set(4, 0).jumpWith(Asm.EQ, 4, 0, 0));
    judged("6 + 1", 3, called().by(Asm.ADD, 0, 1));
    judged("a load at 6", 3, called().load(1, 3, 0, 0));
    found("a part of a cell that is settled as 0", called().jumpBy(Asm.NE, 0, 0, 1).load(4, 3, 10, -8), 10, 3, 0, 0);
    judged("a part of a cell that is settled as a VALUE", 4, called().jumpBy(Asm.EQ, 0, 0, 1).load(4, 3, 10, -8));
    Asm lowest = asm().copy(2, 1).table(1, 1).call(1).put(8, 10, -512, 0).jumpBy(Asm.NE, 0, 0, 1).load(4, 3, 10, -512);
    found("a part of the lowest cell that is settled as 0", lowest, 10, 3, 0, 0);
    Asm other = called().put(8, 10, -16, 10).jumpBy(Asm.EQ, 0, 0, 0).load(8, 3, 10, -16);
    found("a cell that holds another stays", other, 3, 3, 0, 0);
    // Another call's 6 is not settled with it.
    Asm a = called().copy(8, 6).set(3, 0).put(8, 10, -16, 3).copy(2, 10).by(Asm.ADD, 2, -16).table(1, 1).call(1).jumpBy(Asm.EQ, 8, 0, 0);
    int at = a.here();
    a.set(0, 0).end();
    due.is("judge()", a.x.judge(), 0);
    due.is("the other call's", a.x.may(at, 0, 0), 6);
    due.is("both joined", a.x.may(at, 8, 0), 0);
  }

  private static void contextAccess() {
    judged("the last octets", 0, asm().load(8, 3, 1, 8));
    judged("one too far", 4, asm().load(8, 3, 1, 9));
    judged("before", 4, asm().load(1, 3, 1, -1));
    judged("written", 4, asm().putNumber(1, 1, 0, 0));
    judged("written by a register", 4, asm().set(3, 0).put(1, 1, 0, 3));
    judged("a pointer written", 3, asm().put(8, 1, 0, 1));
    Asm a = asm().load(1, 3, 1, 0).by(Asm.AND, 3, 7).with(Asm.ADD, 1, 3);
    found("a load in a range", a.load(1, 4, 1, 8), 4, 1, 0, 255);
    judged("a range too far", 4, asm().load(1, 3, 1, 0).by(Asm.AND, 3, 7).with(Asm.ADD, 1, 3).load(2, 4, 1, 8));
    judged("a range too low", 4, asm().load(1, 3, 1, 0).by(Asm.AND, 3, 7).with(Asm.SUB, 1, 3).load(1, 4, 1, 6));
    found("4 octets", asm().load(4, 3, 1, 0), 3, 1, 0, HALF);
    found("8 octets", asm().load(8, 3, 1, 0), 3, 1, 0, -1);
    found("2 octets", asm().load(2, 3, 1, 0), 3, 1, 0, 65535);
    found("1 octet with sign", asm().loadSigned(1, 3, 1, 0), 3, 1, 0, -1);
    a = new Asm().load(1, 3, 1, 0).set(0, 0).end();
    due.is("no CONTEXT", a.x.judge(), 4);
  }

  /** 0 is a VALUE of TABLE 0 (8 octets). */
  private static Asm value() {
    Asm a = asm().copy(2, 1).table(1, 0).call(1).jumpBy(Asm.NE, 0, 0, 2).set(0, 0).end();
    return a;
  }

  private static void valueAccess() {
    judged("a VALUE", 0, value().load(8, 3, 0, 0));
    judged("a VALUE's end", 0, value().load(1, 3, 0, 7));
    judged("behind a VALUE", 4, value().load(1, 3, 0, 8));
    judged("before a VALUE", 4, value().load(1, 3, 0, -1));
    judged("put", 0, value().putNumber(8, 0, 0, 1));
    judged("put too far", 4, value().putNumber(8, 0, 1, 1));
    judged("put of a pointer", 3, value().put(8, 0, 0, 10));
    found("put does not hold", value().set(3, 5).put(8, 0, 0, 3).load(8, 3, 0, 0), 3, 1, 0, -1);
    judged("a change", 0, value().set(3, 5).change(4, 1, 0, 4, 3));
    judged("a change too far", 4, value().set(3, 5).change(4, 1, 0, 5, 3));
    found("a VALUE + a range", value().load(1, 3, 0, 0).by(Asm.AND, 3, 3).with(Asm.ADD, 0, 3).load(4, 4, 0, 1), 0, 5, 0, 3);
    judged("a VALUE + a range too far", 4, value().load(1, 3, 0, 0).by(Asm.AND, 3, 3).with(Asm.ADD, 0, 3).load(4, 4, 0, 2));
  }

  private static void stackAccess() {
    judged("NONE in the STACK", 4, asm().load(1, 3, 10, -1));
    judged("too low", 4, asm().putNumber(1, 10, -513, 0));
    judged("too high", 4, asm().putNumber(1, 10, 0, 0));
    judged("over the end", 4, asm().putNumber(4, 10, -3, 0));
    judged("the lowest", 0, asm().putNumber(8, 10, -512, 0).load(8, 3, 10, -512));
    judged("all known", 0, asm().putNumber(2, 10, -8, 0).putNumber(2, 10, -6, 0).load(4, 3, 10, -8));
    judged("one NONE", 4, asm().putNumber(2, 10, -8, 0).putNumber(1, 10, -6, 0).load(4, 3, 10, -8));
    found("what was put by imm", asm().putNumber(8, 10, -8, 5).load(8, 3, 10, -8), 3, 1, 0, -1);
    found("what is held", asm().set(3, 5).put(8, 10, -8, 3).load(8, 4, 10, -8), 4, 1, 5, 5);
    found("a part of what is held", asm().set(3, 5).put(8, 10, -8, 3).load(4, 4, 10, -8), 4, 1, 0, HALF);
    found("a part with sign", asm().set(3, 5).put(8, 10, -8, 3).loadSigned(4, 4, 10, -8), 4, 1, 0, -1);
    found("over two cells", asm().set(3, 5).put(8, 10, -8, 3).put(8, 10, -16, 3).load(8, 4, 10, -12), 4, 1, 0, -1);
    found("a pointer that is held", asm().by(Asm.ADD, 1, 3).put(8, 10, -8, 1).load(8, 4, 10, -8), 4, 2, 3, 3);
    judged("a part of a pointer", 4, asm().put(8, 10, -8, 1).load(4, 4, 10, -8));
    judged("over two cells, one a pointer", 4, asm().set(3, 5).put(8, 10, -8, 3).put(8, 10, -16, 1).load(8, 4, 10, -12));
    found("through a copy of 10", asm().set(3, 5).copy(7, 10).by(Asm.ADD, 7, -12).put(8, 7, 4, 3).load(8, 4, 10, -8), 4, 1, 5, 5);
  }

  private static void puts() {
    judged("a pointer of 4 octets", 3, asm().put(4, 10, -8, 1));
    judged("a pointer that 8 does not divide", 3, asm().put(8, 10, -12, 1));
    judged("a pointer too low", 4, asm().put(8, 10, -520, 1));
    judged("a pointer too high", 4, asm().put(8, 10, 0, 1));
    found("a NUMBER that 8 does not divide", asm().set(3, 5).put(8, 10, -12, 3).load(8, 4, 10, -12), 4, 1, 0, -1);
    found("a pointer at a sum that 8 divides", asm().copy(7, 10).by(Asm.ADD, 7, -10).put(8, 7, 2, 1).load(8, 4, 10, -8), 4, 2, 0, 0);
    judged("a pointer at a sum that 8 does not divide", 3, asm().copy(7, 10).by(Asm.ADD, 7, -10).put(8, 7, -2, 1));
    found("a NUMBER of 4 octets", asm().set(3, 5).put(4, 10, -8, 3).load(4, 4, 10, -8), 4, 1, 0, HALF);
    found("put over", asm().set(3, 5).put(8, 10, -8, 3).putNumber(1, 10, -1, 0).load(8, 4, 10, -8), 4, 1, 0, -1);
    judged("put over a pointer", 4, asm().put(8, 10, -8, 1).putNumber(1, 10, -1, 0).load(8, 4, 10, -8));
    found("put again", asm().put(8, 10, -8, 1).set(3, 7).put(8, 10, -8, 3).load(8, 4, 10, -8), 4, 1, 7, 7);
    judged("put all over a pointer", 0, asm().put(8, 10, -8, 1).putNumber(8, 10, -8, 0).load(8, 4, 10, -8));
    Asm a = asm().set(3, 5).put(8, 10, -8, 3).put(8, 10, -16, 1).put(8, 10, -12, 3);
    int at = a.here();
    a.set(0, 0).end();
    due.is("judge()", a.x.judge(), 0);
    for (int o = -16; o < 0; o++) { due.is("put over two cells, " + o, a.x.cell(at, o), o < -12 ? 0 : 1); }
  }

  private static void changes() {
    judged("NONE there", 4, asm().set(3, 1).change(8, 0, 10, -8, 3));
    judged("half of it NONE", 4, asm().set(3, 1).putNumber(4, 10, -8, 0).change(8, 0, 10, -8, 3));
    judged("a pointer there", 4, asm().set(3, 1).put(8, 10, -8, 1).change(8, 0, 10, -8, 3));
    judged("too low", 4, asm().set(3, 1).change(8, 0, 10, -516, 3));
    found("without 1, SRC stays", asm().set(3, 1).put(8, 10, -8, 3).change(8, 0, 10, -8, 3), 3, 1, 1, 1);
    found("it holds nothing more", asm().set(3, 1).put(8, 10, -8, 3).change(8, 0, 10, -8, 3).load(8, 3, 10, -8), 3, 1, 0, -1);
    found("with 1", asm().set(3, 1).put(8, 10, -8, 3).change(8, 1, 10, -8, 3), 3, 1, 0, -1);
    found("with 1, 4 octets", asm().set(3, 1).put(8, 10, -8, 3).change(4, 65, 10, -8, 3), 3, 1, 0, HALF);
    found("225", asm().set(3, 1).put(8, 10, -8, 3).change(4, 225, 10, -8, 3), 3, 1, 0, HALF);
    found("241", asm().set(0, 1).set(3, 1).put(8, 10, -8, 3).change(4, 241, 10, -8, 3), 0, 1, 0, HALF);
    found("241, SRC", asm().set(0, 1).set(3, 1).put(8, 10, -8, 3).change(8, 241, 10, -8, 3), 3, 1, 1, 1);
    found("225, 0 stays", asm().set(0, 7).set(3, 1).put(8, 10, -8, 3).change(8, 225, 10, -8, 3), 0, 1, 7, 7);
    Asm a = asm().set(3, 1).put(8, 10, -8, 3).change(4, 0, 10, -8, 3);
    int at = a.here();
    a.set(0, 0).end();
    due.is("judge()", a.x.judge(), 0);
    for (int o = -8; o < 0; o++) { due.is("a cell that was changed", a.x.cell(at, o), 1); }
  }

  private static Asm keyed(int t, int key) { return asm().copy(2, 10).by(Asm.ADD, 2, -key).table(1, t); }

  private static void calls() {
    judged("1 with CONTEXT", 3, asm().copy(2, 1).call(1));
    judged("1 with a NUMBER", 3, asm().copy(2, 1).wide(1, 1L << 34).call(1));
    judged("1 with a key at a NUMBER", 3, asm().set(2, 1).table(1, 0).call(1));
    judged("1 with a key at a TABLE", 3, asm().table(1, 0).table(2, 0).call(1));
    judged("1 with a key of NONE", 4, keyed(0, 4).call(1));
    judged("1 with a key of a ROW", 0, keyed(0, 4).putNumber(4, 10, -4, 1).call(1));
    judged("1 with a key that is too short", 4, keyed(1, 8).putNumber(4, 10, -8, 1).call(1));
    judged("1 with a key that is too high", 4, keyed(1, 4).putNumber(8, 10, -8, 1).call(1));
    judged("1 with a part of a pointer as key", 4, keyed(0, 8).put(8, 10, -8, 10).call(1));
    judged("1 with a key in the CONTEXT", 0, asm().copy(2, 1).by(Asm.ADD, 2, 8).table(1, 1).call(1));
    judged("1 with a key behind the CONTEXT", 4, asm().copy(2, 1).by(Asm.ADD, 2, 9).table(1, 1).call(1));
    judged("2", 0, asm().copy(2, 1).copy(3, 1).set(4, 9).table(1, 1).call(2));
    judged("2 with CONTEXT in 4", 3, asm().copy(2, 1).copy(3, 1).copy(4, 1).table(1, 1).call(2));
    judged("2 with a VALUE at a NUMBER", 3, asm().copy(2, 1).set(3, 0).set(4, 1).table(1, 1).call(2));
    judged("2 with a VALUE too far", 4, asm().copy(2, 1).copy(3, 1).by(Asm.ADD, 3, 1).set(4, 1).table(1, 1).call(2));
    judged("6 with CONTEXT", 3, asm().call(6));
    judged("6", 0, asm().load(1, 1, 1, 0).call(6));
    for (int helper : new int[] {2, 3, 5, 6}) {
      Asm a = asm().set(6, 6).copy(2, 1).copy(3, 1).set(4, 0).set(5, 0);
      if (helper == 6) { a.set(1, 1); } else { a.table(1, 1); }
      a.call(helper);
      int at = a.here();
      found("0 behind " + helper, a, 0, 1, 0, -1);
      for (int r = 1; r <= 5; r++) { due.is("register " + r + " behind", a.x.may(at, r, 0), 0); }
      due.is("register 6 behind", a.x.may(at, 6, 1), 6);
    }
    judged("a register that is forgotten", 2, asm().set(5, 1).call(5).copy(3, 5));
  }

  /** Of several refusals the first. */
  private static void order() {
    judged("1 before 2", 1, asm().feed(15, 3, 4, 1, 0));
    judged("2 before 3", 2, asm().with(Asm.MUL, 1, 4));
    judged("2 before 3 in a put", 2, asm().table(3, 0).put(8, 3, 0, 4));
    judged("2 before 3 in a call", 2, asm().set(1, 1).call(1));
    judged("3 before 4 in a put", 3, asm().put(4, 10, 8, 1));
    judged("3 before 4 in a change", 3, asm().change(8, 0, 10, 8, 1));
    judged("3 before 4 in a call", 3, asm().copy(2, 10).copy(3, 1).copy(4, 1).table(1, 1).call(2));
    judged("3 before 4 in a call, VALUE", 3, asm().copy(2, 10).set(3, 1).set(4, 1).table(1, 1).call(2));
    Asm a = asm().load(1, 3, 1, 99);
    due.is("4 before 6", a.x.judge(), 4);
    a = asm().by(Asm.ADD, 3, 1);
    due.is("2 before 6", a.x.judge(), 2);
    a = asm().load(1, 3, 1, 0).jumpBy(Asm.EQ, 3, 1, 1).copy(4, 5).end();
    due.is("the first slot", a.x.judge(), 2);
    due.is("place()", a.x.place(), 2);
  }
}
