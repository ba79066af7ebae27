/** A JudgedCode with its slots written by name; each method feeds one slot (wide and table: two). */
final class Asm {
  static final int ADD = 0, SUB = 1, MUL = 2, DIV = 3, OR = 4, AND = 5, LEFT = 6, RIGHT = 7, NEG = 8, REST = 9, XOR = 10,
      MOV = 11, SIGNED_RIGHT = 12, TURN = 13;
  static final int EQ = 1, GT = 2, GE = 3, BITS = 4, NE = 5, SGT = 6, SGE = 7, LT = 10, LE = 11, SLT = 12, SLE = 13;

  final JudgedCode x = new JudgedCode();

  Asm feed(int op, int dst, int src, int offset, int imm) {
    int i = x.feed(op, dst + 16 * src, offset, imm);
    if (i < 0) { throw new IllegalStateException("feed answered " + i); }
    return this;
  }

  Asm clear() { x.cut(0); return this; }

  Asm set(int d, int imm) { return feed(7 + 16 * MOV, d, 0, 0, imm); }

  Asm copy(int d, int s) { return feed(15 + 16 * MOV, d, s, 0, 0); }

  Asm wide(int d, long number) {
    feed(24, d, 0, 0, (int) number);
    return feed(0, 0, 0, 0, (int) (number >> 32));
  }

  Asm table(int d, int t) {
    feed(24, d, 1, 0, t);
    return feed(0, 0, 0, 0, 0);
  }

  /** Sort 7 by a number. */
  Asm by(int code, int d, int imm) { return feed(7 + 16 * code, d, 0, 0, imm); }

  /** Sort 7 by a register. */
  Asm with(int code, int d, int s) { return feed(15 + 16 * code, d, s, 0, 0); }

  Asm halfBy(int code, int d, int imm) { return feed(4 + 16 * code, d, 0, 0, imm); }

  Asm halfWith(int code, int d, int s) { return feed(12 + 16 * code, d, s, 0, 0); }

  private static int bits(int octets) { return octets == 4 ? 0 : octets == 2 ? 8 : octets == 1 ? 16 : 24; }

  Asm load(int octets, int d, int s, int offset) { return feed(97 + bits(octets), d, s, offset, 0); }

  Asm loadSigned(int octets, int d, int s, int offset) { return feed(129 + bits(octets), d, s, offset, 0); }

  Asm putNumber(int octets, int d, int offset, int imm) { return feed(98 + bits(octets), d, 0, offset, imm); }

  Asm put(int octets, int d, int offset, int s) { return feed(99 + bits(octets), d, s, offset, 0); }

  Asm change(int octets, int how, int d, int offset, int s) { return feed(195 + bits(octets), d, s, offset, how); }

  Asm jumpBy(int code, int d, int imm, int offset) { return feed(5 + 16 * code, d, 0, offset, imm); }

  Asm jumpWith(int code, int d, int s, int offset) { return feed(13 + 16 * code, d, s, offset, 0); }

  Asm jumpHalfBy(int code, int d, int imm, int offset) { return feed(6 + 16 * code, d, 0, offset, imm); }

  Asm jumpHalfWith(int code, int d, int s, int offset) { return feed(14 + 16 * code, d, s, offset, 0); }

  Asm go(int offset) { return feed(5, 0, 0, offset, 0); }

  Asm goFar(int imm) { return feed(6, 0, 0, 0, imm); }

  Asm call(int helper) { return feed(133, 0, 0, 0, helper); }

  Asm end() { return feed(149, 0, 0, 0, 0); }

  /** How many slots there are. */
  int here() { return x.told(3); }

  /** Starts and runs to its end: the status. */
  int go() {
    x.start();
    return x.run(10000);
  }
}
