/** JudgedCode and the plain model side by side: each call goes to both, and both must answer alike. */
final class Pair {
  final JudgedCode code = new JudgedCode();
  final PlainModel model = new PlainModel();
  private final StringBuilder log = new StringBuilder();
  private final Due due;

  Pair(Due due) { this.due = due; }

  private long same(String call, long got, long want) {
    log.append(call).append(" = ").append(want).append('\n');
    if (got != want) { due.wrong(log + "but answered " + got); }
    return got;
  }

  private void alike(String call, long got, long want) {
    if (got != want) { due.wrong(log + call + " is due to be " + want + ", but answered " + got); }
  }

  private static String told(String name, long... args) {
    StringBuilder b = new StringBuilder(name).append('(');
    for (int i = 0; i < args.length; i++) { b.append(i == 0 ? "" : ", ").append(args[i]); }
    return b.append(')').toString();
  }

  int feed(int op, int regs, int offset, int imm) {
    return (int) same(told("feed", op, regs, offset, imm), code.feed(op, regs, offset, imm), model.feed(op, regs, offset, imm));
  }

  int alter(int i, int op, int regs, int offset, int imm) {
    return (int) same(told("alter", i, op, regs, offset, imm),
        code.alter(i, op, regs, offset, imm), model.alter(i, op, regs, offset, imm));
  }

  int cut(int n) { return (int) same(told("cut", n), code.cut(n), model.cut(n)); }

  int table(int kind, int key, int value, int n) {
    return (int) same(told("table", kind, key, value, n), code.table(kind, key, value, n), model.table(kind, key, value, n));
  }

  int context(int n) { return (int) same(told("context", n), code.context(n), model.context(n)); }

  int poke(int i, int v) { return (int) same(told("poke", i, v), code.poke(i, v), model.poke(i, v)); }

  long tick(long n) { return same(told("tick", n), code.tick(n), model.tick(n)); }

  int judge() {
    int j = (int) same("judge()", code.judge(), model.judge());
    alike("place()", code.place(), model.place());
    return j;
  }

  int start() { return (int) same("start()", code.start(), model.start()); }

  int step() { return (int) same("step()", code.step(), model.step()); }

  int run(int fuel) { return (int) same(told("run", fuel), code.run(fuel), model.run(fuel)); }

  /** All that the judge found. */
  void compareFindings() {
    alike("place()", code.place(), model.place());
    for (int i = -1; i <= code.told(3); i++) {
      for (int r = -1; r <= 11; r++) {
        for (int what = -1; what <= 5; what++) {
          alike(told("may", i, r, what), code.may(i, r, what), model.may(i, r, what));
        }
      }
      for (int a = -514; a <= 1; a += a < -490 || a > -90 ? 1 : 8) {
        alike(told("cell", i, a), code.cell(i, a), model.cell(i, a));
      }
    }
  }

  void compareMachine() {
    for (int what = -1; what <= 6; what++) { alike(told("told", what), code.told(what), model.told(what)); }
    for (int r = -1; r <= 11; r++) { alike(told("register", r), code.register(r), model.register(r)); }
  }

  void compareMemory() {
    for (int i = -1; i <= 33; i++) { alike(told("putAt", i), code.putAt(i), model.putAt(i)); }
    for (int t = -1; t <= 4; t++) { alike(told("keys", t), code.keys(t), model.keys(t)); }
    for (long i = -2; i <= 257; i++) { compareOctet((1L << 32) + i); }
    for (long i = -514; i <= 1; i++) { compareOctet((1L << 33) + i); }
    for (int t = -1; t <= 4; t++) {
      compareOctet((1L << 34) + t);
      for (int e = -1; e <= 32; e++) {
        for (int i = -1; i <= 32; i++) { compareOctet(PlainModel.valueAt(t, e) + i); }
      }
    }
    for (long a : new long[] {0, 1, -1, Long.MIN_VALUE, Long.MAX_VALUE}) { compareOctet(a); }
  }

  private void compareOctet(long address) {
    alike(told("octet", address), code.octet(address), model.octet(address));
  }
}
