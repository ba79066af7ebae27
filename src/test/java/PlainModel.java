import java.math.BigInteger;
import java.util.ArrayList;
import java.util.Arrays;
import java.util.HashMap;
import java.util.List;
import java.util.Map;
import java.util.Objects;
import java.util.Set;

/**
 * The document once more, word by word and without a thought for speed: big numbers, a map of
 * octets, one object for what a register may be. The tests hold JudgedCode against it.
 */
final class PlainModel {
  static final BigInteger ZERO = BigInteger.ZERO;
  static final BigInteger ONE = BigInteger.ONE;
  static final BigInteger TWO64 = ONE.shiftLeft(64);
  static final BigInteger TWO32 = ONE.shiftLeft(32);

  record Slot(int op, int dst, int src, int offset, int imm) {
    int sort() { return op % 8; }
    int code() { return op / 16; }
    boolean bit8() { return (op & 8) != 0; }
    int width() { return new int[] {4, 2, 1, 8}[op / 8 % 4]; }
  }

  record Table(int kind, int key, int value, int n, Map<Integer, List<Integer>> keys) { }

  /** What a register may be. */
  record Maybe(int kind, BigInteger low, BigInteger high, int t, int c) {
    boolean one() { return low.equals(high); }
    boolean number() { return kind == 1; }
    boolean reachable() { return kind == 2 || kind == 3 || kind == 5; }
  }

  static final Maybe NONE = new Maybe(0, ZERO, ZERO, 0, 0);
  static final Maybe ALL = number(ZERO, TWO64.subtract(ONE));

  static Maybe number(BigInteger low, BigInteger high) { return new Maybe(1, low, high, 0, 0); }
  static Maybe number(BigInteger one) { return number(one, one); }

  static final class Before {
    final Maybe[] r = new Maybe[11];
    final boolean[] known = new boolean[512];
    final Maybe[] held = new Maybe[64];

    Before copy() {
      Before b = new Before();
      System.arraycopy(r, 0, b.r, 0, 11);
      System.arraycopy(known, 0, b.known, 0, 512);
      System.arraycopy(held, 0, b.held, 0, 64);
      return b;
    }
  }

  private final List<Slot> slots = new ArrayList<>();
  private final List<Table> tables = new ArrayList<>();
  private final Map<Long, Integer> octets = new HashMap<>();
  private int contextLength = 0;
  private long clock = 0;
  private int status = 0;
  private int at = 0;
  private int steps = 0;
  private long[] reg = new long[11];
  private final List<Long> puts = new ArrayList<>();
  private Map<Integer, Before> found = new HashMap<>();
  private int refusedAt = -1;
  private final List<Way> ways = new ArrayList<>();

  PlainModel() {
    for (int i = 0; i < 512; i++) { octets.put((1L << 33) - 512 + i, 0); }
  }

  int feed(int op, int regs, int offset, int imm) {
    if (op < 0 || op > 255 || regs < 0 || regs > 255 || offset != (short) offset) { return -2; }
    if (slots.size() == 200) { return -4; }
    slots.add(new Slot(op, regs % 16, regs / 16, offset, imm));
    status = 0;
    return slots.size() - 1;
  }

  int alter(int i, int op, int regs, int offset, int imm) {
    if (i < 0 || i >= slots.size()) { return -1; }
    if (op < 0 || op > 255 || regs < 0 || regs > 255 || offset != (short) offset) { return -2; }
    slots.set(i, new Slot(op, regs % 16, regs / 16, offset, imm));
    status = 0;
    return 1;
  }

  int cut(int n) {
    int before = slots.size();
    if (n < 0 || n > before) { return -2; }
    slots.subList(n, before).clear();
    status = 0;
    return before;
  }

  int table(int kind, int key, int value, int n) {
    if (kind < 0 || kind > 1 || value < 1 || value > 32 || n < 1 || n > 32) { return -2; }
    if (kind == 0 ? key != 4 : key < 1 || key > 8) { return -2; }
    if (tables.size() == 4) { return -4; }
    int t = tables.size();
    tables.add(new Table(kind, key, value, n, new HashMap<>()));
    for (int e = 0; e < n; e++) {
      for (int i = 0; i < value; i++) { octets.put(valueAt(t, e) + i, 0); }
    }
    return t;
  }

  static long valueAt(int t, int e) { return (1L << 35) + (1L << 24) * t + (1L << 12) * e; }

  int context(int n) {
    if (n < 0 || n > 256) { return -2; }
    if (status == 1) { return -3; }
    int before = contextLength;
    for (int i = 0; i < 256; i++) {
      if (i < n) { octets.putIfAbsent((1L << 32) + i, 0); } else { octets.remove((1L << 32) + i); }
    }
    contextLength = n;
    return before;
  }

  int poke(int i, int v) {
    if (i < 0 || i >= contextLength) { return -1; }
    if (v < 0 || v > 255) { return -2; }
    if (status == 1) { return -3; }
    return octets.put((1L << 32) + i, v);
  }

  long tick(long n) {
    if (n < 0) { return -2; }
    BigInteger later = BigInteger.valueOf(clock).add(BigInteger.valueOf(n));
    if (later.compareTo(ONE.shiftLeft(62)) > 0) { return -2; }
    clock = later.longValueExact();
    return clock;
  }

  int place() { return refusedAt; }

  long may(int i, int r, int what) {
    if (i < 0 || i >= slots.size() || r < 0 || r > 10) { return -1; }
    if (what < 0 || what > 4) { return -2; }
    Before b = found.get(i);
    if (b == null) { return 0; }
    Maybe m = b.r[r];
    switch (what) {
      case 0: return m.kind;
      case 1: return Set.of(1, 2, 3, 5).contains(m.kind) ? m.low.longValue() : 0;
      case 2: return Set.of(1, 2, 5).contains(m.kind) ? m.high.longValue() : 0;
      case 3: return m.kind >= 4 ? m.t : 0;
      default: return m.kind == 6 ? m.c : 0;
    }
  }

  int cell(int i, int a) {
    if (i < 0 || i >= slots.size() || a < -512 || a > -1) { return -1; }
    Before b = found.get(i);
    if (b == null) { return 0; }
    Maybe h = b.held[(a + 512) / 8];
    if (h != null) { return h.number() ? 2 : 3; }
    return b.known[a + 512] ? 1 : 0;
  }

  int start() {
    if (slots.isEmpty()) { return -3; }
    reg = new long[11];
    reg[1] = 1L << 32;
    reg[10] = 1L << 33;
    for (int i = 0; i < 512; i++) { octets.put((1L << 33) - 512 + i, 0); }
    at = 0;
    steps = 0;
    puts.clear();
    status = 1;
    return 1;
  }

  int step() {
    if (status != 1) { return -3; }
    status = doOne();
    if (status <= 2) { steps++; }
    return status;
  }

  int run(int fuel) {
    if (fuel < 0 || fuel > 10000) { return -2; }
    if (status != 1) { return -3; }
    for (int i = 0; i < fuel && status == 1; i++) { step(); }
    return status;
  }

  int told(int what) {
    switch (what) {
      case 0: return status;
      case 1: return at;
      case 2: return steps;
      case 3: return slots.size();
      case 4: return tables.size();
      case 5: return puts.size();
      default: return -2;
    }
  }

  long register(int i) { return i >= 0 && i <= 10 ? reg[i] : 0; }

  int octet(long address) { return octets.getOrDefault(address, -1); }

  long putAt(int i) {
    List<Long> kept = puts.subList(Math.max(0, puts.size() - 32), puts.size());
    return i >= 0 && i < kept.size() ? kept.get(i) : 0;
  }

  int keys(int t) {
    if (t < 0 || t >= tables.size()) { return -1; }
    return tables.get(t).kind == 0 ? tables.get(t).n : tables.get(t).keys.size();
  }

  // ---- BAD ----

  private static final Set<Integer> CHANGES = Set.of(0, 1, 64, 65, 80, 81, 160, 161, 225, 241);
  private static final Set<Integer> HELPERS = Set.of(1, 2, 3, 5, 6);

  private boolean bad(int i) {
    Slot s = slots.get(i);
    if (s.dst > 10 || s.src > 10) { return true; }
    boolean writes = Set.of(0, 1, 4, 7).contains(s.sort());
    if (writes && s.dst > 9) { return true; }
    switch (s.sort()) {
      case 0: {
        if (s.op != 24 || s.src > 1 || s.offset != 0) { return true; }
        if (i + 1 == slots.size()) { return false; }
        Slot u = slots.get(i + 1);
        if (u.op != 0 || u.dst != 0 || u.src != 0 || u.offset != 0) { return true; }
        return s.src == 1 && u.imm != 0;
      }
      case 1: return !Set.of(97, 105, 113, 121, 129, 137, 145).contains(s.op) || s.imm != 0;
      case 2: return !Set.of(98, 106, 114, 122).contains(s.op) || s.src != 0;
      case 3:
        if (s.op == 195 || s.op == 219) { return !CHANGES.contains(s.imm); }
        return !Set.of(99, 107, 115, 123).contains(s.op) || s.imm != 0;
      case 4: case 7: return badNumbers(s);
      default: return badJump(s);
    }
  }

  private static boolean badNumbers(Slot s) {
    if (s.code() == 13) {
      return s.src != 0 || s.offset != 0 || !Set.of(16, 32, 64).contains(s.imm)
          || s.sort() == 7 && s.bit8();
    }
    if (s.code() > 13) { return true; }
    if (s.bit8() ? s.imm != 0 : s.src != 0) { return true; }
    switch (s.code()) {
      case 3: case 9: return s.offset != 0 && s.offset != 1;
      case 8: return s.bit8() || s.imm != 0 || s.offset != 0;
      case 11: {
        Set<Integer> allowed = !s.bit8() ? Set.of(0) : s.sort() == 7 ? Set.of(0, 8, 16, 32) : Set.of(0, 8, 16);
        return !allowed.contains(s.offset);
      }
      default: return s.offset != 0;
    }
  }

  private static boolean badJump(Slot s) {
    boolean five = s.sort() == 5;
    switch (s.code()) {
      case 0: return s.dst != 0 || s.src != 0 || s.bit8() || (five ? s.imm != 0 : s.offset != 0);
      case 8: return !five || s.dst != 0 || s.src != 0 || s.offset != 0 || s.bit8() || !HELPERS.contains(s.imm);
      case 9: return !five || s.dst != 0 || s.src != 0 || s.offset != 0 || s.bit8() || s.imm != 0;
      case 14: case 15: return true;
      default: return s.bit8() ? s.imm != 0 : s.src != 0;
    }
  }

  // ---- numbers ----

  static BigInteger unsigned(long x) { return BigInteger.valueOf(x).mod(TWO64); }

  static BigInteger signed(BigInteger x, int bits) {
    BigInteger low = x.mod(ONE.shiftLeft(bits));
    return low.testBit(bits - 1) ? low.subtract(ONE.shiftLeft(bits)) : low;
  }

  /** DST and X without sign; what comes, without sign. */
  static BigInteger machine(Slot s, BigInteger dst, BigInteger x) {
    int bits = s.sort() == 7 ? 64 : 32;
    BigInteger whole = ONE.shiftLeft(bits);
    if (s.code() == 13) {
      BigInteger low = dst.mod(ONE.shiftLeft(s.imm));
      if (s.sort() == 4 && !s.bit8()) { return low; }
      BigInteger turned = ZERO;
      for (int i = 0; i < s.imm; i += 8) {
        turned = turned.shiftLeft(8).or(low.shiftRight(i).and(BigInteger.valueOf(255)));
      }
      return turned;
    }
    BigInteger a = dst.mod(whole);
    BigInteger b = x.mod(whole);
    int by = b.intValue() & (bits - 1);
    BigInteger sa = s.offset == 1 ? signed(a, bits) : a;
    BigInteger sb = s.offset == 1 ? signed(b, bits) : b;
    switch (s.code()) {
      case 0: return a.add(b).mod(whole);
      case 1: return a.subtract(b).mod(whole);
      case 2: return a.multiply(b).mod(whole);
      case 3: return b.signum() == 0 ? ZERO : sa.divide(sb).mod(whole);
      case 9: return b.signum() == 0 ? a : sa.remainder(sb).mod(whole);
      case 4: return a.or(b);
      case 5: return a.and(b);
      case 10: return a.xor(b);
      case 6: return a.shiftLeft(by).mod(whole);
      case 7: return a.shiftRight(by);
      case 12: return signed(a, bits).shiftRight(by).mod(whole);
      case 8: return a.negate().mod(whole);
      default: return s.offset == 0 ? b : signed(b, s.offset).mod(whole);
    }
  }

  static boolean compares(Slot s, BigInteger dst, BigInteger x) {
    int bits = s.sort() == 5 ? 64 : 32;
    BigInteger a = dst.mod(ONE.shiftLeft(bits));
    BigInteger b = x.mod(ONE.shiftLeft(bits));
    int u = a.compareTo(b);
    int g = signed(a, bits).compareTo(signed(b, bits));
    switch (s.code()) {
      case 1: return u == 0;
      case 5: return u != 0;
      case 2: return u > 0;
      case 3: return u >= 0;
      case 10: return u < 0;
      case 11: return u <= 0;
      case 6: return g > 0;
      case 7: return g >= 0;
      case 12: return g < 0;
      case 13: return g <= 0;
      default: return a.and(b).signum() != 0;
    }
  }

  // ---- the machine ----

  private boolean there(long address, int n, boolean written) {
    for (int i = 0; i < n; i++) {
      if (!octets.containsKey(address + i) || !piece(address + i).equals(piece(address))) { return false; }
    }
    return !written || !piece(address).equals("context");
  }

  private static String piece(long address) {
    if (address < 1L << 33 && address >= (1L << 33) - 512) { return "stack"; }
    return address < 1L << 33 ? "context" : "value " + (address >> 12);
  }

  private long read(long address, int n) {
    BigInteger x = ZERO;
    for (int i = 0; i < n; i++) { x = x.or(BigInteger.valueOf(octets.get(address + i)).shiftLeft(8 * i)); }
    return x.longValue();
  }

  private void write(long address, int n, long x) {
    for (int i = 0; i < n; i++) { octets.put(address + i, unsigned(x).shiftRight(8 * i).intValue() & 255); }
  }

  private int doOne() {
    if (at < 0 || at >= slots.size()) { return 5; }
    if (bad(at)) { return 3; }
    Slot s = slots.get(at);
    long x = s.bit8() ? reg[s.src] : s.imm;
    int n = s.width();
    switch (s.sort()) {
      case 0:
        if (at + 1 >= slots.size()) { return 5; }
        if (s.src == 1 && (s.imm < 0 || s.imm >= tables.size())) { return 4; }
        BigInteger both = unsigned(slots.get(at + 1).imm).shiftLeft(32).add(unsigned(s.imm).mod(TWO32));
        reg[s.dst] = s.src == 1 ? (1L << 34) + s.imm : both.longValue();
        at += 2;
        return 1;
      case 1: {
        long a = reg[s.src] + s.offset;
        if (!there(a, n, false)) { return 4; }
        reg[s.dst] = s.op >= 129 ? signed(unsigned(read(a, n)), 8 * n).longValue() : read(a, n);
        break;
      }
      case 2: case 3: {
        long a = reg[s.dst] + s.offset;
        if (!there(a, n, true)) { return 4; }
        if (s.op == 195 || s.op == 219) { change(s, a, n); } else { write(a, n, s.sort() == 2 ? s.imm : reg[s.src]); }
        break;
      }
      case 4: case 7:
        reg[s.dst] = machine(s, unsigned(reg[s.dst]), unsigned(x)).longValue();
        break;
      default:
        if (s.code() == 9) { return 2; }
        if (s.code() == 8) { return call(s.imm); }
        if (s.code() == 0) { at += s.sort() == 5 ? s.offset : s.imm; }
        else if (compares(s, unsigned(reg[s.dst]), unsigned(x))) { at += s.offset; }
    }
    at++;
    return 1;
  }

  private void change(Slot s, long a, int n) {
    long stood = read(a, n);
    long given = reg[s.src];
    switch (s.imm & ~1) {
      case 0: write(a, n, stood + given); break;
      case 64: write(a, n, stood | given); break;
      case 80: write(a, n, stood & given); break;
      case 160: write(a, n, stood ^ given); break;
      case 224: write(a, n, given); break;
      default:
        if (unsigned(stood).equals(unsigned(reg[0]).mod(ONE.shiftLeft(8 * n)))) { write(a, n, given); }
        reg[0] = stood;
        return;
    }
    if (s.imm % 2 == 1) { reg[s.src] = stood; }
  }

  private int call(int which) {
    long answer;
    if (which == 5) {
      answer = clock;
    } else if (which == 6) {
      puts.add(reg[1]);
      answer = 0;
    } else {
      long t = reg[1] - (1L << 34);
      if (t < 0 || t >= tables.size()) { return 4; }
      Table table = tables.get((int) t);
      if (!there(reg[2], table.key, false)) { return 4; }
      if (which == 2 && !there(reg[3], table.value, false)) { return 4; }
      answer = tableCall(which, (int) t, table);
    }
    reg[0] = answer;
    Arrays.fill(reg, 1, 6, 0);
    at++;
    return 1;
  }

  private List<Integer> list(long address, int n) {
    List<Integer> l = new ArrayList<>();
    for (int i = 0; i < n; i++) { l.add(octets.get(address + i)); }
    return l;
  }

  private long tableCall(int which, int t, Table table) {
    List<Integer> key = list(reg[2], table.key);
    Integer e = null;
    if (table.kind == 0) {
      long i = read(reg[2], 4);
      e = i < table.n ? (int) i : null;
    } else {
      for (Map.Entry<Integer, List<Integer>> x : table.keys.entrySet()) {
        if (x.getValue().equals(key)) { e = x.getKey(); }
      }
    }
    if (which == 1) { return e == null ? 0 : valueAt(t, e); }
    if (which == 3) {
      if (table.kind == 0 || e == null) { return -1; }
      table.keys.remove(e);
      return 0;
    }
    long mode = reg[4];
    if (mode != 0 && mode != 1 && mode != 2) { return -1; }
    if (mode == 1 && (e != null || table.kind == 0) || mode == 2 && e == null) { return -1; }
    if (e == null) {
      if (table.kind == 0 || table.keys.size() == table.n) { return -1; }
      e = 0;
      while (table.keys.containsKey(e)) { e++; }
      table.keys.put(e, key);
    }
    List<Integer> value = list(reg[3], table.value);
    for (int i = 0; i < table.value; i++) { octets.put(valueAt(t, e) + i, value.get(i)); }
    return 0;
  }

  // ---- the judge ----

  private static final class Refusal extends RuntimeException {
    private static final long serialVersionUID = 1L;
    final int by;
    Refusal(int by) { super(null, null, false, false); this.by = by; }
  }

  private static void need(boolean good, int by) {
    if (!good) { throw new Refusal(by); }
  }

  int judge() {
    found = new HashMap<>();
    refusedAt = -1;
    if (slots.isEmpty()) { refusedAt = 0; return 6; }
    Before first = new Before();
    Arrays.fill(first.r, NONE);
    first.r[1] = new Maybe(2, ZERO, ZERO, 0, 0);
    first.r[10] = new Maybe(3, ZERO, ZERO, 0, 0);
    found.put(0, first);
    for (int i = 0; i < slots.size(); i++) {
      if (!found.containsKey(i)) { continue; }
      try {
        ways.clear();
        judgeSlot(i, found.get(i).copy());
        for (Way w : ways) { need(w.to > i && w.to < slots.size() && !isSecond((int) w.to), 6); }
        for (Way w : ways) { found.merge((int) w.to, w.with, PlainModel::joined); }
      } catch (Refusal r) {
        refusedAt = i;
        return r.by;
      }
    }
    return 0;
  }

  private boolean isSecond(int i) {
    int j = 0;
    while (j < i) { j += slots.get(j).op == 24 ? 2 : 1; }
    return j > i;
  }

  private record Way(long to, Before with) {}

  private void go(long to, Before with) { ways.add(new Way(to, with.copy())); }

  static Maybe joined(Maybe a, Maybe b) {
    boolean ranges = a.kind == b.kind && (a.kind == 1 || a.kind == 2 || a.kind == 5 && a.t == b.t);
    if (ranges) { return new Maybe(a.kind, a.low.min(b.low), a.high.max(b.high), a.t, 0); }
    return a.equals(b) ? a : NONE;
  }

  private static Before joined(Before a, Before b) {
    Before j = new Before();
    for (int r = 0; r < 11; r++) { j.r[r] = joined(a.r[r], b.r[r]); }
    Before x = a.copy();
    Before y = b.copy();
    for (int c = 0; c < 64; c++) {
      Maybe both = a.held[c] != null && b.held[c] != null ? joined(a.held[c], b.held[c]) : NONE;
      if (both.kind != 0) { j.held[c] = both; } else { letGo(x, c); letGo(y, c); }
    }
    for (int o = 0; o < 512; o++) { j.known[o] = j.held[o / 8] == null && x.known[o] && y.known[o]; }
    return j;
  }

  /** The cell holds nothing more. */
  private static void letGo(Before b, int c) {
    if (b.held[c] == null) { return; }
    for (int o = 8 * c; o < 8 * c + 8; o++) { b.known[o] = b.held[c].number(); }
    b.held[c] = null;
  }

  private void judgeSlot(int i, Before b) {
    need(!bad(i), 1);
    Slot s = slots.get(i);
    int n = s.width();
    switch (s.sort()) {
      case 0:
        need(s.src == 0 || s.imm >= 0 && s.imm < tables.size(), 4);
        need(i + 1 < slots.size(), 6);
        BigInteger both = unsigned((long) slots.get(i + 1).imm << 32 | s.imm & 0xFFFFFFFFL);
        b.r[s.dst] = s.src == 1 ? new Maybe(4, ZERO, ZERO, s.imm, 0) : number(both);
        go(i + 2, b);
        return;
      case 1:
        need(b.r[s.src].kind != 0, 2);
        need(b.r[s.src].reachable(), 3);
        Maybe read = readAt(b, b.r[s.src], s.offset, n);
        b.r[s.dst] = s.op >= 129 ? ALL : read;
        break;
      case 2: case 3:
        if (s.op == 195 || s.op == 219) { judgeChange(s, b, n); } else { judgePut(s, b, n); }
        break;
      case 4: case 7: judgeNumbers(s, b); break;
      default:
        judgeJump(i, s, b);
        return;
    }
    go(i + 1, b);
  }

  private boolean inside(Maybe m, int offset, int n, boolean written) {
    long low = m.low.longValueExact() + offset;
    long high = m.high.longValueExact() + offset;
    switch (m.kind) {
      case 2: return !written && low >= 0 && high + n <= contextLength;
      case 5: return low >= 0 && high + n <= tables.get(m.t).value;
      default: return low >= -512 && low + n <= 0;
    }
  }

  private static int stackAt(Maybe m, int offset) { return m.low.intValueExact() + offset + 512; }

  private static boolean known(Before b, int at, int n) {
    for (int o = at; o < at + n; o++) {
      Maybe h = b.held[o / 8];
      if (h != null ? !h.number() : !b.known[o]) { return false; }
    }
    return true;
  }

  private Maybe readAt(Before b, Maybe m, int offset, int n) {
    need(inside(m, offset, n, false), 4);
    if (m.kind == 3) {
      int at = stackAt(m, offset);
      if (n == 8 && at % 8 == 0 && b.held[at / 8] != null) { return b.held[at / 8]; }
      need(known(b, at, n), 4);
    }
    return number(ZERO, ONE.shiftLeft(8 * n).subtract(ONE));
  }

  private static void putAtStack(Before b, int at, int n) {
    for (int o = at; o < at + n; o++) {
      letGo(b, o / 8);
      b.known[o] = true;
    }
  }

  private void judgePut(Slot s, Before b, int n) {
    Maybe to = b.r[s.dst];
    need(to.kind != 0, 2);
    if (s.sort() == 3) { need(b.r[s.src].kind != 0, 2); }
    need(to.reachable(), 3);
    boolean whole = s.op == 123 && to.kind == 3 && Math.floorMod(to.low.intValueExact() + s.offset, 8) == 0;
    if (s.sort() == 3 && !whole) { need(b.r[s.src].number(), 3); }
    need(inside(to, s.offset, n, true), 4);
    if (to.kind != 3) { return; }
    int at = stackAt(to, s.offset);
    if (whole) { b.held[at / 8] = b.r[s.src]; } else { putAtStack(b, at, n); }
  }

  private void judgeChange(Slot s, Before b, int n) {
    Maybe to = b.r[s.dst];
    need(to.kind != 0 && b.r[s.src].kind != 0, 2);
    if (s.imm == 241) { need(b.r[0].kind != 0, 2); }
    need(to.kind == 3 || to.kind == 5, 3);
    need(b.r[s.src].number(), 3);
    if (s.imm == 241) { need(b.r[0].number(), 3); }
    need(inside(to, s.offset, n, true), 4);
    if (to.kind == 3) {
      need(known(b, stackAt(to, s.offset), n), 4);
      putAtStack(b, stackAt(to, s.offset), n);
    }
    Maybe any = number(ZERO, ONE.shiftLeft(8 * n).subtract(ONE));
    if (s.imm == 241) { b.r[0] = any; } else if (s.imm % 2 == 1) { b.r[s.src] = any; }
  }

  private void judgeNumbers(Slot s, Before b) {
    boolean readsDst = s.code() != 11;
    boolean readsSrc = s.bit8() && s.code() != 13;
    if (readsDst) { need(b.r[s.dst].kind != 0, 2); }
    if (readsSrc) { need(b.r[s.src].kind != 0, 2); }
    Maybe d = readsDst ? b.r[s.dst] : number(ZERO);
    Maybe x = readsSrc ? b.r[s.src] : number(unsigned(s.imm));
    if (s.sort() == 7 && s.code() == 11 && s.bit8() && s.offset == 0) { b.r[s.dst] = x; return; }
    if (d.number() && x.number()) { b.r[s.dst] = made(s, d, x); return; }
    need(s.sort() == 7 && (s.code() == 0 || s.code() == 1), 3);
    if (d.number()) {
      need(s.code() == 0, 3);
      Maybe swap = d;
      d = x;
      x = swap;
    }
    need(d.reachable() && x.number(), 3);
    BigInteger most = BigInteger.valueOf(65536);
    if (readsSrc) {
      need(x.high.compareTo(most) <= 0, 3);
    } else {
      need(Math.abs((long) s.imm) <= 65536, 3);
      x = number(BigInteger.valueOf(s.imm));
    }
    if (d.kind == 3) { need(x.one(), 3); }
    BigInteger low = s.code() == 0 ? d.low.add(x.low) : d.low.subtract(x.high);
    BigInteger high = s.code() == 0 ? d.high.add(x.high) : d.high.subtract(x.low);
    BigInteger far = ONE.shiftLeft(20);
    need(low.compareTo(far.negate()) >= 0 && high.compareTo(far) <= 0, 3);
    b.r[s.dst] = new Maybe(d.kind, low, high, d.t, 0);
  }

  static Maybe cutHalf(Maybe m) {
    if (m.one()) { return number(m.low.mod(TWO32)); }
    return m.high.compareTo(TWO32) >= 0 ? number(ZERO, TWO32.subtract(ONE)) : m;
  }

  static Maybe made(Slot s, Maybe d, Maybe x) {
    if (s.code() == 13) {
      if (d.one()) { return number(machine(s, d.low, ZERO)); }
      return number(ZERO, ONE.shiftLeft(s.imm).subtract(ONE));
    }
    boolean four = s.sort() == 4;
    if (four) { d = cutHalf(d); x = cutHalf(x); }
    if (d.one() && x.one()) { return number(machine(s, d.low, x.low)); }
    BigInteger w = (four ? TWO32 : TWO64).subtract(ONE);
    Maybe all = number(ZERO, w);
    Maybe got = range(s, d.low, d.high, x.low, x.high, w);
    return got == null ? all : got;
  }

  /** null: not as told. */
  private static Maybe range(Slot s, BigInteger l, BigInteger h, BigInteger m, BigInteger n, BigInteger w) {
    boolean one = m.equals(n);
    boolean k = one && m.signum() != 0;
    int by = m.intValue() & (s.sort() == 4 ? 31 : 63);
    switch (s.code()) {
      case 0: return h.add(n).compareTo(w) <= 0 ? number(l.add(m), h.add(n)) : null;
      case 1: return l.compareTo(n) >= 0 ? number(l.subtract(n), h.subtract(m)) : null;
      case 2:
        if (h.compareTo(TWO32) >= 0 || n.compareTo(TWO32) >= 0 || h.multiply(n).compareTo(w) > 0) { return null; }
        return number(l.multiply(m), h.multiply(n));
      case 3:
        if (s.offset == 1) { return null; }
        return k ? number(l.divide(m), h.divide(m)) : number(ZERO, h);
      case 9:
        if (s.offset == 1) { return null; }
        if (!k) { return number(ZERO, h); }
        return h.compareTo(m) < 0 ? number(l, h) : number(ZERO, m.subtract(ONE));
      case 5: return number(ZERO, h.min(n));
      case 4: return number(l.max(m), ONE.shiftLeft(h.max(n).bitLength()).subtract(ONE));
      case 10: return number(ZERO, ONE.shiftLeft(h.max(n).bitLength()).subtract(ONE));
      case 6: return one && h.shiftLeft(by).compareTo(w) <= 0 ? number(l.shiftLeft(by), h.shiftLeft(by)) : null;
      case 12:
        if (h.compareTo(w.shiftRight(1)) > 0) { return null; }
        return one ? number(l.shiftRight(by), h.shiftRight(by)) : number(ZERO, h);
      case 7: return one ? number(l.shiftRight(by), h.shiftRight(by)) : number(ZERO, h);
      case 11: return s.offset == 0 || n.compareTo(ONE.shiftLeft(s.offset - 1)) < 0 ? number(m, n) : null;
      default: return null;
    }
  }

  private void judgeJump(int i, Slot s, Before b) {
    switch (s.code()) {
      case 9:
        need(b.r[0].number(), 5);
        return;
      case 8:
        judgeCall(i, s.imm, b);
        go(i + 1, b);
        return;
      case 0:
        go((long) i + 1 + (s.sort() == 5 ? s.offset : s.imm), b);
        return;
      default:
    }
    Maybe d = b.r[s.dst];
    need(d.kind != 0, 2);
    if (s.bit8()) { need(b.r[s.src].kind != 0, 2); }
    Maybe x = s.bit8() ? b.r[s.src] : number(unsigned(s.imm));
    Before on = b.copy();
    Before jump = b.copy();
    boolean equal = s.code() == 1 || s.code() == 5;
    if (d.kind == 6 && !s.bit8() && s.imm == 0 && s.sort() == 5 && equal) {
      settle(on, d, s.code() == 5);
      settle(jump, d, s.code() == 1);
      go(i + 1, on);
      go(i + 1 + s.offset, jump);
      return;
    }
    need(d.number() && x.number(), 3);
    boolean narrows = s.sort() == 5 && (x.one() || d.one()) && (equal || Set.of(2, 3, 10, 11).contains(s.code()));
    boolean goesOn = true;
    boolean jumps = true;
    if (narrows) {
      int r = x.one() ? s.dst : s.src;
      Maybe before = x.one() ? d : x;
      BigInteger k = x.one() ? x.low : d.low;
      Maybe yes = narrowed(s.code(), before, k, x.one(), true);
      Maybe no = narrowed(s.code(), before, k, x.one(), false);
      jumps = yes != null;
      goesOn = no != null;
      jump.r[r] = yes;
      on.r[r] = no;
    }
    if (goesOn) { go(i + 1, on); }
    if (jumps) { go(i + 1 + s.offset, jump); }
  }

  /** What the range can be where the comparison with k comes out so; null: nothing. */
  private static Maybe narrowed(int code, Maybe m, BigInteger k, boolean kIsX, boolean wanted) {
    BigInteger low = null;
    BigInteger high = null;
    // A comparison without sign changes only at k: so its two ends and those around k say all.
    for (BigInteger v : List.of(m.low, m.high, k.subtract(ONE), k, k.add(ONE))) {
      if (v.compareTo(m.low) < 0 || v.compareTo(m.high) > 0) { continue; }
      int c = kIsX ? v.compareTo(k) : k.compareTo(v);
      boolean is = code == 1 ? c == 0 : code == 5 ? c != 0 : code == 2 ? c > 0 : code == 3 ? c >= 0 : code == 10 ? c < 0 : c <= 0;
      if (is == wanted) {
        low = low == null ? v : low.min(v);
        high = high == null ? v : high.max(v);
      }
    }
    return low == null ? null : number(low, high);
  }

  private static void settle(Before b, Maybe six, boolean zero) {
    Maybe becomes = zero ? number(ZERO) : new Maybe(5, ZERO, ZERO, six.t, 0);
    for (int r = 0; r < 11; r++) { if (b.r[r].kind == 6 && b.r[r].c == six.c) { b.r[r] = becomes; } }
    for (int c = 0; c < 64; c++) {
      if (b.held[c] != null && b.held[c].kind == 6 && b.held[c].c == six.c) { b.held[c] = becomes; }
    }
  }

  private void judgeCall(int i, int which, Before b) {
    int given = Map.of(1, 2, 2, 4, 3, 2, 5, 0, 6, 1).get(which);
    for (int r = 1; r <= given; r++) { need(b.r[r].kind != 0, 2); }
    if (which == 6) { need(b.r[1].number(), 3); }
    Maybe answer = ALL;
    if (which <= 3) {
      need(b.r[1].kind == 4 && b.r[2].reachable(), 3);
      if (which == 2) { need(b.r[3].reachable() && b.r[4].number(), 3); }
      Table table = tables.get(b.r[1].t);
      Objects.requireNonNull(readAt(b, b.r[2], 0, table.key));
      if (which == 2) { Objects.requireNonNull(readAt(b, b.r[3], 0, table.value)); }
      if (which == 1) { answer = new Maybe(6, ZERO, ZERO, b.r[1].t, i); }
    }
    b.r[0] = answer;
    for (int r = 1; r <= 5; r++) { b.r[r] = NONE; }
  }
}
