/** Section 2 of the document, MEMORY: a test for each sentence with an edge. The sentence stands above its test. */
public final class MemoryEdgesTest {
  private static final Due due = new Due();
  private static final int[] WIDTHS = {1, 2, 4, 8};
  private static final long CONTEXT = 1L << 32;
  private static final long STACK = 1L << 33;

  public static void main(String[] args) {
    contextOctets();
    stackOctets();
    tablesHaveNoOctet();
    valueOctets();
    accessInContext();
    accessInStack();
    accessInValue();
    accessFarAway();
    onlyRead();
    rowKeys();
    hashKeysOfKOctets();
    hashFull();
    whereAValueIs();
    leastFreeNumber();
    valuesOfAnySize();
    modes();
    keyGoes();
    noTableNoKeyNoValue();
    forgotten();
    clockAndPut();
    startSetsAll();
    statusOfASlotThatThereIsNot();
    faultsDoNothing();
    faultsEnd();
    idle();
    due.end();
  }

  // ---- addresses ----

  /** "the CONTEXT's octet i (0 .. its length - 1 ..) is 2^32 + i" */
  private static void contextOctets() {
    for (int n : new int[] {0, 1, 2, 255, 256}) {
      JudgedCode x = new JudgedCode();
      x.context(n);
      for (int i = 0; i < n; i++) { x.poke(i, 255 - i); }
      due.is("before the CONTEXT of " + n, x.octet(CONTEXT - 1), -1);
      due.is("the first octet of " + n, x.octet(CONTEXT), n == 0 ? -1 : 255);
      due.is("the last octet of " + n, x.octet(CONTEXT + n - 1), n == 0 ? -1 : 256 - n);
      due.is("behind the CONTEXT of " + n, x.octet(CONTEXT + n), -1);
      due.is("far behind the CONTEXT of " + n, x.octet(CONTEXT + 256), -1);
    }
  }

  /** "the STACK's octets are 2^33 - 512 .. 2^33 - 1" */
  private static void stackOctets() {
    Asm a = new Asm().putNumber(1, 10, -512, 7).putNumber(1, 10, -1, 9).end();
    due.is("status", a.go(), 2);
    due.is("before the STACK", a.x.octet(STACK - 513), -1);
    due.is("its first octet", a.x.octet(STACK - 512), 7);
    due.is("its second", a.x.octet(STACK - 511), 0);
    due.is("its last octet", a.x.octet(STACK - 1), 9);
    due.is("behind the STACK", a.x.octet(STACK), -1);
  }

  /** "TABLE t is 2^34 + t (no octet)" */
  private static void tablesHaveNoOctet() {
    for (int t = 0; t <= 4; t++) {
      Asm a = new Asm().wide(4, (1L << 34) + t).load(1, 3, 4, 0).end();
      for (int k = 0; k < 4; k++) { a.x.table(0, 4, 32, 32); }
      due.is("the octet of TABLE " + t, a.x.octet((1L << 34) + t), -1);
      due.is("an ACCESS of TABLE " + t, a.go(), 4);
    }
  }

  /** "octet i of VALUE e of TABLE t is 2^35 + 2^24 t + 2^12 e + i"; "VALUES have 1 to 32 octets, n is 1 .. 32" */
  private static void valueOctets() {
    int[][] sizes = {{1, 1}, {32, 32}, {1, 32}, {32, 1}};
    JudgedCode x = new JudgedCode();
    for (int t = 0; t < 4; t++) { x.table(t % 2, 4, sizes[t][0], sizes[t][1]); }
    for (int t = 0; t < 4; t++) {
      int v = sizes[t][0];
      int n = sizes[t][1];
      String of = " of TABLE " + t;
      due.is("before the first VALUE" + of, x.octet(PlainModel.valueAt(t, 0) - 1), -1);
      due.is("the first octet" + of, x.octet(PlainModel.valueAt(t, 0)), 0);
      due.is("the last octet" + of, x.octet(PlainModel.valueAt(t, n - 1) + v - 1), 0);
      due.is("behind the last octet" + of, x.octet(PlainModel.valueAt(t, n - 1) + v), -1);
      due.is("behind the last VALUE" + of, x.octet(PlainModel.valueAt(t, n)), -1);
      due.is("VALUE 4095" + of, x.octet(PlainModel.valueAt(t, 4095)), -1);
    }
    due.is("behind the last TABLE", x.octet(PlainModel.valueAt(4, 0)), -1);
    due.is("before 2^35", x.octet((1L << 35) - 1), -1);
    due.is("TABLE 256", x.octet(PlainModel.valueAt(256, 0)), -1);
    due.is("2^36", x.octet(1L << 36), -1);
  }

  // ---- ACCESS, by the machine and by the judge ----

  /** The last slot that is there accesses; the machine does it, and the judge takes it, or both say 4. */
  private static void access(String what, boolean good, Asm a) {
    int last = a.here() - 1;
    a.set(0, 0).end();
    due.is(what + ": status", a.go(), good ? 2 : 4);
    if (!good) { due.is(what + ": the slot", a.x.told(1), last); }
    due.is(what + ": judge()", a.x.judge(), good ? 0 : 4);
    due.is(what + ": place()", a.x.place(), good ? -1 : last);
  }

  /** "4 an ACCESS of octets that are not all there": "CONTEXT: 0 <= low, high + n <= its length" */
  private static void accessInContext() {
    for (int n : new int[] {0, 1, 2, 3, 4, 7, 8, 9, 255, 256}) {
      for (int w : WIDTHS) {
        for (int o : new int[] {-1, 0, n - w - 1, n - w, n - w + 1, n - 1, n, n + 1}) {
          Asm a = new Asm().load(w, 3, 1, o);
          a.x.context(n);
          boolean good = o >= 0 && o + w <= n;
          access(w + " octets at " + o + " of a CONTEXT of " + n, good, a);
          a = new Asm().by(Asm.ADD, 1, 32768 + o).load(w, 3, 1, -32768);
          a.x.context(n);
          access(w + " octets at " + o + " of a CONTEXT of " + n + ", by the least OFFSET", good, a);
        }
      }
    }
  }

  /** "STACK: -512 .. 0, n octets" */
  private static void accessInStack() {
    for (int w : WIDTHS) {
      for (int o : new int[] {-514, -513, -512, -511, -w - 1, -w, -w + 1, -1, 0, 1}) {
        boolean good = o >= -512 && o + w <= 0;
        String what = w + " octets at " + o + " of the STACK";
        access(what + ", put", good, new Asm().putNumber(w, 10, o, 5));
        access(what + ", put by a register", good, new Asm().set(3, 5).put(w, 10, o, 3));
        access(what + ", read", good, known().load(w, 3, 10, o));
        if (w >= 4) { access(what + ", changed", good, known().set(3, 1).change(w, 0, 10, o, 3)); }
        access(what + ", by the greatest OFFSET", good, new Asm().copy(3, 10).by(Asm.ADD, 3, o - 32767).putNumber(w, 3, 32767, 5));
      }
    }
  }

  /** All of the STACK is known, by puts of IMM. */
  private static Asm known() {
    Asm a = new Asm();
    for (int o = -512; o < 0; o += 8) { a.putNumber(8, 10, o, 0); }
    return a;
  }

  /** "VALUE: likewise by its octets": VALUE 0 of a ROW, found by the helper 1; 0 is where it is. */
  private static Asm value(int octets) {
    Asm a = new Asm();
    a.x.table(0, 4, octets, 2);
    return a.putNumber(4, 10, -4, 0).copy(2, 10).by(Asm.ADD, 2, -4).table(1, 0).call(1).jumpBy(Asm.NE, 0, 0, 2).set(0, 0).end();
  }

  private static void accessInValue() {
    for (int v : new int[] {1, 2, 3, 4, 7, 8, 9, 31, 32}) {
      for (int w : WIDTHS) {
        for (int o : new int[] {-1, 0, v - w - 1, v - w, v - w + 1, v - 1, v, v + 1, 4096 - 1, 4096}) {
          // The octets of the next VALUE are there, but they are another's for the judge.
          if (o == 4096 && w <= v) { continue; }
          boolean good = o >= 0 && o + w <= v;
          String what = w + " octets at " + o + " of a VALUE of " + v;
          access(what + ", read", good, value(v).load(w, 3, 0, o));
          access(what + ", put", good, value(v).putNumber(w, 0, o, 5));
          if (w >= 4) { access(what + ", changed", good, value(v).set(3, 1).change(w, 0, 0, o, 3)); }
        }
      }
    }
  }

  /** "octets that are not all there (of one STACK, CONTEXT, VALUE)": the address goes around at 2^64, and is never near. */
  private static void accessFarAway() {
    long[] far = {0, 1, -1, -8, Long.MIN_VALUE, Long.MAX_VALUE, CONTEXT - 1, CONTEXT + 4, STACK - 513, STACK, (1L << 35) - 1,
      PlainModel.valueAt(0, 1), PlainModel.valueAt(1, 0), 1L << 36, 3L << 35, CONTEXT | 1L << 63, STACK - 8 | 1L << 40};
    for (long address : far) {
      for (int w : WIDTHS) {
        Asm a = new Asm().wide(4, address).load(w, 3, 4, 0).end();
        a.x.context(4);
        a.x.table(0, 4, 8, 1);
        due.is(w + " octets at " + address, a.go(), 4);
      }
    }
    Asm a = new Asm().wide(4, Long.MAX_VALUE).load(8, 3, 4, 32767).end();
    due.is("an address that goes around", a.go(), 4);
    a = new Asm().set(4, -1).load(1, 3, 4, 1).end();
    due.is("an address that goes around to 0", a.go(), 4);
    a = new Asm().wide(4, STACK - 4).load(8, 3, 4, 0).end();
    due.is("half of it in the STACK", a.go(), 4);
    a = new Asm().wide(4, STACK - 516).load(8, 3, 4, 0).end();
    due.is("half of it before the STACK", a.go(), 4);
    a = new Asm().wide(4, PlainModel.valueAt(0, 1) - 4).load(8, 3, 4, 0).end();
    a.x.table(0, 4, 32, 2);
    due.is("half of it before a VALUE", a.go(), 4);
    a = new Asm().wide(4, PlainModel.valueAt(0, 0) + 4096).load(8, 3, 4, 0).end();
    a.x.table(0, 4, 8, 2);
    due.is("the next VALUE", a.go(), 2);
  }

  /** "it is only read"; "or written ones that are only read" */
  private static void onlyRead() {
    for (int w : WIDTHS) {
      Asm a = new Asm().putNumber(w, 1, 0, 5);
      a.x.context(8);
      access("a put into the CONTEXT", false, a);
      due.is("its octet", a.x.octet(CONTEXT), 0);
      a = new Asm().set(3, 5).put(w, 1, 0, 3);
      a.x.context(8);
      access("a put of a register into the CONTEXT", false, a);
      due.is("its octet", a.x.octet(CONTEXT), 0);
    }
    for (int how : new int[] {0, 1, 64, 65, 80, 81, 160, 161, 225, 241}) {
      Asm a = new Asm().set(0, 0).set(3, 5).change(8, how, 1, 0, 3).end();
      a.x.context(8);
      due.is("a change of the CONTEXT", a.go(), 4);
      due.is("its octet", a.x.octet(CONTEXT), 0);
    }
  }

  // ---- TABLES and HELPERS ----

  /** Key and VALUE stand in the CONTEXT from 0 and from 8 on; 0 behind the call. */
  private static long call(JudgedCode x, int helper, int t, long key, long value, long mode) {
    x.cut(0);
    x.context(40);
    for (int i = 0; i < 8; i++) {
      x.poke(i, (int) (key >> 8 * i) & 255);
      x.poke(8 + i, (int) (value >> 8 * i) & 255);
      x.poke(32 + i, (int) (value >> 8 * i) & 255);
    }
    Slots s = new Slots(x);
    s.feed(191, 2, 1, 0, 0).feed(191, 3, 1, 0, 0).feed(7, 3, 0, 0, 8).feed(24, 1, 1, 0, t).feed(0, 0, 0, 0, 0);
    s.feed(24, 4, 0, 0, (int) mode).feed(0, 0, 0, 0, (int) (mode >> 32)).feed(133, 0, 0, 0, helper).feed(149, 0, 0, 0, 0);
    x.start();
    due.is("status of helper " + helper, x.run(99), 2);
    return x.register(0);
  }

  /** Feeds slots one behind the other. */
  private record Slots(JudgedCode x) {
    Slots feed(int op, int dst, int src, int offset, int imm) {
      x.feed(op, dst + 16 * src, offset, imm);
      return this;
    }
  }

  /** "0 a ROW: VALUES 0 .. n - 1, all there ..; the key is 4 octets"; "no such VALUE of a ROW" */
  private static void rowKeys() {
    for (int n : new int[] {1, 2, 31, 32}) {
      JudgedCode x = new JudgedCode();
      x.table(0, 4, 8, n);
      due.is("the keys of a ROW of " + n, x.keys(0), n);
      due.is("key 0", call(x, 1, 0, 0, 0, 0), PlainModel.valueAt(0, 0));
      due.is("key n - 1", call(x, 1, 0, n - 1, 0, 0), PlainModel.valueAt(0, n - 1));
      due.is("key n", call(x, 1, 0, n, 0, 0), 0);
      due.is("key 2^31", call(x, 1, 0, 1L << 31, 0, 0), 0);
      due.is("key 2^32 - 1", call(x, 1, 0, -1, 0, 0), 0);
      due.is("4 octets alone", call(x, 1, 0, 77L << 32, 0, 0), PlainModel.valueAt(0, 0));
    }
    JudgedCode x = new JudgedCode();
    x.table(0, 4, 8, 2);
    due.is("the last one is put", call(x, 2, 0, 1, 258, 0), 0);
    due.is("its octets", x.octet(PlainModel.valueAt(0, 1) + 1), 1);
    due.is("the one behind is not", call(x, 2, 0, 2, 259, 0), -1);
    due.is("the one by 2^32 - 1 is not", call(x, 2, 0, -1, 259, 2), -1);
    due.is("the octets stay", x.octet(PlainModel.valueAt(0, 1)), 2);
    due.is("the keys stay", x.keys(0), 2);
  }

  /** "1 a HASH of at most n keys of k octets (1 .. 8)" */
  private static void hashKeysOfKOctets() {
    for (int k = 1; k <= 8; k++) {
      JudgedCode x = new JudgedCode();
      x.table(1, k, 1, 4);
      long all = k == 8 ? -1 : (1L << 8 * k) - 1;
      long above = k == 8 ? 0 : 1L << 8 * k;
      long highest = 1L << 8 * k - 1;
      due.is("the key of 0s, " + k + " octets", call(x, 2, 0, above, 1, 1), 0);
      due.is("the key of all bits", call(x, 2, 0, all | above, 2, 1), 0);
      due.is("the key of the highest bit", call(x, 2, 0, highest, 3, 1), 0);
      due.is("keys", x.keys(0), 3);
      due.is("octets above do not count", call(x, 1, 0, 0, 0, 0), PlainModel.valueAt(0, 0));
      due.is("nor here", call(x, 1, 0, all, 0, 0), PlainModel.valueAt(0, 1));
      due.is("the highest does", call(x, 1, 0, highest | above, 0, 0), PlainModel.valueAt(0, 2));
      due.is("none with the lowest bit", call(x, 1, 0, highest ^ 1, 0, 0), 0);
      due.is("none by a little less than all", call(x, 1, 0, all - 1, 0, 0), 0);
    }
  }

  /** "at most n keys": "no room" */
  private static void hashFull() {
    for (int n : new int[] {1, 2, 31, 32}) {
      JudgedCode x = full(n);
      due.is("a HASH of " + n + " that is full", x.keys(0), n);
      for (int mode = 0; mode <= 2; mode++) {
        x = full(n);
        due.is("one more, by " + mode, call(x, 2, 0, n, 9, mode), -1);
        due.is("keys", x.keys(0), n);
        due.is("it is not there", call(x, 1, 0, n, 0, 0), 0);
        due.is("one that is there, by " + mode, call(x, 2, 0, n - 1, 9, mode), mode == 1 ? -1 : 0);
        due.is("its octet", x.octet(PlainModel.valueAt(0, n - 1)), mode == 1 ? n & 255 : 9);
      }
      x = full(n);
      due.is("one goes", call(x, 3, 0, 0, 0, 0), 0);
      due.is("then there is room", call(x, 2, 0, n, 9, 1), 0);
      due.is("and none again", call(x, 2, 0, n + 1, 9, 0), -1);
    }
  }

  /** A HASH with the keys 0 .. n - 1 and the VALUES 1 .. n, by one program that goes around. */
  private static JudgedCode full(int n) {
    Asm a = new Asm();
    a.x.table(1, 2, 2, n);
    a.put(2, 10, -2, 6).by(Asm.ADD, 6, 1).put(2, 10, -4, 6).copy(2, 10).by(Asm.ADD, 2, -2).copy(3, 10).by(Asm.ADD, 3, -4);
    a.table(1, 0).set(4, 1).call(2).jumpBy(Asm.LT, 6, n, -12).end();
    due.is("status", a.go(), 2);
    due.is("the last one was put", a.x.register(0), 0);
    return a.x;
  }

  /** "1 ..: where its VALUE is": of each TABLE, the first and the last. */
  private static void whereAValueIs() {
    for (int t = 0; t < 4; t++) {
      for (int e : new int[] {0, 1, 31}) {
        JudgedCode x = new JudgedCode();
        for (int k = 0; k < 4; k++) { x.table(0, 4, 1, 32); }
        due.is("VALUE " + e + " of TABLE " + t, call(x, 1, t, e, 0, 0), PlainModel.valueAt(t, e));
        due.is("it is put", call(x, 2, t, e, 77, 0), 0);
        due.is("its octet", x.octet(PlainModel.valueAt(t, e)), 77);
        for (int other = 0; other < 4; other++) {
          if (other != t) { due.is("the octet of TABLE " + other, x.octet(PlainModel.valueAt(other, e)), 0); }
        }
      }
    }
  }

  /** "a new one has the least number that is free" */
  private static void leastFreeNumber() {
    JudgedCode x = full(5);
    for (int gone : new int[] {4, 1, 3}) { due.is("a key goes", call(x, 3, 0, gone, 0, 0), 0); }
    int[] numbers = {1, 3, 4};
    for (int k = 0; k < 3; k++) {
      due.is("a new key", call(x, 2, 0, 100 + k, 7, 0), 0);
      due.is("its number", call(x, 1, 0, 100 + k, 0, 0), PlainModel.valueAt(0, numbers[k]));
    }
    due.is("no room", call(x, 2, 0, 200, 7, 0), -1);
    x = full(3);
    due.is("the first goes", call(x, 3, 0, 0, 0, 0), 0);
    due.is("the last stays where it is", call(x, 1, 0, 2, 0, 0), PlainModel.valueAt(0, 2));
    due.is("the first is new again", call(x, 2, 0, 0, 0, 1), 0);
    due.is("where it was", call(x, 1, 0, 0, 0, 0), PlainModel.valueAt(0, 0));
  }

  /** "VALUES have 1 to 32 octets": "the VALUE becomes these octets", and no others do. */
  private static void valuesOfAnySize() {
    for (int kind = 0; kind <= 1; kind++) {
      for (int v : new int[] {1, 2, 8, 31, 32}) {
        JudgedCode x = new JudgedCode();
        x.table(kind, 4, v, 3);
        for (int key = 0; key < 2; key++) { due.is("a VALUE of " + v, call(x, 2, 0, key, 0x0807060504030201L * (key + 1), 0), 0); }
        for (int e = 0; e < 3; e++) {
          for (int i = 0; i < v; i++) {
            int part = i < 8 ? i + 1 : i >= 24 ? i - 24 + 1 : 0;
            due.is("octet " + i + " of VALUE " + e + " of " + v, x.octet(PlainModel.valueAt(0, e) + i), e == 2 ? 0 : part * (e + 1));
          }
        }
      }
    }
  }

  /** "4: 0 any, 1 only a new key, 2 only one that is there"; "-1 if that cannot be (4, .., 1 of a ROW)" */
  private static void modes() {
    long[] modes = {0, 1, 2, 3, -1, 1L << 32, 1L << 32 | 1, Long.MIN_VALUE, Long.MAX_VALUE};
    for (long mode : modes) {
      for (int kind = 0; kind <= 1; kind++) {
        for (int key = 0; key <= 1; key++) {
          JudgedCode x = new JudgedCode();
          x.table(kind, 4, 1, 1);
          if (kind == 1) { call(x, 2, 0, 0, 5, 0); }
          // Key 0 is there; key 1 is not, and there is no room for it.
          boolean good = key == 0 && (mode == 0 || mode == 2);
          due.is("mode " + mode + " of kind " + kind + ", key " + key, call(x, 2, 0, key, 6, mode), good ? 0 : -1);
          due.is("its octet", x.octet(PlainModel.valueAt(0, 0)), good ? 6 : kind == 1 ? 5 : 0);
          due.is("its keys", x.keys(0), 1);
        }
      }
      JudgedCode x = new JudgedCode();
      x.table(1, 4, 1, 1);
      boolean good = mode == 0 || mode == 1;
      due.is("mode " + mode + " of an empty HASH", call(x, 2, 0, 9, 6, mode), good ? 0 : -1);
      due.is("its octet", x.octet(PlainModel.valueAt(0, 0)), good ? 6 : 0);
      due.is("its keys", x.keys(0), good ? 1 : 0);
    }
  }

  /** "3: the key goes (its VALUE's octets stay, till it is new): 0; -1 there is none, or a ROW." */
  private static void keyGoes() {
    JudgedCode x = full(2);
    due.is("a key goes", call(x, 3, 0, 1, 0, 0), 0);
    due.is("keys", x.keys(0), 1);
    due.is("its octets stay", x.octet(PlainModel.valueAt(0, 1)), 2);
    due.is("it is gone", call(x, 3, 0, 1, 0, 0), -1);
    due.is("and not found", call(x, 1, 0, 1, 0, 0), 0);
    due.is("it is not there to be put", call(x, 2, 0, 1, 9, 2), -1);
    due.is("its octets stay still", x.octet(PlainModel.valueAt(0, 1)), 2);
    due.is("a new one", call(x, 2, 0, 7, 0x0A0B, 0), 0);
    due.is("its octets are new", x.octet(PlainModel.valueAt(0, 1)), 0x0B);
    due.is("the last goes", call(x, 3, 0, 0, 0, 0), 0);
    due.is("and the other", call(x, 3, 0, 7, 0, 0), 0);
    due.is("no keys", x.keys(0), 0);
    due.is("none in an empty HASH", call(x, 3, 0, 7, 0, 0), -1);
    JudgedCode row = new JudgedCode();
    row.table(0, 4, 1, 1);
    due.is("a ROW's key", call(row, 3, 0, 0, 0, 0), -1);
    due.is("a ROW's key that is none", call(row, 3, 0, 1, 0, 0), -1);
    due.is("its keys", row.keys(0), 1);
  }

  /** "(a TABLE that is none in 24 or 1 of a call, a key, a VALUE there, too)" */
  private static void noTableNoKeyNoValue() {
    for (int helper = 1; helper <= 3; helper++) {
      for (int k = 1; k <= 8; k++) {
        String of = " of helper " + helper + ", keys of " + k;
        due.is("a key" + of, status(helper, k, 1, 1L << 34, STACK - k, STACK - 1), 2);
        due.is("a key that is too high" + of, status(helper, k, 1, 1L << 34, STACK - k + 1, STACK - 1), 4);
        due.is("a key at 0" + of, status(helper, k, 1, 1L << 34, 0, STACK - 1), 4);
        due.is("a key in no octets" + of, status(helper, k, 1, 1L << 34, 1L << 34, STACK - 1), 4);
        due.is("no TABLE" + of, status(helper, k, 1, (1L << 34) + 1, STACK - k, STACK - 1), 4);
        due.is("a TABLE of -1" + of, status(helper, k, 1, (1L << 34) - 1, STACK - k, STACK - 1), 4);
        due.is("a TABLE of 0" + of, status(helper, k, 1, 0, STACK - k, STACK - 1), 4);
        due.is("a TABLE far away" + of, status(helper, k, 1, 1L << 34 | 1L << 63, STACK - k, STACK - 1), 4);
      }
    }
    for (int v = 1; v <= 32; v++) {
      due.is("a VALUE of " + v, status(2, 4, v, 1L << 34, STACK - 4, STACK - v), 2);
      due.is("a VALUE of " + v + " that is too high", status(2, 4, v, 1L << 34, STACK - 4, STACK - v + 1), 4);
      due.is("a VALUE at 0", status(2, 4, v, 1L << 34, STACK - 4, 0), 4);
      due.is("1 does not look for a VALUE", status(1, 4, v, 1L << 34, STACK - 4, 0), 2);
      due.is("3 does not look for a VALUE", status(3, 4, v, 1L << 34, STACK - 4, 0), 2);
    }
  }

  private static int status(int helper, int key, int value, long one, long two, long three) {
    Asm a = new Asm().wide(1, one).wide(2, two).wide(3, three).call(helper).end();
    a.x.table(1, key, value, 2);
    int status = a.go();
    due.is("where it is", a.x.told(1), status == 2 ? 7 : 6);
    due.is("keys", a.x.keys(0), status == 2 && helper == 2 ? 1 : 0);
    return status;
  }

  /** "registers 1 .. 5 are forgotten behind: they are 0; 0 is what comes" */
  private static void forgotten() {
    for (int helper : new int[] {1, 2, 3, 5, 6}) {
      Asm a = new Asm();
      a.x.table(0, 4, 1, 1);
      for (int r = 0; r <= 9; r++) { a.set(r, 100 + r); }
      a.copy(2, 10).by(Asm.ADD, 2, -4).copy(3, 2).table(1, 0).call(helper).end();
      due.is("status", a.go(), 2);
      for (int r = 1; r <= 9; r++) { due.is("register " + r + " behind helper " + helper, a.x.register(r), r <= 5 ? 0 : 100 + r); }
      long[] comes = {0, PlainModel.valueAt(0, 0), -1, -1, 0, 0, 0};
      due.is("what comes of helper " + helper, a.x.register(0), comes[helper]);
      due.is("register 10", a.x.register(10), STACK);
    }
  }

  /** "5: the CLOCK. 6 (1): register 1 is PUT: 0." */
  private static void clockAndPut() {
    Asm a = new Asm().call(5).copy(1, 0).call(6).go(-4);
    a.x.start();
    a.x.run(4);
    due.is("the CLOCK at first", a.x.putAt(0), 0);
    a.x.tick(1);
    a.x.run(4);
    due.is("the CLOCK, ticked while it runs", a.x.putAt(1), 1);
    a.x.tick((1L << 62) - 1);
    a.x.run(3);
    due.is("the CLOCK at last", a.x.putAt(2), 1L << 62);
    due.is("what comes", a.x.register(0), 0);
    due.is("how many", a.x.told(5), 3);
    for (long v : new long[] {0, -1, Long.MIN_VALUE, Long.MAX_VALUE}) {
      a = new Asm().wide(1, v).call(6).end();
      due.is("status", a.go(), 2);
      due.is("what is PUT", a.x.putAt(0), v);
      due.is("how many", a.x.told(5), 1);
    }
  }

  // ---- RUN ----

  /** "START: registers 0, but 1 is 2^32, 10 is 2^33, the STACK 0s; the slot 0." */
  private static void startSetsAll() {
    Asm a = new Asm();
    for (int r = 0; r <= 9; r++) { a.set(r, -1); }
    a.putNumber(8, 10, -512, -1).putNumber(8, 10, -8, -1).set(1, 3).call(6).end();
    a.x.context(2);
    a.x.poke(1, 5);
    for (int times = 0; times < 2; times++) {
      due.is("start()", a.x.start(), 1);
      for (int r = 0; r <= 10; r++) { due.is("register " + r, a.x.register(r), r == 1 ? CONTEXT : r == 10 ? STACK : 0); }
      for (int o = 1; o <= 512; o += o == 8 ? 497 : 1) { due.is("the STACK's octet -" + o, a.x.octet(STACK - o), 0); }
      due.is("the slot", a.x.told(1), 0);
      due.is("steps", a.x.told(2), 0);
      due.is("PUT", a.x.told(5), 0);
      due.is("the CONTEXT stays", a.x.octet(CONTEXT + 1), 5);
      due.is("status", a.x.run(99), 2);
      due.is("the STACK behind", a.x.octet(STACK - 512), 255);
    }
    a = new Asm().set(3, 1).set(3, 2);
    a.x.start();
    a.x.step();
    due.is("start() while RUNNING", a.x.start(), 1);
    due.is("the slot", a.x.told(1), 0);
    due.is("register 3", a.x.register(3), 0);
    // TABLES last.
    JudgedCode x = full(2);
    x.start();
    due.is("keys behind START", x.keys(0), 2);
    due.is("VALUES behind START", x.octet(PlainModel.valueAt(0, 1)), 2);
  }

  /** "5 a slot that there is not (also a second one of 24 that lacks)" */
  private static void statusOfASlotThatThereIsNot() {
    Asm a = new Asm().set(0, 0);
    a.x.start();
    due.is("the last slot", a.x.step(), 1);
    due.is("the slot behind", a.x.told(1), 1);
    due.is("a step there", a.x.step(), 5);
    due.is("the slot", a.x.told(1), 1);
    due.is("steps", a.x.told(2), 1);
    for (int far : new int[] {1, 32767, Integer.MAX_VALUE, -2, -32768, Integer.MIN_VALUE}) {
      a = new Asm().goFar(far);
      a.x.start();
      due.is("a jump by " + far, a.x.step(), 1);
      due.is("a step there", a.x.step(), 5);
      due.is("steps", a.x.told(2), 1);
    }
    a = new Asm().wide(3, 1);
    due.is("behind a 24 that is the last", a.go(), 5);
    due.is("it was done", a.x.register(3), 1);
    due.is("the slot", a.x.told(1), 2);
    for (int src = 0; src <= 1; src++) {
      a = new Asm().feed(24, 3, src, 0, 7);
      due.is("a second one that lacks", a.go(), 5);
      due.is("the slot", a.x.told(1), 0);
      due.is("steps", a.x.told(2), 0);
      due.is("nothing is done", a.x.register(3), 0);
    }
  }

  /** A program that leaves something everywhere, then does one slot more that faults. */
  private static JudgedCode before(int[] slot, boolean fault) {
    Asm a = new Asm();
    a.x.context(8);
    a.x.poke(3, 33);
    a.x.table(0, 4, 8, 2);
    a.x.table(1, 4, 8, 2);
    for (int r = 6; r <= 9; r++) { a.set(r, 60 + r); }
    a.putNumber(8, 10, -8, 1).putNumber(8, 10, -16, 77).copy(2, 10).by(Asm.ADD, 2, -8).copy(3, 10).by(Asm.ADD, 3, -16).table(1, 1).call(2);
    a.set(1, 9).call(6).set(0, 5).wide(1, 1L << 34).wide(2, STACK - 3).wide(3, STACK - 7).set(4, 0).set(5, 6);
    int steps = a.here() - 4;
    a.feed(slot[0], slot[1], slot[2], slot[3], slot[4]);
    if (slot[0] == 24 && slot[2] == 1) { a.feed(0, 0, 0, 0, 0); }
    a.x.start();
    due.is("before the FAULT", a.x.run(steps), 1);
    due.is("the slot of the FAULT", a.x.told(1), steps + 4);
    if (fault) { due.is("the FAULT", a.x.step(), slot[5]); }
    return a.x;
  }

  /** "FAULTS, at which nothing is done" */
  private static void faultsDoNothing() {
    int[][] slots = {{255, 0, 0, 0, 0, 3}, {7, 10, 0, 0, 1, 3}, {133, 0, 0, 0, 4, 3}, {133, 0, 0, 0, 7, 3},
      {121, 6, 10, 0, 0, 4}, {121, 6, 1, 0, 0, 4}, {122, 10, 0, -4, 5, 4}, {123, 10, 6, -516, 0, 4}, {122, 6, 0, 0, 5, 4},
      {219, 10, 6, -4, 1, 4}, {219, 10, 6, -4, 225, 4}, {219, 10, 6, -4, 241, 4},
      {24, 6, 1, 0, 2, 4}, {24, 6, 0, 0, 9, 5}, {133, 0, 0, 0, 1, 4}, {133, 0, 0, 0, 2, 4}, {133, 0, 0, 0, 3, 4}};
    for (int[] slot : slots) {
      Seen.alike(due, "FAULT " + slot[5] + " of op " + slot[0], () -> before(slot, false), () -> before(slot, true), false);
    }
  }

  /** A FAULT is no RUNNING: no step more, but a START. */
  private static void faultsEnd() {
    int[][] faults = {{255, 0, 0, 3}, {121, 10, 0, 4}, {24, 0, 0, 5}};
    for (int[] f : faults) {
      Asm a = new Asm().feed(f[0], 3, f[1], f[2], 0);
      a.x.context(1);
      due.is("the FAULT", a.go(), f[3]);
      due.is("told(0)", a.x.told(0), f[3]);
      due.is("steps", a.x.told(2), 0);
      due.is("step()", a.x.step(), -3);
      due.is("run()", a.x.run(1), -3);
      due.is("told(0) stays", a.x.told(0), f[3]);
      due.is("poke() at a FAULT", a.x.poke(0, 5), 0);
      due.is("context() at a FAULT", a.x.context(2), 1);
      due.is("start()", a.x.start(), 1);
      due.is("told(0) behind start()", a.x.told(0), 1);
      due.is("the FAULT again", a.x.step(), f[3]);
    }
  }

  /** "0 IDLE before START, and behind feed(), alter(), cut() that were not refused." */
  private static void idle() {
    for (int was = 0; was < 4; was++) {
      for (int by = 0; by < 6; by++) {
        JudgedCode x = inStatus(was);
        int[] statuses = {0, 1, 2, 3};
        due.is("the status before", x.told(0), statuses[was]);
        boolean refused = by % 2 == 1;
        int answer = by == 0 ? x.feed(0, 0, 0, 0) : by == 1 ? x.feed(0, 256, 0, 0) : by == 2 ? x.alter(0, 183, 0, 0, 0)
            : by == 3 ? x.alter(9, 0, 0, 0, 0) : by == 4 ? x.cut(x.told(3)) : x.cut(-1);
        due.holds("it was refused, or not", answer < 0 == refused);
        due.is("the status behind " + by, x.told(0), refused ? statuses[was] : 0);
        due.is("step()", x.step() == -3 ? 1 : 0, refused && was == 1 ? 0 : 1);
      }
    }
  }

  private static JudgedCode inStatus(int status) {
    Asm a = new Asm().set(0, 0).set(0, 0);
    if (status == 2) { a.end(); }
    if (status == 3) { a.feed(255, 0, 0, 0, 0); }
    if (status > 0) { a.x.start(); }
    if (status > 1) { a.x.run(9); }
    return a.x;
  }
}
