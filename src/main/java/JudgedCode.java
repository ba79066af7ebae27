import java.util.Arrays;

/**
 * A machine for small programs that are judged before they run. The document is ../shared/DOC.md;
 * what its words leave open is said in README.md.
 */
public final class JudgedCode {
  private static final int REFUSED_NONE = -1;
  private static final int REFUSED_RANGE = -2;
  private static final int REFUSED_NOW = -3;
  private static final int REFUSED_ROOM = -4;

  private static final int MOST_SLOTS = 200;
  private static final int MOST_TABLES = 4;
  private static final int MOST_VALUES = 32;
  private static final int MOST_CONTEXT = 256;
  private static final int MOST_FUEL = 10000;
  private static final int KEPT_PUTS = 32;
  private static final int REGISTERS = 11;
  private static final int STACK_OCTETS = 512;
  private static final int CELLS = 64;

  private static final long SIGN = 1L << 63;
  private static final long LOW_HALF = 0xFFFFFFFFL;
  private static final long CONTEXT_AT = 1L << 32;
  private static final long STACK_END = 1L << 33;
  private static final long TABLES_AT = 1L << 34;
  private static final long VALUES_AT = 1L << 35;
  private static final long LATEST_CLOCK = 1L << 62;

  private static final int ADD = 0;
  private static final int SUBTRACT = 1;
  private static final int MULTIPLY = 2;
  private static final int DIVIDE = 3;
  private static final int OR = 4;
  private static final int AND = 5;
  private static final int LEFT = 6;
  private static final int RIGHT = 7;
  private static final int NEGATE = 8;
  private static final int REST = 9;
  private static final int XOR = 10;
  private static final int MOVE = 11;
  private static final int SIGNED_RIGHT = 12;
  private static final int TURN = 13;

  private static final int ALWAYS = 0;
  private static final int EQUAL = 1;
  private static final int ABOVE = 2;
  private static final int NOT_BELOW = 3;
  private static final int COMMON = 4;
  private static final int UNEQUAL = 5;
  private static final int SIGNED_ABOVE = 6;
  private static final int SIGNED_NOT_BELOW = 7;
  private static final int CALL = 8;
  private static final int END = 9;
  private static final int BELOW = 10;
  private static final int NOT_ABOVE = 11;
  private static final int SIGNED_BELOW = 12;
  private static final int SIGNED_NOT_ABOVE = 13;

  private static final int BY_REGISTER = 8;
  private static final int WIDTH_BITS = 24;
  private static final int OP_WIDE = 24;
  private static final int OP_LOAD = 97;
  private static final int OP_SIGNED_LOAD = 129;
  private static final int OP_PUT_NUMBER = 98;
  private static final int OP_PUT = 99;
  private static final int OP_PUT_EIGHT = 123;
  private static final int OP_CHANGE_FOUR = 195;
  private static final int OP_CHANGE_EIGHT = 219;
  private static final int EXCHANGE = 225;
  private static final int COMPARE_EXCHANGE = 241;

  private static final int FIND = 1;
  private static final int UPDATE = 2;
  private static final int REMOVE = 3;
  private static final int CLOCK = 5;
  private static final int PUT = 6;

  private static final int IDLE = 0;
  private static final int RUNNING = 1;
  private static final int ENDED = 2;
  private static final int FAULT_BAD = 3;
  private static final int FAULT_ACCESS = 4;
  private static final int FAULT_SLOT = 5;

  private static final int NONE = 0;
  private static final int NUMBER = 1;
  private static final int CONTEXT = 2;
  private static final int STACK = 3;
  private static final int TABLE = 4;
  private static final int VALUE = 5;
  private static final int VALUE_OR_ZERO = 6;

  private static final int BY_BAD = 1;
  private static final int BY_NONE = 2;
  private static final int BY_KIND = 3;
  private static final int BY_ACCESS = 4;
  private static final int BY_END = 5;
  private static final int BY_SLOT = 6;

  private final Program program;
  private final Memory memory;
  private final Machine machine;
  private final Judge judgement;

  public JudgedCode() {
    program = new Program();
    memory = new Memory();
    machine = new Machine(program, memory);
    judgement = new Judge(program, memory);
  }

  public int feed(int op, int regs, int offset, int imm) {
    if (!fitsSlot(op, regs, offset)) {
      return REFUSED_RANGE;
    }
    if (program.count >= MOST_SLOTS) {
      return REFUSED_ROOM;
    }
    int i = program.count;
    program.count = i + 1;
    program.write(i, op, regs, offset, imm);
    machine.status = IDLE;
    return i;
  }

  public int alter(int i, int op, int regs, int offset, int imm) {
    if (!program.has(i)) {
      return REFUSED_NONE;
    }
    if (!fitsSlot(op, regs, offset)) {
      return REFUSED_RANGE;
    }
    program.write(i, op, regs, offset, imm);
    machine.status = IDLE;
    return 1;
  }

  public int cut(int n) {
    int before = program.count;
    if (n < 0 || n > before) {
      return REFUSED_RANGE;
    }
    program.count = n;
    machine.status = IDLE;
    return before;
  }

  public int table(int kind, int key, int value, int n) {
    if (kind != 0 && kind != 1 || value < 1 || value > MOST_VALUES || n < 1 || n > MOST_VALUES) {
      return REFUSED_RANGE;
    }
    if (kind == 0 && key != 4 || key < 1 || key > 8) {
      return REFUSED_RANGE;
    }
    if (memory.tableCount >= MOST_TABLES) {
      return REFUSED_ROOM;
    }
    return memory.addTable(new Table(kind == 0, key, value, n));
  }

  public int context(int n) {
    if (n < 0 || n > MOST_CONTEXT) {
      return REFUSED_RANGE;
    }
    if (machine.status == RUNNING) {
      return REFUSED_NOW;
    }
    return memory.resizeContext(n);
  }

  public int poke(int i, int v) {
    if (i < 0 || i >= memory.contextLength) {
      return REFUSED_NONE;
    }
    if (v < 0 || v > 255) {
      return REFUSED_RANGE;
    }
    if (machine.status == RUNNING) {
      return REFUSED_NOW;
    }
    int before = memory.context[i] & 255;
    memory.context[i] = (byte) v;
    return before;
  }

  public long tick(long n) {
    if (n < 0 || n > LATEST_CLOCK - memory.clock) {
      return REFUSED_RANGE;
    }
    memory.clock += n;
    return memory.clock;
  }

  public int judge() {
    return judgement.follow();
  }

  public int place() {
    return judgement.refusedAt;
  }

  public long may(int i, int r, int what) {
    if (!program.has(i) || r < 0 || r >= REGISTERS) {
      return REFUSED_NONE;
    }
    if (what < 0 || what > 4) {
      return REFUSED_RANGE;
    }
    Scene scene = judgement.sceneAt(i);
    return scene == null ? 0 : scene.tell(r, what);
  }

  public int cell(int i, int a) {
    if (!program.has(i) || a < -STACK_OCTETS || a > -1) {
      return REFUSED_NONE;
    }
    Scene scene = judgement.sceneAt(i);
    return scene == null ? 0 : scene.tellOctet(a + STACK_OCTETS);
  }

  public int start() {
    if (program.count == 0) {
      return REFUSED_NOW;
    }
    machine.begin();
    return 1;
  }

  public int step() {
    if (machine.status != RUNNING) {
      return REFUSED_NOW;
    }
    return machine.advance();
  }

  public int run(int fuel) {
    if (fuel < 0 || fuel > MOST_FUEL) {
      return REFUSED_RANGE;
    }
    if (machine.status != RUNNING) {
      return REFUSED_NOW;
    }
    for (int used = 0; used < fuel && machine.status == RUNNING; used++) {
      machine.advance();
    }
    return machine.status;
  }

  public int told(int what) {
    switch (what) {
      case 0:
        return machine.status;
      case 1:
        return machine.slot;
      case 2:
        return machine.steps;
      case 3:
        return program.count;
      case 4:
        return memory.tableCount;
      case 5:
        return machine.putCount;
      default:
        return REFUSED_RANGE;
    }
  }

  public long register(int i) {
    return i < 0 || i >= REGISTERS ? 0 : machine.registers[i];
  }

  public int octet(long address) {
    return memory.find(address, 1, false) ? (int) memory.foundNumber(1) : REFUSED_NONE;
  }

  public long putAt(int i) {
    return machine.keptPut(i);
  }

  public int keys(int table) {
    Table asked = memory.tableNumbered(table);
    return asked == null ? REFUSED_NONE : asked.keyCount();
  }

  private static boolean fitsSlot(int op, int regs, int offset) {
    return op >= 0 && op <= 255 && regs >= 0 && regs <= 255 && offset >= -32768 && offset <= 32767;
  }

  /** What the machine computes; the judge uses it too, so that both agree on single numbers. */
  private static final class Numbers {
    static boolean below(long a, long b) {
      return (a ^ SIGN) < (b ^ SIGN);
    }

    static long quotient(long a, long b) {
      if (b == 0) {
        return 0;
      }
      if (b < 0) {
        return a >= 0 || a < b ? 0 : 1;
      }
      if (a >= 0) {
        return a / b;
      }
      // Half of a fits a division with sign; what is left over then is below 2 b.
      long q = ((a >>> 1) / b) << 1;
      long left = a - q * b;
      return left >= 0 && left < b ? q : q + 1;
    }

    static long signedQuotient(long a, long b) {
      if (b == 0) {
        return 0;
      }
      return b == -1 ? -a : a / b;
    }

    /** The lowest bits of x, the highest of them as sign. */
    static long withSign(long x, int bits) {
      int up = 64 - bits;
      return x << up >> up;
    }

    private static long half(long x, boolean signed) {
      return signed ? (int) x : x & LOW_HALF;
    }

    static long make(int code, boolean wide, int offset, long dst, long x) {
      boolean divides = code == DIVIDE || code == REST;
      boolean signed = code == SIGNED_RIGHT || divides && offset == 1;
      long a = wide ? dst : half(dst, signed);
      long b = wide ? x : half(x, signed);
      long made;
      if (divides) {
        long q = signed ? signedQuotient(a, b) : quotient(a, b);
        made = code == DIVIDE ? q : a - q * b;
      } else if (code == MOVE && offset != 0) {
        made = withSign(b, offset);
      } else {
        made = makeOther(code, a, b, wide ? 63 : 31);
      }
      return wide ? made : made & LOW_HALF;
    }

    private static long makeOther(int code, long a, long x, int shiftBits) {
      switch (code) {
        case ADD:
          return a + x;
        case SUBTRACT:
          return a - x;
        case MULTIPLY:
          return a * x;
        case OR:
          return a | x;
        case AND:
          return a & x;
        case XOR:
          return a ^ x;
        case LEFT:
          return a << (x & shiftBits);
        case RIGHT:
          return a >>> (x & shiftBits);
        case SIGNED_RIGHT:
          return a >> (x & shiftBits);
        case NEGATE:
          return -a;
        default:
          return x;
      }
    }

    /** The lowest bits of a, turned around by octets if asked. */
    static long turn(long a, int bits, boolean around) {
      if (!around) {
        return bits == 64 ? a : a & ((1L << bits) - 1);
      }
      long turned = 0;
      for (int at = 0; at < bits; at += 8) {
        turned = turned << 8 | a >>> at & 255;
      }
      return turned;
    }

    static boolean holds(int code, boolean wide, long dst, long x) {
      long a = wide ? dst : dst & LOW_HALF;
      long b = wide ? x : x & LOW_HALF;
      switch (code) {
        case EQUAL:
          return a == b;
        case UNEQUAL:
          return a != b;
        case ABOVE:
          return below(b, a);
        case NOT_BELOW:
          return !below(a, b);
        case BELOW:
          return below(a, b);
        case NOT_ABOVE:
          return !below(b, a);
        case COMMON:
          return (a & b) != 0;
        default:
          return wide ? holdsSigned(code, a, b) : holdsSigned(code, (int) a, (int) b);
      }
    }

    private static boolean holdsSigned(int code, long a, long b) {
      switch (code) {
        case SIGNED_ABOVE:
          return a > b;
        case SIGNED_NOT_BELOW:
          return a >= b;
        case SIGNED_BELOW:
          return a < b;
        default:
          return a <= b;
      }
    }
  }

  /** The slots, and which of them are BAD whatever the registers are. */
  private static final class Program {
    final int[] op = new int[MOST_SLOTS];
    final int[] dst = new int[MOST_SLOTS];
    final int[] src = new int[MOST_SLOTS];
    final int[] offset = new int[MOST_SLOTS];
    final int[] imm = new int[MOST_SLOTS];
    int count;

    boolean has(int i) {
      return i >= 0 && i < count;
    }

    void write(int i, int newOp, int regs, int newOffset, int newImm) {
      if (!has(i)) {
        return;
      }
      op[i] = newOp;
      dst[i] = regs & 15;
      src[i] = regs >> 4 & 15;
      offset[i] = newOffset;
      imm[i] = newImm;
    }

    int code(int i) {
      return op[i] >> 4;
    }

    /** Sort 7 among 4 and 7, sort 5 among 5 and 6. */
    boolean isWide(int i) {
      int sort = op[i] & 7;
      return sort == 7 || sort == 5;
    }

    boolean byRegister(int i) {
      return (op[i] & BY_REGISTER) != 0;
    }

    int width(int i) {
      switch (op[i] & WIDTH_BITS) {
        case 0:
          return 4;
        case 8:
          return 2;
        case 16:
          return 1;
        default:
          return 8;
      }
    }

    /** How many slots a jump goes on from the one behind it. */
    int distance(int i) {
      return code(i) == ALWAYS && !isWide(i) ? imm[i] : offset[i];
    }

    boolean isPlainPut(int i) {
      return (op[i] & ~WIDTH_BITS) == OP_PUT;
    }

    boolean isSignedLoad(int i) {
      return (op[i] & ~WIDTH_BITS) == OP_SIGNED_LOAD;
    }

    boolean isBad(int i) {
      if (!has(i) || dst[i] >= REGISTERS || src[i] >= REGISTERS) {
        return true;
      }
      switch (op[i] & 7) {
        case 0:
          return isBadPair(i);
        case 1:
          return isBadLoad(i);
        case 2:
          return (op[i] & ~WIDTH_BITS) != OP_PUT_NUMBER || src[i] != 0;
        case 3:
          return isBadPut(i);
        case 4:
        case 7:
          return isBadArithmetic(i);
        default:
          return isBadJump(i);
      }
    }

    /** A second slot that lacks is no BAD one: it is told by a number of its own. */
    private boolean isBadPair(int i) {
      if (op[i] != OP_WIDE || dst[i] >= REGISTERS - 1 || src[i] > 1 || offset[i] != 0) {
        return true;
      }
      int j = i + 1;
      if (!has(j)) {
        return false;
      }
      boolean empty = op[j] == 0 && dst[j] == 0 && src[j] == 0 && offset[j] == 0;
      return !empty || src[i] == 1 && imm[j] != 0;
    }

    private boolean isBadLoad(int i) {
      boolean plain = (op[i] & ~WIDTH_BITS) == OP_LOAD;
      boolean signed = isSignedLoad(i) && width(i) != 8;
      return !plain && !signed || imm[i] != 0 || dst[i] >= REGISTERS - 1;
    }

    private boolean isBadPut(int i) {
      if (op[i] == OP_CHANGE_FOUR || op[i] == OP_CHANGE_EIGHT) {
        return isBadChange(imm[i]);
      }
      return !isPlainPut(i) || imm[i] != 0;
    }

    private static boolean isBadChange(int how) {
      switch (how) {
        case ADD:
        case ADD + 1:
        case OR << 4:
        case (OR << 4) + 1:
        case AND << 4:
        case (AND << 4) + 1:
        case XOR << 4:
        case (XOR << 4) + 1:
        case EXCHANGE:
        case COMPARE_EXCHANGE:
          return false;
        default:
          return true;
      }
    }

    private boolean isBadArithmetic(int i) {
      int code = code(i);
      if (dst[i] >= REGISTERS - 1 || code > TURN) {
        return true;
      }
      if (code == TURN) {
        boolean bits = imm[i] == 16 || imm[i] == 32 || imm[i] == 64;
        return !bits || src[i] != 0 || offset[i] != 0 || isWide(i) && byRegister(i);
      }
      if (code == NEGATE && (byRegister(i) || imm[i] != 0)) {
        return true;
      }
      return hasBadX(i) || hasBadOffset(i);
    }

    private boolean hasBadX(int i) {
      return byRegister(i) ? imm[i] != 0 : src[i] != 0;
    }

    private boolean hasBadOffset(int i) {
      int code = code(i);
      int by = offset[i];
      if (by == 0) {
        return false;
      }
      if (code == DIVIDE || code == REST) {
        return by != 1;
      }
      boolean bits = by == 8 || by == 16 || by == 32 && isWide(i);
      return code != MOVE || !byRegister(i) || !bits;
    }

    private boolean isBadJump(int i) {
      int code = code(i);
      if (code != ALWAYS && code != CALL && code != END) {
        return code > SIGNED_NOT_ABOVE || hasBadX(i);
      }
      if (byRegister(i) || dst[i] != 0 || src[i] != 0) {
        return true;
      }
      if (code == ALWAYS) {
        return isWide(i) ? imm[i] != 0 : offset[i] != 0;
      }
      if (!isWide(i) || offset[i] != 0) {
        return true;
      }
      return code == CALL ? isBadHelper(imm[i]) : imm[i] != 0;
    }

    private static boolean isBadHelper(int which) {
      return which < FIND || which > PUT || which == 4;
    }
  }

  private static final class Table {
    final boolean isRow;
    final int keySize;
    final int valueSize;
    final int most;
    private final long[] key;
    private final boolean[] used;
    final byte[] octets;

    /** The sizes are the document's, looked at by table(). */
    Table(boolean row, int keyOctets, int valueOctets, int n) {
      isRow = row;
      keySize = keyOctets;
      valueSize = valueOctets;
      most = n;
      key = new long[row ? 0 : n];
      used = new boolean[row ? 0 : n];
      octets = new byte[valueOctets * n];
    }

    int keyCount() {
      int n = 0;
      for (int e = 0; e < used.length; e++) {
        n += used[e] ? 1 : 0;
      }
      return isRow ? most : n;
    }

    /** The number of a key's VALUE; -1 if there is none. */
    int numberOf(long asked) {
      if (isRow) {
        return asked >= 0 && asked < most ? (int) asked : -1;
      }
      for (int e = 0; e < used.length; e++) {
        if (used[e] && key[e] == asked) {
          return e;
        }
      }
      return -1;
    }

    /** Gives a key that is not there the least free VALUE; -1 if there is none. */
    private int addKey(long added) {
      for (int e = 0; e < used.length; e++) {
        if (!used[e]) {
          used[e] = true;
          key[e] = added;
          return e;
        }
      }
      return -1;
    }

    /** The VALUE to be put for a key as mode asks (0 any, 1 new, 2 there); -1 if that cannot be. */
    int numberToPut(long asked, long mode) {
      if (mode < 0 || mode > 2 || isRow && mode == 1) {
        return -1;
      }
      int e = numberOf(asked);
      if (e >= 0) {
        return mode == 1 ? -1 : e;
      }
      return mode == 2 ? -1 : addKey(asked);
    }

    boolean removeKey(long asked) {
      int e = isRow ? -1 : numberOf(asked);
      if (e < 0) {
        return false;
      }
      used[e] = false;
      return true;
    }
  }

  private static final class Memory {
    final byte[] context = new byte[MOST_CONTEXT];
    int contextLength;
    final byte[] stack = new byte[STACK_OCTETS];
    private final Table[] tables = new Table[MOST_TABLES];
    int tableCount;
    long clock;
    // What find() found last: always a row, and a place in it with as many octets as were asked.
    private byte[] found = stack;
    private int foundAt;

    /** There is room: table() has looked. */
    int addTable(Table added) {
      int t = tableCount;
      tables[t] = added;
      tableCount = t + 1;
      return t;
    }

    Table tableNumbered(int t) {
      return t < 0 || t >= tableCount ? null : tables[t];
    }

    /** The number of the TABLE at an address; -1 if there is none. */
    int tableAt(long address) {
      long t = address - TABLES_AT;
      return t < 0 || t >= tableCount ? -1 : (int) t;
    }

    int resizeContext(int n) {
      int before = contextLength;
      for (int i = before; i < n; i++) {
        context[i] = 0;
      }
      contextLength = n;
      return before;
    }

    /** Whether n octets are all there in one piece; the calls below then speak of them. */
    boolean find(long address, int n, boolean toWrite) {
      if (address >= VALUES_AT) {
        return findValue(address - VALUES_AT, n);
      }
      long inStack = address - (STACK_END - STACK_OCTETS);
      if (inStack >= 0) {
        return findIn(stack, inStack, STACK_OCTETS, n);
      }
      return !toWrite && findIn(context, address - CONTEXT_AT, contextLength, n);
    }

    private boolean findIn(byte[] row, long at, int length, int n) {
      if (at < 0 || at > length - n) {
        return false;
      }
      found = row;
      foundAt = (int) at;
      return true;
    }

    private boolean findValue(long place, int n) {
      long t = place >> 24;
      Table table = t < tableCount ? tableNumbered((int) t) : null;
      int e = (int) (place >> 12) & 4095;
      int i = (int) place & 4095;
      if (table == null || e >= table.most || i > table.valueSize - n) {
        return false;
      }
      found = table.octets;
      foundAt = e * table.valueSize + i;
      return true;
    }

    long foundNumber(int n) {
      long number = 0;
      for (int i = n - 1; i >= 0; i--) {
        number = number << 8 | found[foundAt + i] & 255;
      }
      return number;
    }

    void writeFound(long number, int n) {
      for (int i = 0; i < n; i++) {
        found[foundAt + i] = (byte) (number >> 8 * i);
      }
    }

    void copyFoundTo(Table table, int e) {
      for (int i = 0; i < table.valueSize; i++) {
        table.octets[e * table.valueSize + i] = found[foundAt + i];
      }
    }
  }

  private static final class Machine {
    private final Program program;
    private final Memory memory;
    final long[] registers = new long[REGISTERS];
    private final long[] puts = new long[KEPT_PUTS];
    int putCount;
    int status;
    int slot;
    int steps;

    Machine(Program slots, Memory octets) {
      program = slots;
      memory = octets;
    }

    void begin() {
      Arrays.fill(registers, 0);
      registers[1] = CONTEXT_AT;
      registers[10] = STACK_END;
      Arrays.fill(memory.stack, (byte) 0);
      putCount = 0;
      slot = 0;
      steps = 0;
      status = RUNNING;
    }

    long keptPut(int i) {
      int kept = Math.min(putCount, KEPT_PUTS);
      return i < 0 || i >= kept ? 0 : puts[(putCount - kept + i) % KEPT_PUTS];
    }

    int advance() {
      int came = program.has(slot) ? doSlot(slot) : FAULT_SLOT;
      if (came == RUNNING || came == ENDED) {
        steps++;
      }
      status = came;
      return came;
    }

    private int doSlot(int i) {
      if (program.isBad(i)) {
        return FAULT_BAD;
      }
      switch (program.op[i] & 7) {
        case 0:
          return doPair(i);
        case 1:
          return doLoad(i);
        case 2:
          return doPut(i, program.imm[i]);
        case 3:
          return program.isPlainPut(i) ? doPut(i, registers[program.src[i]]) : doChange(i);
        case 4:
        case 7:
          return doArithmetic(i);
        default:
          return program.code(i) == CALL ? doCall(i, program.imm[i]) : doJump(i);
      }
    }

    private int goTo(int next) {
      slot = next;
      return RUNNING;
    }

    private long x(int i) {
      return program.byRegister(i) ? registers[program.src[i]] : program.imm[i];
    }

    private int doPair(int i) {
      int imm = program.imm[i];
      boolean isTable = program.src[i] == 1;
      if (!program.has(i + 1)) {
        return FAULT_SLOT;
      }
      if (isTable && memory.tableNumbered(imm) == null) {
        return FAULT_ACCESS;
      }
      long number = (long) program.imm[i + 1] << 32 | imm & LOW_HALF;
      registers[program.dst[i]] = isTable ? TABLES_AT + imm : number;
      return goTo(i + 2);
    }

    private int doLoad(int i) {
      int n = program.width(i);
      if (!memory.find(registers[program.src[i]] + program.offset[i], n, false)) {
        return FAULT_ACCESS;
      }
      long number = memory.foundNumber(n);
      registers[program.dst[i]] = program.isSignedLoad(i) ? Numbers.withSign(number, 8 * n) : number;
      return goTo(i + 1);
    }

    private int doPut(int i, long number) {
      int n = program.width(i);
      if (!memory.find(registers[program.dst[i]] + program.offset[i], n, true)) {
        return FAULT_ACCESS;
      }
      memory.writeFound(number, n);
      return goTo(i + 1);
    }

    private int doChange(int i) {
      int n = program.width(i);
      int how = program.imm[i];
      if (!memory.find(registers[program.dst[i]] + program.offset[i], n, true)) {
        return FAULT_ACCESS;
      }
      long stood = memory.foundNumber(n);
      long given = registers[program.src[i]];
      if (how == COMPARE_EXCHANGE) {
        long asked = n == 8 ? registers[0] : registers[0] & LOW_HALF;
        memory.writeFound(stood == asked ? given : stood, n);
        registers[0] = stood;
        return goTo(i + 1);
      }
      memory.writeFound(how == EXCHANGE ? given : Numbers.make(how >> 4, true, 0, stood, given), n);
      if ((how & 1) != 0) {
        registers[program.src[i]] = stood;
      }
      return goTo(i + 1);
    }

    private int doArithmetic(int i) {
      int code = program.code(i);
      int d = program.dst[i];
      if (code == TURN) {
        boolean around = program.isWide(i) || program.byRegister(i);
        registers[d] = Numbers.turn(registers[d], program.imm[i], around);
      } else {
        registers[d] = Numbers.make(code, program.isWide(i), program.offset[i], registers[d], x(i));
      }
      return goTo(i + 1);
    }

    private int doJump(int i) {
      int code = program.code(i);
      if (code == END) {
        return ENDED;
      }
      boolean jumps = code == ALWAYS
          || Numbers.holds(code, program.isWide(i), registers[program.dst[i]], x(i));
      return goTo(jumps ? i + 1 + program.distance(i) : i + 1);
    }

    private int doCall(int i, int which) {
      if (which == CLOCK) {
        return comeBack(i, memory.clock);
      }
      if (which == PUT) {
        // The count could wrap around long after the 512th call: floorMod() is never below 0.
        puts[Math.floorMod(putCount, KEPT_PUTS)] = registers[1];
        putCount++;
        return comeBack(i, 0);
      }
      int t = memory.tableAt(registers[1]);
      Table table = memory.tableNumbered(t);
      if (table == null || !memory.find(registers[2], table.keySize, false)) {
        return FAULT_ACCESS;
      }
      long key = memory.foundNumber(table.keySize);
      if (which == FIND) {
        int e = table.numberOf(key);
        return comeBack(i, e < 0 ? 0 : VALUES_AT + ((long) t << 24) + ((long) e << 12));
      }
      if (which == REMOVE) {
        return comeBack(i, table.removeKey(key) ? 0 : -1);
      }
      if (!memory.find(registers[3], table.valueSize, false)) {
        return FAULT_ACCESS;
      }
      int e = table.numberToPut(key, registers[4]);
      if (e >= 0) {
        memory.copyFoundTo(table, e);
      }
      return comeBack(i, e < 0 ? -1 : 0);
    }

    private int comeBack(int i, long answer) {
      registers[0] = answer;
      for (int r = 1; r <= 5; r++) {
        registers[r] = 0;
      }
      return goTo(i + 1);
    }
  }

  /** NUMBERS l .. h and m .. n, and the NUMBER low .. high that comes of them, all without sign. */
  private static final class Span {
    long low;
    long high;
    private long l;
    private long h;
    private long m;
    private long n;
    private long most;

    void first(long from, long to) {
      l = from;
      h = to;
    }

    void second(long from, long to) {
      m = from;
      n = to;
    }

    private void become(long from, long to) {
      low = from;
      high = to;
    }

    private void becomeAll() {
      low = 0;
      high = most;
    }

    void turn(int bits, boolean around) {
      if (l == h) {
        long one = Numbers.turn(l, bits, around);
        become(one, one);
      } else {
        become(0, bits == 64 ? -1 : (1L << bits) - 1);
      }
    }

    void make(int code, boolean wide, int offset) {
      most = wide ? -1 : LOW_HALF;
      if (!wide) {
        cutHalves();
      }
      if (l == h && m == n) {
        long one = Numbers.make(code, wide, offset, l, m);
        become(one, one);
      } else if (code == DIVIDE || code == REST) {
        makeDivided(code, offset);
      } else if (code == LEFT || code == RIGHT || code == SIGNED_RIGHT) {
        makeShifted(code, wide);
      } else {
        makeOther(code, offset);
      }
    }

    private void cutHalves() {
      if (l == h) {
        first(l & LOW_HALF, h & LOW_HALF);
      } else if (Numbers.below(LOW_HALF, h)) {
        first(0, LOW_HALF);
      }
      if (m == n) {
        second(m & LOW_HALF, n & LOW_HALF);
      } else if (Numbers.below(LOW_HALF, n)) {
        second(0, LOW_HALF);
      }
    }

    private void makeDivided(int code, int offset) {
      if (offset == 1) {
        becomeAll();
      } else if (m != n || m == 0) {
        become(0, h);
      } else if (code == DIVIDE) {
        become(Numbers.quotient(l, m), Numbers.quotient(h, m));
      } else if (Numbers.below(h, m)) {
        become(l, h);
      } else {
        become(0, m - 1);
      }
    }

    private void makeShifted(int code, boolean wide) {
      long by = m & (wide ? 63 : 31);
      if (code == LEFT) {
        long up = h << by;
        if (m == n && up >>> by == h && !Numbers.below(most, up)) {
          become(l << by, up);
        } else {
          becomeAll();
        }
      } else if (code == SIGNED_RIGHT && Numbers.below(most >>> 1, h)) {
        becomeAll();
      } else if (m == n) {
        become(l >>> by, h >>> by);
      } else {
        become(0, h);
      }
    }

    private void makeOther(int code, int offset) {
      long both = Numbers.below(h, n) ? n : h;
      switch (code) {
        case ADD:
          become(l + m, h + n);
          // Behind 2^64 the sum is below each of its parts.
          if (Numbers.below(h + n, h) || Numbers.below(most, h + n)) {
            becomeAll();
          }
          break;
        case SUBTRACT:
          become(l - n, h - m);
          if (Numbers.below(l, n)) {
            becomeAll();
          }
          break;
        case MULTIPLY:
          become(l * m, h * n);
          if (Numbers.below(LOW_HALF, both) || Numbers.below(most, h * n)) {
            becomeAll();
          }
          break;
        case AND:
          become(0, Numbers.below(h, n) ? h : n);
          break;
        case OR:
          become(Numbers.below(l, m) ? m : l, onesFor(both));
          break;
        case XOR:
          become(0, onesFor(both));
          break;
        case MOVE:
          become(m, n);
          if (offset != 0 && !Numbers.below(n, 1L << (offset - 1))) {
            becomeAll();
          }
          break;
        default:
          becomeAll();
      }
    }

    /** The least 2^i - 1 that is not below x. */
    private static long onesFor(long x) {
      long ones = x;
      for (int by = 1; by < 64; by *= 2) {
        ones |= ones >>> by;
      }
      return ones;
    }

    /** What of l .. h compares so to k becomes low .. high; false if nothing is left. */
    boolean narrow(int code, long k) {
      become(l, h);
      switch (code) {
        case EQUAL:
          become(k, k);
          return !Numbers.below(k, l) && !Numbers.below(h, k);
        case UNEQUAL:
          return takeAway(k);
        case ABOVE:
          low = Numbers.below(k, l) ? l : k + 1;
          return Numbers.below(k, h);
        case NOT_BELOW:
          low = Numbers.below(k, l) ? l : k;
          return !Numbers.below(h, k);
        case BELOW:
          high = Numbers.below(h, k) ? h : k - 1;
          return Numbers.below(l, k);
        default:
          high = Numbers.below(h, k) ? h : k;
          return !Numbers.below(k, l);
      }
    }

    private boolean takeAway(long k) {
      if (l == h) {
        return l != k;
      }
      if (l == k) {
        low = l + 1;
      } else if (h == k) {
        high = h - 1;
      }
      return true;
    }
  }

  /**
   * What may be before a slot. Places 0 .. 10 are the registers, those behind them the cells of the
   * STACK. A place is its tag (KIND, TABLE and slot of the call in one number, so that alike tags
   * are one comparison), low and high. The octets of a cell that holds a NUMBER always stand as
   * known, those of one that holds another as not: so a cell that holds nothing more leaves just
   * the octets that the document asks for.
   */
  private static final class Scene {
    private static final int PLACES = REGISTERS + CELLS;
    private static final int KNOWN_WORDS = STACK_OCTETS / 64;

    boolean come;
    final int[] tag = new int[PLACES];
    final long[] low = new long[PLACES];
    final long[] high = new long[PLACES];
    // A bit for each octet, and one for each cell.
    private final long[] known = new long[KNOWN_WORDS];
    private long held;

    void begin() {
      Arrays.fill(tag, NONE);
      Arrays.fill(low, 0);
      Arrays.fill(high, 0);
      Arrays.fill(known, 0);
      held = 0;
      write(1, CONTEXT, 0, 0);
      write(10, STACK, 0, 0);
      come = true;
    }

    static int tagOf(int kind, int t, int c) {
      return kind | t << 4 | c << 8;
    }

    int kind(int p) {
      return tag[p] & 15;
    }

    int tableOf(int p) {
      return tag[p] >> 4 & 15;
    }

    boolean isNumber(int p) {
      return tag[p] == NUMBER;
    }

    boolean isNone(int p) {
      return tag[p] == NONE;
    }

    boolean isOne(int p) {
      return low[p] == high[p];
    }

    void write(int p, int newTag, long from, long to) {
      tag[p] = newTag;
      low[p] = from;
      high[p] = to;
    }

    void move(int to, int from) {
      write(to, tag[from], low[from], high[from]);
    }

    /** A NUMBER of n octets, whatever it is. */
    void writeAny(int p, int n) {
      write(p, NUMBER, 0, n == 8 ? -1 : (1L << 8 * n) - 1);
    }

    void copyFrom(Scene other) {
      int used = other.held == 0 ? REGISTERS : PLACES;
      System.arraycopy(other.tag, 0, tag, 0, used);
      System.arraycopy(other.low, 0, low, 0, used);
      System.arraycopy(other.high, 0, high, 0, used);
      System.arraycopy(other.known, 0, known, 0, KNOWN_WORDS);
      held = other.held;
      come = true;
    }

    void joinWith(Scene other) {
      for (int r = 0; r < REGISTERS; r++) {
        joinPlace(r, other);
      }
      for (int w = 0; w < KNOWN_WORDS; w++) {
        known[w] &= other.known[w];
      }
      held &= other.held;
      for (int c = 0; c < CELLS && held != 0; c++) {
        if (holds(c)) {
          joinPlace(REGISTERS + c, other);
          if (isNone(REGISTERS + c)) {
            holdNothing(c);
          }
        }
      }
    }

    private void joinPlace(int p, Scene other) {
      long from = other.low[p];
      long to = other.high[p];
      int kind = kind(p);
      if (tag[p] != other.tag[p]) {
        write(p, NONE, 0, 0);
      } else if (kind == NUMBER) {
        low[p] = Numbers.below(from, low[p]) ? from : low[p];
        high[p] = Numbers.below(high[p], to) ? to : high[p];
      } else if (kind == CONTEXT || kind == VALUE) {
        low[p] = Math.min(low[p], from);
        high[p] = Math.max(high[p], to);
      } else if (low[p] != from) {
        write(p, NONE, 0, 0);
      }
    }

    boolean holds(int c) {
      return (held >>> c & 1) != 0;
    }

    private void holdNothing(int c) {
      held &= ~(1L << c);
    }

    void hold(int c, int from) {
      held |= 1L << c;
      move(REGISTERS + c, from);
      knowCell(c, isNumber(from));
    }

    private void knowCell(int c, boolean all) {
      long octets = 255L << 8 * (c & 7);
      known[c >> 3] = all ? known[c >> 3] | octets : known[c >> 3] & ~octets;
    }

    /** Octets at .. at + n - 1 (of 512) are put by other ways than a whole register. */
    void putOctets(int at, int n) {
      for (int o = at; o < at + n; o++) {
        known[o >> 6] |= 1L << (o & 63);
        holdNothing(o >> 3);
      }
    }

    boolean areKnown(int at, int n) {
      for (int o = at; o < at + n; o++) {
        if (!isKnown(o)) {
          return false;
        }
      }
      return true;
    }

    private boolean isKnown(int o) {
      return (known[o >> 6] >>> (o & 63) & 1) != 0;
    }

    /** All that is the VALUE or 0 of this tag becomes one of both. */
    void settle(int asked, boolean zero) {
      int newTag = zero ? NUMBER : tagOf(VALUE, asked >> 4 & 15, 0);
      for (int r = 0; r < REGISTERS; r++) {
        if (tag[r] == asked) {
          write(r, newTag, 0, 0);
        }
      }
      for (int c = 0; c < CELLS && held != 0; c++) {
        if (holds(c) && tag[REGISTERS + c] == asked) {
          write(REGISTERS + c, newTag, 0, 0);
          knowCell(c, zero);
        }
      }
    }

    long tell(int r, int what) {
      int kind = kind(r);
      boolean ranged = kind == NUMBER || kind == CONTEXT || kind == VALUE;
      switch (what) {
        case 0:
          return kind;
        case 1:
          return ranged || kind == STACK ? low[r] : 0;
        case 2:
          return ranged ? high[r] : 0;
        case 3:
          return tableOf(r);
        default:
          return tag[r] >> 8;
      }
    }

    int tellOctet(int o) {
      int c = o >> 3;
      if (holds(c)) {
        return isNumber(REGISTERS + c) ? 2 : 3;
      }
      return isKnown(o) ? 1 : 0;
    }
  }

  private static final class Judge {
    private static final long MOST_ADDED = 1L << 16;
    private static final long FARTHEST = 1L << 20;

    private final Program program;
    private final Memory memory;
    // Made when a slot is first come to, then used again by every later judge().
    private final Scene[] before = new Scene[MOST_SLOTS];
    private final boolean[] isSecond = new boolean[MOST_SLOTS];
    private final Scene now = new Scene();
    private final Scene aside = new Scene();
    private final Span span = new Span();
    int refusedAt = -1;
    // The ways of the slot that is judged: it goes on with now, and jumps with aside.
    private boolean goesOn;
    private long onTo;
    private boolean jumps;
    private long jumpTo;

    Judge(Program slots, Memory octets) {
      program = slots;
      memory = octets;
    }

    /** What was found before slot i; null if it was not come to. */
    Scene sceneAt(int i) {
      if (i < 0 || i >= MOST_SLOTS) {
        return null;
      }
      Scene scene = before[i];
      return scene == null || !scene.come ? null : scene;
    }

    int follow() {
      forgetScenes();
      if (program.count == 0) {
        refusedAt = 0;
        return BY_SLOT;
      }
      markSeconds();
      now.begin();
      before[0] = before[0] == null ? new Scene() : before[0];
      before[0].copyFrom(now);
      for (int i = 0; i < program.count; i++) {
        Scene scene = sceneAt(i);
        int refusal = scene == null ? 0 : judgeSlot(i, scene);
        if (refusal == 0 && scene != null) {
          refusal = goOnBothWays(i);
        }
        if (refusal != 0) {
          refusedAt = i;
          return refusal;
        }
      }
      return 0;
    }

    private void forgetScenes() {
      refusedAt = -1;
      for (int i = 0; i < MOST_SLOTS; i++) {
        if (before[i] != null) {
          before[i].come = false;
        }
      }
    }

    private void markSeconds() {
      boolean second = false;
      for (int i = 0; i < program.count; i++) {
        isSecond[i] = second;
        second = !second && program.op[i] == OP_WIDE;
      }
    }

    private int judgeSlot(int i, Scene scene) {
      if (program.isBad(i)) {
        return BY_BAD;
      }
      now.copyFrom(scene);
      goesOn = true;
      onTo = i + 1;
      jumps = false;
      switch (program.op[i] & 7) {
        case 0:
          return judgePair(i);
        case 1:
          return judgeLoad(i);
        case 2:
          return judgePut(i, false);
        case 3:
          return program.isPlainPut(i) ? judgePut(i, true) : judgeChange(i);
        case 4:
        case 7:
          return judgeArithmetic(i);
        default:
          return program.code(i) == CALL ? judgeCall(i, program.imm[i]) : judgeJump(i);
      }
    }

    private int goOnBothWays(int i) {
      // Both are looked at before either is gone: a refused slot is gone on from by none of its ways.
      if (goesOn && !canGoOn(i, onTo) || jumps && !canGoOn(i, jumpTo)) {
        return BY_SLOT;
      }
      if (goesOn) {
        comeTo((int) onTo, now);
      }
      if (jumps) {
        comeTo((int) jumpTo, aside);
      }
      return 0;
    }

    private boolean canGoOn(int i, long to) {
      return to > i && to < program.count && !isSecond[(int) to];
    }

    /** The slot is there: canGoOn() has looked. */
    private void comeTo(int next, Scene with) {
      if (before[next] == null) {
        before[next] = new Scene();
      }
      if (before[next].come) {
        before[next].joinWith(with);
      } else {
        before[next].copyFrom(with);
      }
    }

    private int judgePair(int i) {
      int imm = program.imm[i];
      boolean isTable = program.src[i] == 1;
      if (isTable && memory.tableNumbered(imm) == null) {
        return BY_ACCESS;
      }
      if (!program.has(i + 1)) {
        return BY_SLOT;
      }
      if (isTable) {
        now.write(program.dst[i], Scene.tagOf(TABLE, imm, 0), 0, 0);
      } else {
        long number = (long) program.imm[i + 1] << 32 | imm & LOW_HALF;
        now.write(program.dst[i], NUMBER, number, number);
      }
      onTo = i + 2;
      return 0;
    }

    private boolean canBeReached(int r) {
      int kind = now.kind(r);
      return kind == CONTEXT || kind == STACK || kind == VALUE;
    }

    /** Whether n octets at register r (one that can be reached) and offset are surely there. */
    private boolean isThere(int r, int offset, int n, boolean toWrite) {
      long from = now.low[r] + offset;
      long behind = now.high[r] + offset + n;
      switch (now.kind(r)) {
        case CONTEXT:
          return !toWrite && from >= 0 && behind <= memory.contextLength;
        case STACK:
          return from >= -STACK_OCTETS && behind <= 0;
        default:
          Table table = memory.tableNumbered(now.tableOf(r));
          return table != null && from >= 0 && behind <= table.valueSize;
      }
    }

    /** Where in the STACK register r (that is there) and offset stand, counted from its first octet. */
    private int inStack(int r, int offset) {
      return (int) now.low[r] + offset + STACK_OCTETS;
    }

    private boolean isHeldWhole(int at, int n) {
      return n == 8 && (at & 7) == 0 && now.holds(at >> 3);
    }

    private boolean canBeRead(int r, int offset, int n) {
      if (!isThere(r, offset, n, false)) {
        return false;
      }
      if (now.kind(r) != STACK) {
        return true;
      }
      int at = inStack(r, offset);
      return isHeldWhole(at, n) || now.areKnown(at, n);
    }

    private int judgeLoad(int i) {
      int d = program.dst[i];
      int s = program.src[i];
      int n = program.width(i);
      int offset = program.offset[i];
      if (now.isNone(s)) {
        return BY_NONE;
      }
      if (!canBeReached(s)) {
        return BY_KIND;
      }
      if (!canBeRead(s, offset, n)) {
        return BY_ACCESS;
      }
      int at = now.kind(s) == STACK ? inStack(s, offset) : -1;
      if (at >= 0 && isHeldWhole(at, n)) {
        now.move(d, REGISTERS + (at >> 3));
      } else {
        now.writeAny(d, program.isSignedLoad(i) ? 8 : n);
      }
      return 0;
    }

    private int judgePut(int i, boolean fromRegister) {
      int d = program.dst[i];
      int s = program.src[i];
      int n = program.width(i);
      int offset = program.offset[i];
      if (now.isNone(d) || fromRegister && now.isNone(s)) {
        return BY_NONE;
      }
      boolean inStack = now.kind(d) == STACK;
      boolean whole = program.op[i] == OP_PUT_EIGHT && inStack && (now.low[d] + offset & 7) == 0;
      if (!canBeReached(d) || fromRegister && !now.isNumber(s) && !whole) {
        return BY_KIND;
      }
      if (!isThere(d, offset, n, true)) {
        return BY_ACCESS;
      }
      if (whole) {
        now.hold(inStack(d, offset) >> 3, s);
      } else if (inStack) {
        now.putOctets(inStack(d, offset), n);
      }
      return 0;
    }

    private int judgeChange(int i) {
      int d = program.dst[i];
      int s = program.src[i];
      int n = program.width(i);
      int offset = program.offset[i];
      int how = program.imm[i];
      boolean compares = how == COMPARE_EXCHANGE;
      if (now.isNone(d) || now.isNone(s) || compares && now.isNone(0)) {
        return BY_NONE;
      }
      boolean inStack = now.kind(d) == STACK;
      if (!inStack && now.kind(d) != VALUE || !now.isNumber(s) || compares && !now.isNumber(0)) {
        return BY_KIND;
      }
      if (!isThere(d, offset, n, true) || inStack && !now.areKnown(inStack(d, offset), n)) {
        return BY_ACCESS;
      }
      if (inStack) {
        now.putOctets(inStack(d, offset), n);
      }
      if ((how & 1) != 0) {
        now.writeAny(compares ? 0 : s, n);
      }
      return 0;
    }

    private int judgeArithmetic(int i) {
      int code = program.code(i);
      int d = program.dst[i];
      int s = program.src[i];
      // The bit 8 of 13 asks for no register.
      boolean byRegister = code != TURN && program.byRegister(i);
      boolean moves = code == MOVE;
      if (!moves && now.isNone(d) || byRegister && now.isNone(s)) {
        return BY_NONE;
      }
      if (moves && byRegister && program.isWide(i) && program.offset[i] == 0) {
        now.move(d, s);
      } else if ((moves || now.isNumber(d)) && (!byRegister || now.isNumber(s))) {
        makeNumber(i, byRegister);
      } else if (!shiftPlace(i, byRegister)) {
        return BY_KIND;
      }
      return 0;
    }

    private void makeNumber(int i, boolean byRegister) {
      int code = program.code(i);
      int d = program.dst[i];
      int s = program.src[i];
      long imm = program.imm[i];
      // MOVE does not look at DST: any one number stands for it.
      boolean moves = code == MOVE;
      span.first(moves ? 0 : now.low[d], moves ? 0 : now.high[d]);
      span.second(byRegister ? now.low[s] : imm, byRegister ? now.high[s] : imm);
      if (code == TURN) {
        span.turn(program.imm[i], program.isWide(i) || program.byRegister(i));
      } else {
        span.make(code, program.isWide(i), program.offset[i]);
      }
      now.write(d, NUMBER, span.low, span.high);
    }

    /** A CONTEXT, STACK or VALUE with a NUMBER, added or taken away; false if that may not be done. */
    private boolean shiftPlace(int i, boolean byRegister) {
      int code = program.code(i);
      int d = program.dst[i];
      int s = program.src[i];
      boolean changed = now.isNumber(d);
      int p = changed ? s : d;
      int number = changed ? d : s;
      if (!program.isWide(i) || code != ADD && (code != SUBTRACT || changed) || !canBeReached(p)) {
        return false;
      }
      if (byRegister ? !isSmall(number) : Math.abs((long) program.imm[i]) > MOST_ADDED) {
        return false;
      }
      long from = byRegister ? now.low[number] : program.imm[i];
      long to = byRegister ? now.high[number] : program.imm[i];
      if (now.kind(p) == STACK && from != to) {
        return false;
      }
      long low = now.low[p] + (code == ADD ? from : -to);
      long high = now.high[p] + (code == ADD ? to : -from);
      now.write(d, now.tag[p], low, high);
      return low >= -FARTHEST && high <= FARTHEST;
    }

    private boolean isSmall(int r) {
      return now.isNumber(r) && !Numbers.below(MOST_ADDED, now.high[r]);
    }

    private int judgeJump(int i) {
      int code = program.code(i);
      if (code == END) {
        goesOn = false;
        return now.isNumber(0) ? 0 : BY_END;
      }
      if (code == ALWAYS) {
        onTo = (long) i + 1 + program.distance(i);
        return 0;
      }
      return judgeBranch(i);
    }

    private int judgeBranch(int i) {
      int code = program.code(i);
      int d = program.dst[i];
      int s = program.src[i];
      boolean byRegister = program.byRegister(i);
      if (now.isNone(d) || byRegister && now.isNone(s)) {
        return BY_NONE;
      }
      boolean equality = code == EQUAL || code == UNEQUAL;
      boolean byZero = !byRegister && program.imm[i] == 0;
      if (now.kind(d) == VALUE_OR_ZERO && equality && byZero && program.isWide(i)) {
        goBothWays(i);
        settleBoth(now.tag[d], code == EQUAL);
        return 0;
      }
      if (!now.isNumber(d) || byRegister && !now.isNumber(s)) {
        return BY_KIND;
      }
      goBothWays(i);
      if (program.isWide(i) && (equality || comparesUnsigned(code))) {
        if (!byRegister || now.isOne(s)) {
          narrowBoth(d, code, byRegister ? now.low[s] : program.imm[i]);
        } else if (now.isOne(d)) {
          narrowBoth(s, changedAbout(code), now.low[d]);
        }
      }
      return 0;
    }

    private void goBothWays(int i) {
      aside.copyFrom(now);
      jumps = true;
      jumpTo = (long) i + 1 + program.offset[i];
    }

    private static boolean comparesUnsigned(int code) {
      return code == ABOVE || code == NOT_BELOW || code == BELOW || code == NOT_ABOVE;
    }

    private static int changedAbout(int code) {
      switch (code) {
        case ABOVE:
          return BELOW;
        case NOT_BELOW:
          return NOT_ABOVE;
        case BELOW:
          return ABOVE;
        case NOT_ABOVE:
          return NOT_BELOW;
        default:
          return code;
      }
    }

    private static int opposite(int code) {
      switch (code) {
        case EQUAL:
          return UNEQUAL;
        case UNEQUAL:
          return EQUAL;
        case ABOVE:
          return NOT_ABOVE;
        case NOT_BELOW:
          return BELOW;
        case BELOW:
          return NOT_BELOW;
        default:
          return ABOVE;
      }
    }

    private void settleBoth(int tag, boolean jumpsAtZero) {
      now.settle(tag, !jumpsAtZero);
      aside.settle(tag, jumpsAtZero);
    }

    /** It jumps if register r compares so to k: each way has only what r can be there. */
    private void narrowBoth(int r, int code, long k) {
      span.first(now.low[r], now.high[r]);
      goesOn = span.narrow(opposite(code), k);
      now.write(r, NUMBER, span.low, span.high);
      jumps = span.narrow(code, k);
      aside.write(r, NUMBER, span.low, span.high);
    }

    private int judgeCall(int i, int which) {
      int given = given(which);
      for (int r = 1; r <= given; r++) {
        if (now.isNone(r)) {
          return BY_NONE;
        }
      }
      if (which == PUT && !now.isNumber(1)) {
        return BY_KIND;
      }
      int t = now.tableOf(1);
      int refusal = which == PUT || which == CLOCK ? 0 : judgeTableCall(which);
      if (refusal != 0) {
        return refusal;
      }
      if (which == FIND) {
        now.write(0, Scene.tagOf(VALUE_OR_ZERO, t, i), 0, 0);
      } else {
        now.writeAny(0, 8);
      }
      for (int r = 1; r <= 5; r++) {
        now.write(r, NONE, 0, 0);
      }
      return 0;
    }

    /** How many registers, from 1 on, a helper reads. */
    private static int given(int which) {
      switch (which) {
        case CLOCK:
          return 0;
        case PUT:
          return 1;
        case UPDATE:
          return 4;
        default:
          return 2;
      }
    }

    private int judgeTableCall(int which) {
      Table table = memory.tableNumbered(now.tableOf(1));
      if (now.kind(1) != TABLE || table == null || !canBeReached(2)) {
        return BY_KIND;
      }
      boolean updates = which == UPDATE;
      if (updates && (!canBeReached(3) || !now.isNumber(4))) {
        return BY_KIND;
      }
      if (!canBeRead(2, 0, table.keySize) || updates && !canBeRead(3, 0, table.valueSize)) {
        return BY_ACCESS;
      }
      return 0;
    }
  }
}
