import java.util.ArrayList;
import java.util.List;

/** "ANSWERS below 0 are refusals and change nothing: -1 there is none, -2 outside the range, -3 not now, -4 no room; the first that fits." */
public final class RefusalsTest {
  private static final Due due = new Due();
  private static final int MIN = Integer.MIN_VALUE;
  private static final int MAX = Integer.MAX_VALUE;

  public static void main(String[] args) {
    for (State s : STATES) { changeNothing(s); }
    firstOfFeed();
    firstOfAlter();
    firstOfTable();
    firstOfContext();
    firstOfPoke();
    firstOfRun();
    firstOfMay();
    firstOfCell();
    due.end();
  }

  /** An object, how many slots, TABLES and octets of the CONTEXT it has, whether it runs, and its CLOCK. */
  private record State(String name, Seen.Maker maker, int slots, int tables, int context, boolean runs, long clock) {}

  private static final State[] STATES = {
    new State("new", JudgedCode::new, 0, 0, 0, false, 0),
    new State("IDLE", () -> made(0), 8, 2, 8, false, 5),
    new State("RUNNING", () -> made(1), 8, 2, 8, true, 5),
    new State("ENDED", () -> made(2), 8, 2, 8, false, 5),
    new State("at a FAULT", () -> made(3), 8, 2, 8, false, 5),
    new State("REFUSED", () -> made(4), 8, 2, 8, true, 5),
    new State("full", RefusalsTest::full, 200, 4, 256, false, 1L << 62),
    new State("full and RUNNING", () -> { JudgedCode x = full(); x.start(); x.run(3); return x; }, 200, 4, 256, true, 1L << 62)};

  /** A program of 8 slots, judged, that leaves something in registers, STACK, a VALUE and what is PUT. */
  private static JudgedCode made(int how) {
    Asm a = new Asm();
    a.x.context(8);
    a.x.poke(2, 9);
    a.x.table(0, 4, 8, 2);
    a.x.table(1, 8, 4, 3);
    a.x.tick(5);
    a.set(6, 66).put(8, 10, -8, 6).put(8, 10, -16, 1).set(1, 8).call(6).load(8, 7, 10, -8);
    if (how == 3) { a.load(1, 0, 10, 0).end(); } else if (how == 4) { a.copy(0, 3).end(); } else { a.set(0, 1).end(); }
    a.x.judge();
    if (how > 0) {
      a.x.start();
      a.x.run(how == 1 || how == 4 ? 6 : 99);
    }
    return a.x;
  }

  private static JudgedCode full() {
    Asm a = new Asm();
    a.x.context(256);
    a.x.poke(255, 7);
    a.x.tick(1L << 62);
    for (int t = 0; t < 4; t++) { a.x.table(t % 2, 4, 2, 2); }
    a.set(3, 1);
    for (int i = 1; i < 199; i++) { a.by(Asm.ADD, 3, 1); }
    a.end();
    a.x.judge();
    return a.x;
  }

  private interface Call { long on(JudgedCode x); }

  private record Refused(String name, Call call, long answer) {}

  private static void add(List<Refused> calls, String name, long answer, Call call) { calls.add(new Refused(name, call, answer)); }

  /** Each call that is refused in this state, in all the ways that it can be. */
  private static List<Refused> refused(State s) {
    List<Refused> calls = new ArrayList<>();
    for (int v : new int[] {-1, 256, MIN, MAX}) {
      add(calls, "feed op " + v, -2, x -> x.feed(v, 0, 0, 0));
      add(calls, "feed regs " + v, -2, x -> x.feed(0, v, 0, 0));
      if (s.slots > 0) {
        add(calls, "alter op " + v, -2, x -> x.alter(0, v, 0, 0, 0));
        add(calls, "alter regs " + v, -2, x -> x.alter(s.slots - 1, 0, v, 0, 0));
      }
      if (s.context > 0) { add(calls, "poke v " + v, -2, x -> x.poke(0, v)); }
      add(calls, "keys " + v, -1, x -> x.keys(v));
    }
    for (int v : new int[] {-32769, 32768, MIN, MAX}) {
      add(calls, "feed offset " + v, -2, x -> x.feed(0, 0, v, 0));
      if (s.slots > 0) { add(calls, "alter offset " + v, -2, x -> x.alter(0, 0, 0, v, 0)); }
    }
    if (s.slots == 200) { add(calls, "feed more", -4, x -> x.feed(0, 0, 0, 0)); }
    for (int v : new int[] {-1, s.slots, MIN, MAX}) { add(calls, "alter " + v, -1, x -> x.alter(v, 0, 0, 0, 0)); }
    for (int v : new int[] {-1, s.slots + 1, MIN, MAX}) { add(calls, "cut " + v, -2, x -> x.cut(v)); }
    addTables(calls, s);
    for (int v : new int[] {-1, 257, MIN, MAX}) { add(calls, "context " + v, -2, x -> x.context(v)); }
    for (int v : new int[] {-1, s.context, MIN, MAX}) { add(calls, "poke " + v, -1, x -> x.poke(v, 1)); }
    for (long v : new long[] {-1, Long.MIN_VALUE, (1L << 62) + 1 - s.clock, Long.MAX_VALUE}) { add(calls, "tick " + v, -2, x -> x.tick(v)); }
    addNow(calls, s);
    return calls;
  }

  private static void addTables(List<Refused> calls, State s) {
    for (int v : new int[] {-1, 2, MIN, MAX}) { add(calls, "table kind " + v, -2, x -> x.table(v, 4, 1, 1)); }
    for (int v : new int[] {-1, 0, 1, 3, 5, 8, MIN, MAX}) { add(calls, "a ROW's key " + v, -2, x -> x.table(0, v, 1, 1)); }
    for (int v : new int[] {-1, 0, 9, MIN, MAX}) { add(calls, "a HASH's key " + v, -2, x -> x.table(1, v, 1, 1)); }
    for (int v : new int[] {-1, 0, 33, MIN, MAX}) {
      for (int kind = 0; kind <= 1; kind++) {
        int k = kind;
        add(calls, "table value " + v, -2, x -> x.table(k, 4, v, 1));
        add(calls, "table n " + v, -2, x -> x.table(k, 4, 1, v));
      }
    }
    if (s.tables == 4) {
      add(calls, "a ROW more", -4, x -> x.table(0, 4, 1, 1));
      add(calls, "a HASH more", -4, x -> x.table(1, 8, 32, 32));
    }
    add(calls, "keys of one more", -1, x -> x.keys(s.tables));
  }

  private static void addNow(List<Refused> calls, State s) {
    for (int v : new int[] {-1, 10001, MIN, MAX}) { add(calls, "run " + v, -2, x -> x.run(v)); }
    for (int v : new int[] {-1, 6, MIN, MAX}) { add(calls, "told " + v, -2, x -> x.told(v)); }
    if (s.runs) {
      for (int v : new int[] {0, s.context, 256}) { add(calls, "context " + v + " now", -3, x -> x.context(v)); }
      for (int v : new int[] {0, 255}) { add(calls, "poke now", -3, x -> x.poke(s.context - 1, v)); }
    } else {
      add(calls, "step", -3, JudgedCode::step);
      for (int v : new int[] {0, 1, 10000}) { add(calls, "run " + v + " now", -3, x -> x.run(v)); }
    }
    if (s.slots == 0) { add(calls, "start", -3, JudgedCode::start); }
    for (int i : new int[] {-1, s.slots, MIN, MAX}) {
      add(calls, "may of slot " + i, -1, x -> x.may(i, 0, 0));
      add(calls, "cell of slot " + i, -1, x -> x.cell(i, -1));
    }
    if (s.slots == 0) { return; }
    for (int v : new int[] {-1, 11, MIN, MAX}) { add(calls, "may of register " + v, -1, x -> x.may(0, v, 0)); }
    for (int v : new int[] {-1, 5, MIN, MAX}) { add(calls, "may of what " + v, -2, x -> x.may(0, 0, v)); }
    for (int v : new int[] {-513, 0, MIN, MAX}) { add(calls, "cell of octet " + v, -1, x -> x.cell(0, v)); }
  }

  private static JudgedCode behind(State s) {
    JudgedCode x = s.maker.make();
    for (Refused r : refused(s)) { r.call.on(x); }
    return x;
  }

  private static void changeNothing(State s) {
    for (Refused r : refused(s)) { due.is(s.name + ": " + r.name, r.call.on(s.maker.make()), r.answer); }
    Seen.alike(due, s.name + ", behind refusals", s.maker, () -> behind(s), true);
    // What cannot be seen at once shows in what comes next.
    if (s.runs) {
      Seen.alike(due, s.name + ", gone on", () -> gone(s.maker.make()), () -> gone(behind(s)), true);
    } else {
      Seen.alike(due, s.name + ", begun", () -> begun(s.maker.make()), () -> begun(behind(s)), true);
    }
  }

  private static JudgedCode gone(JudgedCode x) {
    x.run(99);
    return x;
  }

  private static JudgedCode begun(JudgedCode x) {
    x.judge();
    x.start();
    x.run(9999);
    x.context(256);
    return x;
  }

  // ---- the first that fits ----

  private static void firstOfFeed() {
    JudgedCode x = full();
    due.is("-2 before -4, op", x.feed(256, 0, 0, 0), -2);
    due.is("-2 before -4, regs", x.feed(0, -1, 0, 0), -2);
    due.is("-2 before -4, offset", x.feed(0, 0, 32768, 0), -2);
    due.is("-4", x.feed(255, 255, 32767, MAX), -4);
  }

  private static void firstOfAlter() {
    JudgedCode x = made(0);
    due.is("-1 before -2, op", x.alter(8, 256, 0, 0, 0), -1);
    due.is("-1 before -2, regs", x.alter(-1, 0, 256, 0, 0), -1);
    due.is("-1 before -2, offset", x.alter(200, 0, 0, -32769, 0), -1);
    due.is("-2", x.alter(7, 256, 0, 0, 0), -2);
    due.is("-1 without slots", new JudgedCode().alter(0, 256, 256, 32768, 0), -1);
  }

  private static void firstOfTable() {
    JudgedCode x = full();
    due.is("-2 before -4, kind", x.table(2, 4, 1, 1), -2);
    due.is("-2 before -4, key", x.table(0, 5, 1, 1), -2);
    due.is("-2 before -4, value", x.table(0, 4, 33, 1), -2);
    due.is("-2 before -4, n", x.table(1, 4, 1, 0), -2);
    due.is("-4", x.table(1, 4, 1, 1), -4);
  }

  private static void firstOfContext() {
    JudgedCode x = made(1);
    due.is("-2 before -3, below", x.context(-1), -2);
    due.is("-2 before -3, above", x.context(257), -2);
    due.is("-3", x.context(256), -3);
    due.is("-3, though it would stay", x.context(8), -3);
  }

  private static void firstOfPoke() {
    JudgedCode x = made(1);
    due.is("-1 before -2 and -3", x.poke(8, 256), -1);
    due.is("-1 before -3", x.poke(-1, 0), -1);
    due.is("-2 before -3", x.poke(7, 256), -2);
    due.is("-3", x.poke(7, 255), -3);
    x = made(2);
    due.is("-1 before -2", x.poke(8, -1), -1);
    due.is("-2", x.poke(7, -1), -2);
  }

  private static void firstOfRun() {
    for (int how : new int[] {0, 2, 3}) {
      JudgedCode x = made(how);
      due.is("-2 before -3, below", x.run(-1), -2);
      due.is("-2 before -3, above", x.run(10001), -2);
      due.is("-3", x.run(10000), -3);
    }
    JudgedCode x = new JudgedCode();
    due.is("-2 before -3, without slots", x.run(-1), -2);
    due.is("-3 without slots", x.run(0), -3);
  }

  private static void firstOfMay() {
    JudgedCode x = made(0);
    due.is("-1 before -2, slot", x.may(8, 0, 5), -1);
    due.is("-1 before -2, register", x.may(0, 11, -1), -1);
    due.is("-2", x.may(7, 10, 5), -2);
    due.is("-2 before any judge()", new Asm().end().x.may(0, 0, 5), -2);
    due.is("-1 without slots", new JudgedCode().may(0, 0, 5), -1);
  }

  private static void firstOfCell() {
    due.is("-1 without slots", new JudgedCode().cell(0, -1), -1);
    due.is("0 before any judge()", new Asm().end().x.cell(0, -1), 0);
    due.is("-1 of octet 0, before any judge()", new Asm().end().x.cell(0, 0), -1);
  }
}
