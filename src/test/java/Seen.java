import java.util.ArrayList;
import java.util.List;

/**
 * All that can be seen of an object. An object is good for 512 calls, so it is made again, by the
 * same calls, as often as that takes.
 */
final class Seen {
  interface Maker { JudgedCode make(); }

  private interface Look { long at(JudgedCode x); }

  private record Named(String name, Look look) {}

  private static final int LOOKS_AT_ONCE = 100;

  /** The answers, each with its call; the STATUS too, if asked. */
  static List<String> of(Maker maker, boolean status) {
    List<Named> looks = looks(maker.make(), status);
    List<String> answers = new ArrayList<>();
    JudgedCode x = null;
    for (int k = 0; k < looks.size(); k++) {
      if (k % LOOKS_AT_ONCE == 0) { x = maker.make(); }
      answers.add(looks.get(k).name + " = " + looks.get(k).look.at(x));
    }
    return answers;
  }

  /** Both makers leave what looks alike. */
  static void alike(Due due, String what, Maker one, Maker other, boolean status) {
    List<String> before = of(one, status);
    List<String> behind = of(other, status);
    due.is(what + ": how much is seen", behind.size(), before.size());
    for (int k = 0; k < before.size() && k < behind.size(); k++) {
      due.holds(what + ": " + before.get(k) + " before, but " + behind.get(k), before.get(k).equals(behind.get(k)));
    }
  }

  private static List<Named> looks(JudgedCode x, boolean status) {
    List<Named> looks = new ArrayList<>();
    int tables = x.told(4);
    int slots = x.told(3);
    for (int w = status ? 0 : 1; w <= 5; w++) { int what = w; add(looks, "told " + w, y -> y.told(what)); }
    for (int r = 0; r <= 10; r++) { int i = r; add(looks, "register " + r, y -> y.register(i)); }
    for (int i = 0; i < 32; i++) { int at = i; add(looks, "putAt " + i, y -> y.putAt(at)); }
    for (int t = 0; t < 4; t++) { int table = t; add(looks, "keys " + t, y -> y.keys(table)); }
    add(looks, "place", JudgedCode::place);
    add(looks, "tick 0", y -> y.tick(0));
    for (int i = 0; i <= 256; i++) { octet(looks, (1L << 32) + i); }
    for (int i = 0; i < 512; i++) { octet(looks, (1L << 33) - 512 + i); }
    for (int t = 0; t < tables; t++) {
      for (int e = 0; e <= 32; e++) {
        for (int i = 0; i <= 32; i++) { octet(looks, PlainModel.valueAt(t, e) + i); }
      }
    }
    for (int s = 0; s < slots; s++) { findings(looks, s); }
    return looks;
  }

  private static void findings(List<Named> looks, int slot) {
    for (int k = 0; k < 55; k++) {
      int r = k / 5;
      int what = k % 5;
      add(looks, "may " + slot + " " + r + " " + what, y -> y.may(slot, r, what));
    }
    for (int a = -32; a < 0; a++) { int at = a; add(looks, "cell " + slot + " " + a, y -> y.cell(slot, at)); }
  }

  private static void octet(List<Named> looks, long address) { add(looks, "octet " + address, y -> y.octet(address)); }

  private static void add(List<Named> looks, String name, Look look) { looks.add(new Named(name, look)); }
}
