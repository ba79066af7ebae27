import java.io.IOException;
import java.lang.reflect.Constructor;
import java.lang.reflect.Field;
import java.lang.reflect.Method;
import java.lang.reflect.Modifier;
import java.nio.file.Files;
import java.nio.file.Path;
import java.util.Arrays;
import java.util.Set;
import java.util.TreeSet;
import java.util.regex.Matcher;
import java.util.regex.Pattern;

/** The rules of LANGUAGE.md that can be seen from the text, or from the class as it was compiled. */
public final class LanguageTest {
  private static final Set<String> FACE = Set.of(
      "int feed(int, int, int, int)", "int alter(int, int, int, int, int)", "int cut(int)", "int table(int, int, int, int)",
      "int context(int)", "int poke(int, int)", "long tick(long)", "int judge()", "int place()", "long may(int, int, int)",
      "int cell(int, int)", "int start()", "int step()", "int run(int)", "int told(int)", "long register(int)", "int octet(long)",
      "long putAt(int)", "int keys(int)");
  private static final Set<String> LIBRARY = Set.of("Math.min", "Math.max", "Math.abs", "Math.floorMod", "Arrays.fill", "System.arraycopy");

  private static final Due due = new Due();

  public static void main(String[] args) throws IOException {
    String text = Files.readString(Path.of("src/main/java/JudgedCode.java"));
    String code = text.replaceAll("(?s)/\\*.*?\\*/", "").replaceAll("//[^\n]*", "");
    face();
    inside();
    words(code);
    library(code);
    methods(code);
    due.end();
  }

  private static String signature(Method m) {
    String types = Arrays.toString(m.getParameterTypes());
    return m.getReturnType() + " " + m.getName() + "(" + types.substring(1, types.length() - 1) + ")";
  }

  private static void face() {
    due.holds("the class is public and final",
        Modifier.isPublic(JudgedCode.class.getModifiers()) && Modifier.isFinal(JudgedCode.class.getModifiers()));
    Set<String> shown = new TreeSet<>();
    for (Method m : JudgedCode.class.getDeclaredMethods()) {
      if (Modifier.isPublic(m.getModifiers())) { shown.add(signature(m)); }
      else { due.holds(m + " is private", Modifier.isPrivate(m.getModifiers())); }
    }
    due.holds("the public methods are the document's: " + shown, shown.equals(new TreeSet<>(FACE)));
    Constructor<?>[] made = JudgedCode.class.getDeclaredConstructors();
    due.holds("one public constructor without arguments",
        made.length == 1 && Modifier.isPublic(made[0].getModifiers()) && made[0].getParameterCount() == 0);
    for (Field f : JudgedCode.class.getDeclaredFields()) { due.holds(f + " is private", Modifier.isPrivate(f.getModifiers())); }
  }

  private static void inside() {
    Class<?>[] classes = JudgedCode.class.getDeclaredClasses();
    due.holds("at most twelve classes", classes.length + 1 <= 12);
    Set<String> names = new TreeSet<>();
    for (String f : FACE) { names.add(f.substring(f.indexOf(' ') + 1, f.indexOf('('))); }
    for (Class<?> c : classes) {
      due.holds(c + " is static", Modifier.isStatic(c.getModifiers()));
      int fields = 0;
      for (Field f : c.getDeclaredFields()) {
        boolean isStatic = Modifier.isStatic(f.getModifiers());
        due.holds(f + " is final if static", !isStatic || Modifier.isFinal(f.getModifiers()));
        fields += isStatic ? 0 : 1;
      }
      due.holds(c + " has some twenty fields at most", fields <= 20);
      for (Method m : c.getDeclaredMethods()) {
        due.holds(m + " bears no name of the face", !names.contains(m.getName()));
        due.holds(m + " takes at most seven", m.getParameterCount() <= 7);
      }
    }
  }

  private static void words(String code) {
    for (String word : new String[] {"throw", "throws", "try", "catch", "finally", "synchronized", "assert", "volatile", "native",
      "package", "double", "float", "var", "yield", "Object", "Thread", "Random", "equals", "hashCode", "toString", "->", "::"}) {
      String pattern = Character.isLetter(word.charAt(0)) ? "\\b" + word + "\\b" : Pattern.quote(word);
      due.holds("no " + word, !Pattern.compile(pattern).matcher(code).find());
    }
    for (String line : code.split("\n")) {
      due.holds("only java.util.Arrays is imported: " + line, !line.startsWith("import ") || line.equals("import java.util.Arrays;"));
    }
    due.holds("no static block", !Pattern.compile("static\\s*\\{").matcher(code).find());
    due.holds("only ASCII", code.chars().allMatch(c -> c < 128));
  }

  private static void library(String code) {
    Matcher m = Pattern.compile("\\b(Math|Arrays|System|Long|Integer|String|Character|List|ArrayList)\\.(\\w+)").matcher(code);
    while (m.find()) {
      if (m.group(0).equals("Arrays;")) { continue; }
      due.holds(m.group(0) + " is of the list", LIBRARY.contains(m.group(0)));
    }
  }

  /** Methods stay short: some sixty lines. */
  private static void methods(String code) {
    String[] lines = code.split("\n");
    for (int i = 0; i < lines.length; i++) {
      if (!lines[i].matches("( {2}| {4})[\\w\\[\\] ]+\\([^;]*\\) \\{")) { continue; }
      String indent = lines[i].replaceAll("\\S.*", "");
      int end = i;
      while (end < lines.length && !lines[end].equals(indent + "}")) { end++; }
      due.holds("a short method: " + lines[i].trim(), end - i < 60);
    }
  }
}
