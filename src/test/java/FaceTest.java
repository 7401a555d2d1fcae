import java.lang.reflect.Constructor;
import java.lang.reflect.Field;
import java.lang.reflect.Method;
import java.lang.reflect.Modifier;
import java.nio.file.Files;
import java.nio.file.Path;
import java.util.List;
import java.util.Set;
import java.util.TreeSet;

/** The public face is the document's, and the source keeps to the rules of LANGUAGE.md that can be read off it. */
public final class FaceTest {
  private static int wrong = 0;

  private static void due(String what, Object got, Object want) {
    if (!got.equals(want)) {
      wrong++;
      System.out.println(what + " is " + got + ", due is " + want);
    }
  }

  public static void main(String[] args) throws Exception {
    face();
    insides();
    source();
    System.out.println(wrong == 0 ? "all is as due" : wrong + " are not as due");
    if (wrong != 0) System.exit(1);
  }

  private static void face() {
    Set<String> got = new TreeSet<>();
    for (Method m : RateBook.class.getDeclaredMethods()) {
      if (!Modifier.isPrivate(m.getModifiers())) got.add(m.toString());
    }
    for (Constructor<?> c : RateBook.class.getDeclaredConstructors()) got.add(c.toString());
    for (Field f : RateBook.class.getDeclaredFields()) {
      if (!Modifier.isPrivate(f.getModifiers())) got.add(f.toString());
    }
    Set<String> want = new TreeSet<>(List.of("public RateBook()",
      "public int RateBook.house(int,int,int,int,int)", "public int RateBook.rent(int,int)",
      "public int RateBook.unit(int,int,int)", "public int RateBook.tested(int)", "public int RateBook.list(int)",
      "public int RateBook.event(int,int,int,int)", "public int RateBook.appeal(int,int,int,boolean)",
      "public int RateBook.strike(int)", "public int RateBook.on(int,int,int)", "public long RateBook.year(int,int)",
      "public int RateBook.bill(int,int,int)", "public int RateBook.poundage(int,int)",
      "public int RateBook.struck(int,int)", "public int RateBook.pay(int,int,int)",
      "public int RateBook.paid(int,int,int)", "public int RateBook.owed(int,int)",
      "public int RateBook.ward(int,int,int)", "public int RateBook.count(int)",
      "public static final int RateBook.BAD", "public static final int RateBook.NO",
      "public static final int RateBook.FULL", "public static final int RateBook.NONE"));
    due("the face", got, want);
    due("the class is final", Modifier.isFinal(RateBook.class.getModifiers()), true);
    due("BAD", RateBook.BAD, -1);
    due("NO", RateBook.NO, -2);
    due("FULL", RateBook.FULL, -3);
    due("NONE", RateBook.NONE, -4);
  }

  private static void insides() {
    Class<?>[] inside = RateBook.class.getDeclaredClasses();
    due("at most twelve classes", inside.length <= 11, true);
    Set<String> publicNames = new TreeSet<>();
    for (Method m : RateBook.class.getDeclaredMethods()) {
      if (Modifier.isPublic(m.getModifiers())) publicNames.add(m.getName());
      due("parameters of " + m.getName(), m.getParameterCount() <= 7, true);
    }
    for (Class<?> c : inside) {
      due(c + " static", Modifier.isStatic(c.getModifiers()), true);
      due(c + " not public", Modifier.isPublic(c.getModifiers()), false);
      due("fields of " + c, c.getDeclaredFields().length <= 20, true);
      for (Method m : c.getDeclaredMethods()) {
        if (Modifier.isPrivate(m.getModifiers())) {
          due(m + " bears a public name", publicNames.contains(m.getName()), false);
        }
        due("parameters of " + m, m.getParameterCount() <= 7, true);
      }
    }
    for (Method m : RateBook.class.getDeclaredMethods()) {
      if (Modifier.isPrivate(m.getModifiers())) {
        due(m + " bears a public name", publicNames.contains(m.getName()), false);
      }
    }
  }

  private static void source() throws Exception {
    String text = Files.readString(Path.of("src/main/java/RateBook.java"))
      .replaceAll("/\\*(?s:.*?)\\*/", "").replaceAll("//[^\\n]*", "");
    for (String word : List.of("throw", "throws", "try", "catch", "finally", "assert", "synchronized", "package",
        "volatile", "native", "protected", "Object")) {
      due("uses of " + word, text.split("\\b" + word + "\\b", -1).length - 1, 0);
    }
    for (String sign : List.of("::", "Exact(")) due("uses of " + sign, text.contains(sign), false);
    for (String line : text.split("\n")) {
      if (line.contains("->")) due(line, line.matches("\\s*(case|default)\\b.*"), true);
    }
    int length = 0;
    for (String line : text.split("\n")) {
      length = line.matches(" {4,8}[a-zA-Z].*\\) \\{") ? 1 : length + 1;
      if (line.matches(" {4,8}\\}")) due("a method of " + length + " lines", length <= 60, true);
      if (line.matches(" {4,8}\\}")) length = 0;
      if (line.matches(".*\\bstatic\\b.*[;=].*") && !line.contains("(")) due(line, line.contains(" final "), true);
    }
  }
}
