import java.lang.reflect.Method;
import java.lang.reflect.Modifier;
import java.nio.file.Files;
import java.nio.file.Path;
import java.util.ArrayList;
import java.util.List;
import java.util.regex.Matcher;
import java.util.regex.Pattern;
import java.util.stream.Collectors;
import java.util.stream.Stream;

/** README.md is true: its example answers what it says, its calls and tests are all, its commands find their files. */
public final class ReadmeTest {
  private static final Pattern CALL = Pattern.compile("book\\.(\\w+)\\(([^)]*)\\);\\s*// (-?\\d+): .*");
  private static int wrong = 0;

  private static void due(String what, Object got, Object want) {
    if (!got.equals(want)) {
      wrong++;
      System.out.println(what + " is " + got + ", due is " + want);
    }
  }

  public static void main(String[] args) throws Exception {
    List<String> page = Files.readAllLines(Path.of("README.md"));
    example(page);
    calls(page);
    tests(page);
    commands(page);
    System.out.println(wrong == 0 ? "all is as due" : wrong + " are not as due");
    if (wrong != 0) System.exit(1);
  }

  private static Method named(String name) {
    for (Method m : RateBook.class.getDeclaredMethods()) {
      if (Modifier.isPublic(m.getModifiers()) && m.getName().equals(name)) return m;
    }
    return null;
  }

  private static void example(List<String> page) throws Exception {
    int from = page.indexOf("```java") + 1;
    due("the example's first line", page.get(from), "RateBook book = new RateBook();");
    RateBook book = new RateBook();
    int line = from + 1;
    for (; line < page.size() && !page.get(line).equals("```"); line++) {
      Matcher m = CALL.matcher(page.get(line));
      due("a call and its answer: " + page.get(line), m.matches(), true);
      if (!m.matches()) continue;
      String[] texts = m.group(2).split(", ");
      Object[] numbers = new Object[texts.length];
      for (int i = 0; i < texts.length; i++) {
        numbers[i] = texts[i].equals("true") ? (Object) true : (Object) Integer.valueOf(texts[i]);
      }
      Object got = named(m.group(1)).invoke(book, numbers);
      due(page.get(line), ((Number) got).longValue(), Long.parseLong(m.group(3)));
    }
    due("the example tells some ten calls at least", line - from > 10, true);
  }

  /** Each row of the table bears a call with as many numbers as it takes, and each call has a row. */
  private static void calls(List<String> page) {
    List<String> want = new ArrayList<>(), got = new ArrayList<>();
    for (Method m : RateBook.class.getDeclaredMethods()) {
      if (Modifier.isPublic(m.getModifiers())) want.add(m.getName() + " of " + m.getParameterCount());
    }
    for (String line : page) {
      Matcher m = Pattern.compile("\\| `(\\w+)\\(([^)]*)\\)` \\|.*").matcher(line);
      if (m.matches()) got.add(m.group(1) + " of " + m.group(2).split(", ").length);
    }
    due("the calls told", got.stream().sorted().collect(Collectors.toList()),
      want.stream().sorted().collect(Collectors.toList()));
  }

  private static void tests(List<String> page) throws Exception {
    String told = page.stream().filter(line -> line.startsWith("- `")).collect(Collectors.joining("\n"));
    try (Stream<Path> files = Files.list(Path.of("src/test/java"))) {
      for (Path file : files.collect(Collectors.toList())) {
        String name = file.getFileName().toString().replace(".java", "");
        due(name + " is told", told.contains("`" + name + "`"), true);
      }
    }
  }

  private static void commands(List<String> page) {
    int found = 0;
    for (String line : page) {
      if (!line.startsWith("    ")) continue;
      found++;
      for (String word : line.trim().split(" ")) {
        boolean isFile = word.endsWith(".java") || word.startsWith(".ci/");
        if (isFile) due(word + " is there", Files.isRegularFile(Path.of(word)), true);
        if (word.startsWith(".ci/")) due(word + " can be run", Files.isExecutable(Path.of(word)), true);
      }
    }
    due("five commands", found, 5);
  }
}
