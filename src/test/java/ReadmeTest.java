import java.lang.reflect.Method;
import java.lang.reflect.Modifier;
import java.nio.file.Files;
import java.nio.file.Path;
import java.util.ArrayList;
import java.util.HashMap;
import java.util.LinkedHashSet;
import java.util.List;
import java.util.Map;
import java.util.regex.Matcher;
import java.util.regex.Pattern;

/**
 * README.md tells how the class is used: its example answers as it says, each call has a row with its parameters and the codes that the document
 * gives it, each code is told, each test that .ci/run runs is named. Arguments: README.md, the document, .ci/run, Helpers.java.
 */
public final class ReadmeTest extends Helpers {
  private static final Pattern CODE = Pattern.compile("-\\d+");
  private static final Pattern ROW = Pattern.compile("^\\| `(\\w+)\\(([^)]*)\\)` \\| (.*) \\| ([^|]*)\\|$", Pattern.MULTILINE);
  private static final Pattern LINE = Pattern.compile("(?:(?:int|long) (\\w+) = )?(?:b\\.(\\w+)\\((.*)\\)|tell\\(b, (\\d), \"(.*)\"\\)); *// (-?\\d+).*");
  private static int lines = 0;

  private static void need(boolean holds, String what) {
    if (!holds) {
      wrong++;
      System.out.println("ReadmeTest: " + what);
    }
  }

  /** What stands between two signs, or nothing. */
  private static String between(String text, String from, String to) {
    int begin = text.indexOf(from);
    int end = begin < 0 ? -1 : text.indexOf(to, begin + from.length());
    return end < 0 ? "" : text.substring(begin + from.length(), end);
  }

  private static String section(String readme, String heading) {
    return between(readme + "\n## ", "\n## " + heading + "\n", "\n## ");
  }

  // ---- the example

  private static void example(String code) throws ReflectiveOperationException {
    BrassBalls b = null;
    Map<String, Long> names = new HashMap<>();
    for (String line : code.strip().split("\n")) {
      Matcher m = LINE.matcher(line);
      if (line.startsWith("BrassBalls b = new BrassBalls();")) {
        b = new BrassBalls();
      } else if (b != null && m.matches()) {
        long answer = m.group(2) == null ? tell(b, Integer.parseInt(m.group(4)), m.group(5)) : call(b, m.group(2), m.group(3), names);
        due(line, answer, Long.parseLong(m.group(6)));
        names.put(m.group(1) == null ? "" : m.group(1), answer);
        lines++;
      } else {
        need(line.isBlank() || line.startsWith("//"), "a line of the example without an answer: " + line);
      }
    }
    need(lines >= 30, "an example of only " + lines + " calls");
  }

  private static long call(BrassBalls b, String name, String told, Map<String, Long> names) throws ReflectiveOperationException {
    String[] words = told.isEmpty() ? new String[0] : told.split(", ");
    for (Method m : BrassBalls.class.getDeclaredMethods()) {
      if (m.getName().equals(name) && Modifier.isPublic(m.getModifiers()) && m.getParameterCount() == words.length) {
        Object[] values = new Object[words.length];
        for (int i = 0; i < words.length; i++) {
          values[i] = value(words[i], m.getParameterTypes()[i], names);
        }
        return ((Number) m.invoke(b, values)).longValue();
      }
    }
    need(false, "the example calls what there is not: " + name + "(" + told + ")");
    return 0;
  }

  private static Object value(String word, Class<?> type, Map<String, Long> names) {
    if (type == boolean.class) {
      return Boolean.valueOf(word);
    }
    long v = word.equals("BrassBalls.NONE") ? BrassBalls.NONE : names.containsKey(word) ? names.get(word) : Long.decode(word);
    if (type == long.class) {
      return v;
    }
    return (int) v;
  }

  // ---- calls and their codes

  /** In the order in which they are told. */
  private static List<Integer> codes(String text) {
    LinkedHashSet<Integer> found = new LinkedHashSet<>();
    Matcher m = CODE.matcher(text);
    while (m.find()) {
      found.add(Integer.parseInt(m.group()));
    }
    return new ArrayList<>(found);
  }

  private static String promise(String doc, String name) {
    Matcher m = Pattern.compile("## Promise \\d+: " + name + "\n(.*?)(?=\n## )", Pattern.DOTALL).matcher(doc);
    return m.find() ? m.group(1) : "";
  }

  /** Where the document says "Refused as life()", those codes are meant. */
  private static List<Integer> dueCodes(String doc, String name) {
    String text = promise(doc, name);
    List<Integer> due = codes(text);
    if (text.contains("Refused as life()")) {
      due.addAll(codes(promise(doc, "life")));
    }
    return due;
  }

  private static void calls(String readme, String doc, String face) {
    Map<String, String> parameters = new HashMap<>();
    Map<String, String> refused = new HashMap<>();
    Matcher row = ROW.matcher(readme);
    while (row.find()) {
      need(parameters.put(row.group(1), row.group(2)) == null, "two rows of " + row.group(1));
      refused.put(row.group(1), row.group(4));
    }
    Matcher m = Pattern.compile("public (?:int|long) (\\w+)\\((.*)\\);").matcher(face);
    int calls = 0;
    while (m.find()) {
      calls++;
      String name = m.group(1);
      need(m.group(2).replaceAll("(int|long|boolean) ", "").equals(parameters.get(name)), "no row of " + name + "(" + m.group(2) + ")");
      need(dueCodes(doc, name).equals(codes(refused.getOrDefault(name, "-99"))), "codes of " + name + ": " + refused.get(name) + ", due are " + dueCodes(doc, name));
    }
    need(calls == 52 && parameters.size() == calls, "rows of " + parameters.size() + " calls, there are " + calls);
  }

  private static void codesTold(String told, String doc) {
    for (int code = -2; code >= -8; code--) {
      need(told.contains("| `" + code + "` |"), "the code " + code + " isn't told");
    }
    for (String special : new String[] {"`-10` less the FAULT", "`-1000`", "`-1000000`", "`NONE`", "first"}) {
      need(told.contains(special), "of codes isn't told: " + special);
    }
    need(doc.contains("(Of several that which the call tells first.)"), "the document tells another order of codes");
  }

  // ---- tests

  private static void tests(String told, String ci) {
    Matcher m = Pattern.compile("java -cp \"\\$out/own\" (\\w+)").matcher(ci);
    int named = 0;
    while (m.find()) {
      named++;
      need(told.contains("`src/test/java/" + m.group(1) + ".java`"), "the test " + m.group(1) + " isn't named");
    }
    need(named > 0 && told.contains("`.ci/run`") && told.contains("`../shared/tests`"), "how tests are run isn't told");
  }

  private static String trimmed(String code) {
    return code.strip().replaceAll("\n +", "\n");
  }

  public static void main(String[] args) throws Exception {
    String readme = Files.readString(Path.of(args[0]));
    String doc = Files.readString(Path.of(args[1]));
    at = "README.md";
    String use = section(readme, "Use");
    example(between(use, "```java\nBrassBalls b", "```").isEmpty() ? "" : "BrassBalls b" + between(use, "```java\nBrassBalls b", "```"));
    String telling = between(use, "```java\nstatic", "```");
    need(!telling.isEmpty() && trimmed(Files.readString(Path.of(args[3]))).contains(trimmed("static" + telling)), "how a text is fed isn't as tests do it");
    calls(section(readme, "Calls"), doc, between(doc, "```java\n", "```"));
    codesTold(section(readme, "Refused calls"), doc);
    tests(section(readme, "Tests"), Files.readString(Path.of(args[2])));
    System.out.println("ReadmeTest: " + (wrong == 0 ? lines + " calls of README.md's example answer as it says" : wrong + " are wrong"));
    System.exit(wrong == 0 ? 0 : 1);
  }
}
