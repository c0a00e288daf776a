import java.lang.reflect.Constructor;
import java.lang.reflect.Field;
import java.lang.reflect.Method;
import java.lang.reflect.Modifier;
import java.nio.file.Files;
import java.nio.file.Path;
import java.util.ArrayList;
import java.util.HashSet;
import java.util.List;
import java.util.Set;
import java.util.regex.Matcher;
import java.util.regex.Pattern;

/** Those rules of ../shared/LANGUAGE.md that can be seen in the source or the classes; the argument is the source's path. */
public final class LanguageTest {
  private static int wrong = 0;

  private static void fail(String what) {
    wrong++;
    System.out.println("LanguageTest: " + what);
  }

  /** The source without comments, texts and signs. */
  private static String bare(String source) {
    return source.replaceAll("(?s)/\\*.*?\\*/", "").replaceAll("//[^\n]*", "").replaceAll("\"[^\"\n]*\"", "TEXT").replaceAll("'(\\\\.|[^'\\\\])'", "SIGN");
  }

  private static void words(String code) {
    String[] never = {"throw", "throws", "try", "catch", "finally", "synchronized", "assert", "import", "package", "lambda", "volatile", "native", "strictfp",
        "var", "yield", "record", "enum", "equals", "hashCode", "toString", "Object", "random", "nanoTime", "currentTimeMillis", "Thread", "goto"};
    for (String word : never) {
      if (Pattern.compile("\\b" + word + "\\b").matcher(code).find()) {
        fail("the word " + word);
      }
    }
    for (String sign : new String[] {"->", "::", "@", "Exact", "TEXT +", "+ TEXT"}) {
      if (code.contains(sign)) {
        fail("the sign " + sign);
      }
    }
    Matcher m = Pattern.compile("\\b(Math|System|String|Integer|Long|Arrays|StringBuilder|ArrayList|List)\\.(\\w+)").matcher(code);
    while (m.find()) {
      if (!Set.of("Math.max", "Math.min", "Math.abs", "System.arraycopy").contains(m.group())) {
        fail("the library's " + m.group());
      }
    }
  }

  private static void methods(String source) {
    String[] lines = source.split("\n");
    for (int i = 0; i < lines.length; i++) {
      Matcher m = Pattern.compile("^( +)[\\w\\[\\] ]*\\w+\\((.*)\\) \\{$").matcher(lines[i]);
      if (!m.find() || lines[i].matches("^ +(if|for|while|switch|else|return|do)\\b.*")) {
        continue;
      }
      if (m.group(2).split(",").length > 7) {
        fail("more than seven parameters: " + lines[i]);
      }
      int end = i;
      while (end < lines.length && !lines[end].equals(m.group(1) + "}")) {
        end++;
      }
      if (end - i > 60) {
        fail("longer than sixty lines: " + lines[i]);
      }
    }
  }

  private static void face(Class<?> c) {
    String face = "feed text fault other interest kind person purse weeks pledge ticket held fetch renew swear sell of passed sale over lend gained rack put rush "
        + "best life needs lots fits hold runs chain book worst scribe duty hand suit street shilling trips renewals foresee list match row write clerk image "
        + "restore count";
    Set<String> due = new HashSet<>(List.of(face.split(" ")));
    int open = 0;
    for (Method m : c.getDeclaredMethods()) {
      if (Modifier.isPublic(m.getModifiers())) {
        open++;
        if (!due.contains(m.getName())) {
          fail("a public method more: " + m);
        }
      } else if (!Modifier.isPrivate(m.getModifiers()) || due.contains(m.getName())) {
        fail("not as private as is due: " + m);
      }
    }
    if (open != due.size() || !Modifier.isFinal(c.getModifiers())) {
      fail("the face is not as is due");
    }
    for (Constructor<?> k : c.getDeclaredConstructors()) {
      if (!Modifier.isPublic(k.getModifiers()) || k.getParameterCount() != 0) {
        fail("a constructor more: " + k);
      }
    }
    for (Field f : c.getDeclaredFields()) {
      if (Modifier.isPrivate(f.getModifiers()) == f.getName().equals("NONE")) {
        fail("open wrongly: " + f);
      }
    }
    for (Class<?> inner : c.getDeclaredClasses()) {
      for (Method m : inner.getDeclaredMethods()) {
        if (due.contains(m.getName())) {
          fail("bears the name of a public one: " + m);
        }
      }
    }
  }

  private static void fields(Class<?> c) {
    int own = 0;
    for (Field f : c.getDeclaredFields()) {
      boolean fixed = Modifier.isStatic(f.getModifiers());
      own += fixed ? 0 : 1;
      if (fixed && !Modifier.isFinal(f.getModifiers())) {
        fail("static state: " + f);
      }
      if (fixed && !Set.of("int", "long", "boolean", "char", "int[]", "long[]", "char[]", "byte[]", "String").contains(f.getType().getSimpleName())) {
        fail("a constant that can't be: " + f);
      }
    }
    if (own > 20) {
      fail(own + " fields in " + c);
    }
    if (c.getEnclosingClass() != null && (!Modifier.isStatic(c.getModifiers()) || Modifier.isPublic(c.getModifiers()) || Modifier.isProtected(c.getModifiers()))) {
      fail("not static, or not private: " + c);
    }
  }

  public static void main(String[] args) throws Exception {
    String source = Files.readString(Path.of(args[0]));
    String code = bare(source);
    if (!source.chars().allMatch(c -> c == '\n' || c >= 32 && c < 127)) {
      fail("a sign outside 32 to 126");
    }
    words(code);
    methods(source);
    face(BrassBalls.class);
    List<Class<?>> all = new ArrayList<>(List.of(BrassBalls.class.getDeclaredClasses()));
    all.add(BrassBalls.class);
    all.forEach(LanguageTest::fields);
    if (all.size() > 12) {
      fail(all.size() + " classes");
    }
    if (wrong != 0) {
      System.exit(1);
    }
    System.out.println("LanguageTest: what can be seen is as LANGUAGE.md asks");
  }
}
