import java.lang.reflect.Constructor;
import java.lang.reflect.Field;
import java.lang.reflect.Method;
import java.lang.reflect.Modifier;
import java.nio.file.Files;
import java.nio.file.Path;
import java.util.ArrayList;
import java.util.List;
import java.util.Set;
import java.util.TreeSet;
import java.util.regex.Matcher;
import java.util.regex.Pattern;

/** What can be seen of LANGUAGE.md's rules in the source and in the compiled class. */
public final class LanguageTest {
  private static final String FACE = "feed/5 end/1 mint/0 law/0 coin/2 counter/2 give/2 retune/2 fall/1 sounds/5 tone/5 "
      + "tones/3 alike/4 hear/1 fits/4 mistaken/5 pay/6 done/5 prices/5 bestCounter/4 payment/2 rounds/2 land/4 forger/2 "
      + "seed/1 year/2 count/1 image/1 back/1";

  public static void main(String[] args) throws Exception {
    String source = Files.readString(Path.of("src/main/java/RingingCoins.java"));
    words(source);
    lengths(source);
    face();
    classes();
    Check.close();
  }

  private static void words(String source) {
    String code = source.replaceAll("(?s)/\\*.*?\\*/", " ").replaceAll("//[^\n]*", " ").replaceAll("\"[^\"\n]*\"", "\"\"");
    for (String word : List.of("throw", "throws", "try", "catch", "synchronized", "assert", "import", "package", "float",
        "double", "Object", "native", "volatile", "transient", "var", "yield", "sealed", "strictfp", "protected")) {
      Check.due("the word " + word, Pattern.compile("\\b" + word + "\\b").matcher(code).find() ? 1 : 0, 0);
    }
    for (String sign : List.of("->", "::", "@", "static {", "Exact", "\\u")) {
      Check.due("the sign " + sign, code.contains(sign) ? 1 : 0, 0);
    }
    Matcher library = Pattern.compile("\\b(Math|Integer|Long|System|Arrays|String)\\.(\\w+)").matcher(code);
    while (library.find()) {
      String name = library.group(1) + "." + library.group(2);
      boolean listed = Set.of("Math.max", "Math.min", "Integer.bitCount", "Integer.numberOfLeadingZeros", "System.arraycopy")
          .contains(name);
      Check.due("the library's " + name, listed ? 0 : 1, 0);
    }
    for (int i = 0; i < source.length(); i++) {
      if (source.charAt(i) > 126) {
        Check.due("a sign at " + i, source.charAt(i), 126);
      }
    }
  }

  private static void lengths(String source) {
    int open = -1;
    String[] lines = source.split("\n");
    for (int i = 0; i < lines.length; i++) {
      String line = lines[i];
      if (line.matches(" {2,4}(public|private|static|int|void|boolean|long|[A-Z]\\w*).*\\) \\{")) {
        open = i;
        Check.due("parameters: " + line, Math.max(7, line.split(",").length), 7);
      } else if (open >= 0 && line.matches(" {2,4}\\}")) {
        Check.due("lines: " + lines[open], Math.max(60, i - open + 1), 60);
        open = -1;
      }
    }
  }

  private static void face() {
    Set<String> due = new TreeSet<>(List.of(FACE.split(" ")));
    Set<String> got = new TreeSet<>();
    for (Method m : RingingCoins.class.getDeclaredMethods()) {
      if (Modifier.isPublic(m.getModifiers())) {
        got.add(m.getName() + "/" + m.getParameterCount());
        Check.due("int " + m, m.getReturnType() == int.class && !Modifier.isStatic(m.getModifiers()) ? 1 : 0, 1);
      } else {
        Check.due("private " + m, Modifier.isPrivate(m.getModifiers()) ? 1 : 0, 1);
      }
    }
    Check.due("the face is " + got, got.equals(due) ? 1 : 0, 1);
    for (Field f : RingingCoins.class.getDeclaredFields()) {
      boolean ok = f.getName().equals("NONE") ? Modifier.isPublic(f.getModifiers()) : Modifier.isPrivate(f.getModifiers());
      Check.due("field " + f, ok ? 1 : 0, 1);
    }
    for (Constructor<?> c : RingingCoins.class.getDeclaredConstructors()) {
      Check.due("constructor " + c, Modifier.isPublic(c.getModifiers()) && c.getParameterCount() == 0 ? 1 : 0, 1);
    }
    Check.due("final", Modifier.isFinal(RingingCoins.class.getModifiers()) ? 1 : 0, 1);
  }

  private static void classes() {
    List<Class<?>> all = new ArrayList<>(List.of(RingingCoins.class.getDeclaredClasses()));
    Check.due("classes", Math.max(12, all.size() + 1), 12);
    all.add(RingingCoins.class);
    for (Class<?> c : all) {
      int fields = 0;
      for (Field f : c.getDeclaredFields()) {
        boolean isStatic = Modifier.isStatic(f.getModifiers());
        fields += isStatic ? 0 : 1;
        Check.due("static and final: " + f, isStatic && !Modifier.isFinal(f.getModifiers()) ? 1 : 0, 0);
      }
      Check.due("fields of " + c, Math.max(20, fields), 20);
      if (c != RingingCoins.class) {
        Check.due("static " + c, Modifier.isStatic(c.getModifiers()) && !Modifier.isPublic(c.getModifiers()) ? 1 : 0, 1);
        for (Method m : c.getDeclaredMethods()) {
          Check.due("named as one of the face: " + m, (" " + FACE).contains(" " + m.getName() + "/") ? 1 : 0, 0);
        }
      }
    }
  }
}
