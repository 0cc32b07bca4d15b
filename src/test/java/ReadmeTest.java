import java.lang.reflect.Method;
import java.lang.reflect.Modifier;
import java.nio.file.Files;
import java.nio.file.Path;
import java.util.Arrays;
import java.util.TreeSet;
import java.util.regex.Matcher;
import java.util.regex.Pattern;

/** Plays the calls that README.md shows: each answers what stands behind it, and no call of the face is left out. */
public final class ReadmeTest {
  private static final Pattern CALL = Pattern.compile("x\\.(\\w+)\\(([^)]*)\\);\\s*// (-?\\d+)(:.*)?");
  private static final Pattern TOLD = Pattern.compile("tell\\(x, \"([^\"]*)\"\\);");

  private static RingingCoins x = new RingingCoins();
  private static final TreeSet<String> SHOWN = new TreeSet<>();

  public static void main(String[] args) throws Exception {
    boolean within = false;
    for (String line : Files.readAllLines(Path.of("README.md"))) {
      if (line.startsWith("```")) {
        within = line.equals("```java");
      } else if (within && !line.isEmpty() && !line.startsWith("//")) {
        play(line);
      }
    }
    for (Method method : RingingCoins.class.getDeclaredMethods()) {
      if (Modifier.isPublic(method.getModifiers())) {
        Check.due("README.md shows " + method.getName(), SHOWN.contains(method.getName()) ? 1 : 0, 1);
      }
    }
    Check.close();
  }

  private static void play(String line) throws Exception {
    Matcher call = CALL.matcher(line);
    Matcher told = TOLD.matcher(line);
    if (call.matches()) {
      SHOWN.add(call.group(1));
      Check.due("README.md: " + line, answer(call.group(1), call.group(2)), Long.parseLong(call.group(3)));
    } else if (told.matches()) {
      Check.tell(x, told.group(1));
    } else {
      x = new RingingCoins();
      Check.due("README.md: " + line, line.equals("RingingCoins x = new RingingCoins();") ? 1 : 0, 1);
    }
  }

  private static int answer(String name, String told) throws Exception {
    String[] words = told.isEmpty() ? new String[0] : told.split(", ");
    Class<?>[] types = new Class<?>[words.length];
    Arrays.fill(types, int.class);
    Object[] numbers = new Object[words.length];
    for (int i = 0; i < words.length; i++) {
      numbers[i] = Integer.decode(words[i]);
    }
    return (int) RingingCoins.class.getMethod(name, types).invoke(x, numbers);
  }
}
