import java.lang.reflect.InvocationTargetException;
import java.lang.reflect.Method;
import java.lang.reflect.Modifier;
import java.nio.file.Files;
import java.nio.file.Path;
import java.util.Arrays;
import java.util.Comparator;
import java.util.TreeSet;

/** What the tests of edges share: each names its promise and the document's words that it holds the class to. */
final class Edge {
  static final int NONE = RingingCoins.NONE;
  static final int CANNOT = -2;
  static final int NO_SOUND = -20000;
  static final int PROMISES = 30;

  private static final Path DOCUMENT = Path.of("../shared/DOC.md");
  private static final TreeSet<Integer> NAMED = new TreeSet<>();
  private static String document = "";
  private static String sentence = "";
  private static int asked = 0;

  private Edge() {
  }

  /** The document's words, of that promise or of what stands before the promises. */
  static void says(int promise, String words) {
    sentence = "promise " + promise + ", \"" + words + "\": ";
    NAMED.add(promise);
    if (!document.isEmpty()) {
      String before = document.substring(0, document.indexOf("## Promise 1:"));
      int from = document.indexOf("## Promise " + promise + ":");
      int behind = document.indexOf("## ", from + 3);
      boolean there = before.contains(words) || document.substring(from, behind).contains(words);
      Check.due(sentence + "the document says so", there ? 1 : 0, 1);
    }
  }

  static void due(String call, long got, long want) {
    asked++;
    Check.due(sentence + call, got, want);
  }

  /** All that can be looked at, to see that a refused call has changed nothing. */
  static String stateOf(RingingCoins x) {
    StringBuilder all = new StringBuilder();
    for (int what = 0; what < 16; what++) {
      all.append(x.count(what)).append(' ');
    }
    for (int coin = 0; coin < x.count(0); coin++) {
      for (int what = 0; what < 7; what++) {
        all.append(x.coin(coin, what)).append(' ');
      }
    }
    for (int counter = 0; counter < x.count(1); counter++) {
      all.append(x.counter(counter, 0)).append(' ').append(x.counter(counter, 1)).append(' ');
    }
    return all.toString();
  }

  static void nothingHappened(RingingCoins x, String before) {
    String behind = stateOf(x);
    due("nothing happens; it was " + before + "and is " + behind, behind.equals(before) ? 1 : 0, 1);
  }

  static RingingCoins minted(String mint, String... laws) {
    RingingCoins x = new RingingCoins();
    int coins = Check.mint(x, mint);
    due("mint \"" + mint + "\" has " + coins, coins >= 0 ? 1 : 0, 1);
    for (int i = 0; i < laws.length; i++) {
      due("law \"" + laws[i] + "\"", Check.law(x, laws[i]), i);
    }
    return x;
  }

  /** Twelve COINS of the notes 100, 200 .. 1200, of strength 50, of one WORTH, that crack by each fall. */
  static String twelve(int worth) {
    StringBuilder coins = new StringBuilder();
    for (int i = 1; i <= 12; i++) {
      coins.append("coin ").append(100 * i).append(" 50 ").append(worth).append(" 1;");
    }
    return coins.toString();
  }

  static void runAll(Class<?> edges) throws ReflectiveOperationException {
    document = Files.exists(DOCUMENT) ? readDocument() : "";
    Method[] all = edges.getDeclaredMethods();
    Arrays.sort(all, Comparator.comparing(Method::getName));
    for (Method test : all) {
      if (!Modifier.isPrivate(test.getModifiers()) && test.getParameterCount() == 0) {
        run(test);
      }
    }
  }

  private static void run(Method test) throws ReflectiveOperationException {
    sentence = "";
    asked = 0;
    try {
      test.invoke(null);
    } catch (InvocationTargetException e) {
      Check.due(sentence + test.getName() + " threw " + e.getCause() + " and", 1, 0);
    }
    Check.due(test.getName() + " names its sentence and asks", sentence.isEmpty() || asked == 0 ? 0 : 1, 1);
  }

  private static String readDocument() {
    try {
      return Files.readString(DOCUMENT).replaceAll("\\s+", " ") + "## ";
    } catch (java.io.IOException e) {
      return "";
    }
  }

  static void everyPromiseIsNamed() {
    for (int promise = 1; promise <= PROMISES; promise++) {
      Check.due("promise " + promise + " has a test of an edge", NAMED.contains(promise) ? 1 : 0, 1);
    }
  }
}
