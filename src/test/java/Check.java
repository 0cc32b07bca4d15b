import java.nio.charset.StandardCharsets;

/** What the tests share: comparing answers, and telling texts to an object. */
final class Check {
  private static final int MOST_SHOWN = 40;
  private static int asked = 0;
  private static int wrong = 0;

  private Check() {
  }

  static void due(String call, long got, long want) {
    asked++;
    if (got != want) {
      wrong++;
      if (wrong <= MOST_SHOWN) {
        System.out.println(call + " answered " + got + ", due is " + want);
      }
    }
  }

  static void close() {
    System.out.println(asked + " answers, " + wrong + " of them wrong");
    if (wrong != 0 || asked == 0) {
      System.exit(1);
    }
  }

  static byte[] bytes(String text) {
    return text.getBytes(StandardCharsets.ISO_8859_1);
  }

  /** The five numbers that feed the twenty bytes from a place on, 0 behind the end. */
  static int[] numbersAt(byte[] bytes, int from) {
    int[] numbers = new int[5];
    for (int i = 0; i < 20; i++) {
      int b = from + i < bytes.length ? bytes[from + i] & 255 : 0;
      numbers[i / 4] = numbers[i / 4] << 8 | b;
    }
    return numbers;
  }

  static void tell(RingingCoins x, String text) {
    byte[] bytes = bytes(text);
    x.end(0);
    for (int at = 0; at < bytes.length; at += 20) {
      int[] n = numbersAt(bytes, at);
      x.feed(n[0], n[1], n[2], n[3], n[4]);
    }
    due("end of \"" + text + "\"", x.end(bytes.length), bytes.length);
  }

  static int mint(RingingCoins x, String text) {
    tell(x, text);
    return x.mint();
  }

  static int law(RingingCoins x, String text) {
    tell(x, text);
    return x.law();
  }

  static int fault(int place, int kind) {
    return -2 - (1 + 8 * place + kind);
  }
}
