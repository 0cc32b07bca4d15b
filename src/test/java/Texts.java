import java.util.Random;

/** Draws texts of MINTS and LAWS: most are right, some lie at a limit, some are broken. */
final class Texts {
  private static final String[] VALUES =
      {"note", "strength", "worth", "falls", "cracks", "coin", "down", "damp", "many", "loudest"};
  private static final String[] TAME = {"note note", "note note-down", "strength strength", "note note+cracks*3",
      "note note-down if many<3;note note+coin", "note note+many*2 if loudest>80", "strength strength-damp-cracks*20",
      "note coin*7 if worth%2=0 or falls>1", "strength 0 if coin=2 and many>1;note note-many"};
  private static final String[] STRANGE = {"not", "and", "or", "if", "[", "]", ";", "<", "<=", "=", ">=", ">", "+", "-",
      "*", "/", "%", "note", "notes", "coin", "counter", "blur", "deaf", "x", "100000", "00001", "99999", "(", "A", "\0",
      "\u00e9", "\t", "000000", "1", "strength"};

  private final Random random;
  private final int mostCoins;
  private final int spread;
  private final boolean loud;

  /** Loud: coins that mostly can be heard and told apart, so that there is more to pay with. */
  Texts(Random random, int mostCoins, int spread, boolean loud) {
    this.random = random;
    this.mostCoins = mostCoins;
    this.spread = spread;
    this.loud = loud;
  }

  private String blank() {
    int r = random.nextInt(12);
    return r == 0 ? " " : r == 1 ? "  " : "";
  }

  private int edge(int least, int most, int usual) {
    int r = random.nextInt(400);
    if (r == 0) {
      return Math.max(0, least - 1);
    }
    return r == 1 ? most + 1 : r == 2 ? least : r == 3 ? most : Math.max(least, Math.min(most, random.nextInt(usual + 1)));
  }

  String mint() {
    StringBuilder s = new StringBuilder();
    int coins = random.nextInt(40) == 0 ? 14 : mostCoins == 12 ? 9 + random.nextInt(4) : Math.max(loud ? 3 : 0, random.nextInt(mostCoins + 1));
    int counters = random.nextInt(40) == 0 ? 5 : 1 + random.nextInt(4);
    int blurs = random.nextInt(50) == 0 ? 2 : random.nextInt(2);
    int deafs = random.nextInt(50) == 0 ? 2 : random.nextInt(2);
    while (coins + counters + blurs + deafs > 0) {
      int r = random.nextInt(coins + counters + blurs + deafs);
      s.append(s.length() > 0 ? ";" : "").append(blank());
      if (r < coins) {
        coins--;
        s.append("coin ").append(edge(0, 2400, loud ? 20 * spread : spread)).append(' ');
        s.append(loud ? edge(1, 99, 49) + 50 : edge(1, 99, 20)).append(' ');
        s.append(edge(0, 999, loud ? 6 : spread)).append(' ').append(edge(1, 99, 4));
      } else if (r < coins + counters) {
        counters--;
        s.append("counter ").append(edge(0, 1200, spread)).append(' ').append(edge(0, 99, loud && random.nextInt(3) == 0 ? 60 : 8));
      } else if (r < coins + counters + blurs) {
        blurs--;
        s.append("blur ").append(edge(0, 999, spread / 2));
      } else {
        deafs--;
        s.append("deaf ").append(edge(0, 99, 8));
      }
      s.append(blank());
    }
    return cut(random.nextInt(6) == 0 ? broken(s.toString()) : s.toString());
  }

  String law() {
    if (loud && random.nextInt(3) != 0) {
      return TAME[random.nextInt(TAME.length)];
    }
    StringBuilder s = new StringBuilder();
    int clauses = random.nextInt(30) == 0 ? 11 + random.nextInt(4) : 1 + random.nextInt(4);
    for (int i = 0; i < clauses; i++) {
      s.append(i > 0 ? ";" : "").append(blank()).append(random.nextBoolean() ? "note " : "strength ");
      int size = clauses > 8 ? 0 : random.nextInt(40) == 0 ? 30 : 3;
      sum(s, random.nextInt(size + 1));
      if (random.nextInt(3) != 0 && clauses < 9) {
        s.append(" if ");
        int depth = random.nextInt(25) == 0 ? 12 : 3;
        test(s, depth, random.nextInt(3));
      }
    }
    return cut(random.nextInt(4) == 0 ? broken(s.toString()) : s.toString());
  }

  private void sum(StringBuilder s, int more) {
    value(s);
    for (int i = 0; i < more; i++) {
      s.append(blank()).append("+-*/%".charAt(random.nextInt(5))).append(blank());
      value(s);
    }
  }

  private void value(StringBuilder s) {
    int r = random.nextInt(30);
    if (r < 18) {
      s.append(VALUES[random.nextInt(VALUES.length)]);
    } else {
      s.append(r < 28 ? random.nextInt(10) : r == 28 ? 99999 : random.nextInt(100000));
    }
  }

  private void test(StringBuilder s, int depth, int more) {
    fact(s, depth);
    for (int i = 0; i < more; i++) {
      s.append(random.nextBoolean() ? " and " : " or ");
      fact(s, depth);
    }
  }

  private void fact(StringBuilder s, int depth) {
    int r = random.nextInt(depth > 3 ? 2 : 5);
    if (depth > 0 && r == 0) {
      s.append("not ");
      fact(s, depth - 1);
    } else if (depth > 0 && r == 1) {
      s.append(blank()).append('[').append(blank());
      test(s, depth - 1, depth > 3 ? 0 : random.nextInt(2));
      s.append(blank()).append(']').append(blank());
    } else {
      sum(s, random.nextInt(3));
      s.append(blank()).append(new String[] {"<", "<=", "=", ">=", ">"}[random.nextInt(5)]).append(blank());
      sum(s, random.nextInt(2));
    }
  }

  private String broken(String text) {
    StringBuilder s = new StringBuilder(text);
    for (int i = random.nextInt(2); i >= 0; i--) {
      int at = random.nextInt(s.length() + 1);
      int to = Math.min(s.length(), at + random.nextInt(3));
      switch (random.nextInt(5)) {
        case 0 -> s.setLength(at);
        case 1 -> s.delete(at, to);
        case 2 -> s.insert(at, STRANGE[random.nextInt(STRANGE.length)]);
        case 3 -> s.insert(at, " " + STRANGE[random.nextInt(STRANGE.length)] + " ");
        default -> s.replace(at, to, STRANGE[random.nextInt(STRANGE.length)]);
      }
    }
    return s.toString();
  }

  private static String cut(String text) {
    return text.length() > 400 ? text.substring(0, 400) : text;
  }
}
