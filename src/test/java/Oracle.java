import java.math.BigInteger;
import java.util.ArrayList;
import java.util.Comparator;
import java.util.HashSet;
import java.util.List;
import java.util.Set;
import java.util.function.ToIntFunction;

/** The document once more, as plainly and as slowly as can be, to be compared with. */
final class Oracle {
  static final class Fault extends Exception {
    private static final long serialVersionUID = 1L;
    final int place;
    final int kind;

    Fault(int place, int kind) {
      this.place = place;
      this.kind = kind;
    }

    int answer() {
      return -2 - (1 + 8 * place + kind);
    }
  }

  record Coin(int note, int strength, int worth, int tough, int holder, int falls) {
    int cracks() {
      return falls / tough;
    }
  }

  record Counter(int down, int damp) {
  }

  record Payment(int counter, int coins) {
  }

  record Tone(int note, int strength, int led) {
  }

  record Sound(int coin, int note, int strength) {
  }

  static final class World {
    List<Coin> coins = new ArrayList<>();
    List<Counter> counters = new ArrayList<>();
    int blur;
    int deaf;
    boolean minted;
    List<Integer> heard = new ArrayList<>();
    List<Payment> payments = new ArrayList<>();
    int x;

    World copy() {
      World w = new World();
      w.coins = new ArrayList<>(coins);
      w.counters = new ArrayList<>(counters);
      w.blur = blur;
      w.deaf = deaf;
      w.minted = minted;
      w.heard = new ArrayList<>(heard);
      w.payments = new ArrayList<>(payments);
      w.x = x;
      return w;
    }
  }

  interface Sum {
    long of(Facts f);
  }

  interface Test {
    boolean of(Facts f);
  }

  record Facts(Coin coin, int number, Counter counter, int many, int loudest) {
  }

  record Clause(String word, Sum sum, Test test) {
  }

  StringBuilder tape = new StringBuilder();
  List<List<Clause>> laws = new ArrayList<>();
  World w = new World();
  World[] images = new World[4];

  // ---- texts

  static class Scanner {
    final String s;
    int at = 0;

    Scanner(String s) {
      this.s = s;
    }

    void blanks() {
      while (at < s.length() && s.charAt(at) == ' ') {
        at++;
      }
    }

    boolean atEnd() {
      blanks();
      return at == s.length();
    }

    char peek() {
      blanks();
      return at < s.length() ? s.charAt(at) : '\0';
    }

    String peekWord() {
      blanks();
      int to = at;
      while (to < s.length() && s.charAt(to) >= 'a' && s.charAt(to) <= 'z') {
        to++;
      }
      return s.substring(at, to);
    }

    String peekDigits() {
      blanks();
      int to = at;
      while (to < s.length() && s.charAt(to) >= '0' && s.charAt(to) <= '9') {
        to++;
      }
      return s.substring(at, to);
    }

    Fault fault(int kind) {
      blanks();
      return new Fault(at, kind);
    }

    int number(int least, int most) throws Fault {
      String digits = peekDigits();
      if (digits.isEmpty()) {
        throw fault(0);
      }
      if (digits.length() > 5 || Integer.parseInt(digits) < least || Integer.parseInt(digits) > most) {
        throw fault(1);
      }
      at += digits.length();
      return Integer.parseInt(digits);
    }

    void expectEnd() throws Fault {
      if (!atEnd()) {
        throw fault(0);
      }
    }
  }

  static World readMint(String text) throws Fault {
    Scanner s = new Scanner(text);
    World m = new World();
    m.minted = true;
    boolean blur = false;
    boolean deaf = false;
    int clauses = 0;
    while (true) {
      String word = s.peekWord();
      if (!List.of("coin", "counter", "blur", "deaf").contains(word)) {
        throw s.fault(0);
      }
      if (clauses == 24 || word.equals("coin") && m.coins.size() == 12 || word.equals("counter") && m.counters.size() == 4
          || word.equals("blur") && blur || word.equals("deaf") && deaf) {
        throw s.fault(4);
      }
      clauses++;
      s.at += word.length();
      if (word.equals("coin")) {
        m.coins.add(new Coin(s.number(0, 2400), s.number(1, 99), s.number(0, 999), s.number(1, 99), 0, 0));
      } else if (word.equals("counter")) {
        m.counters.add(new Counter(s.number(0, 1200), s.number(0, 99)));
      } else if (word.equals("blur")) {
        blur = true;
        m.blur = s.number(0, 999);
      } else {
        deaf = true;
        m.deaf = s.number(0, 99);
      }
      if (s.atEnd()) {
        if (m.counters.isEmpty()) {
          throw s.fault(0);
        }
        return m;
      }
      if (s.peek() != ';') {
        throw s.fault(0);
      }
      s.at++;
    }
  }

  static final class LawScanner extends Scanner {
    int values = 0;

    LawScanner(String s) {
      super(s);
    }

    List<Clause> clauses() throws Fault {
      List<Clause> all = new ArrayList<>();
      while (true) {
        String word = peekWord();
        if (!word.equals("note") && !word.equals("strength")) {
          throw fault(0);
        }
        if (all.size() == 12) {
          throw fault(4);
        }
        at += word.length();
        Sum sum = sum();
        Test test = f -> true;
        if (peekWord().equals("if")) {
          at += 2;
          test = test(0);
        }
        all.add(new Clause(word, sum, test));
        if (atEnd()) {
          return all;
        }
        if (peek() != ';') {
          throw fault(0);
        }
        at++;
      }
    }

    Test test(int depth) throws Fault {
      Test left = part(depth);
      while (peekWord().equals("or")) {
        at += 2;
        Test a = left;
        Test b = part(depth);
        left = f -> a.of(f) || b.of(f);
      }
      return left;
    }

    Test part(int depth) throws Fault {
      Test left = fact(depth);
      while (peekWord().equals("and")) {
        at += 3;
        Test a = left;
        Test b = fact(depth);
        left = f -> a.of(f) && b.of(f);
      }
      return left;
    }

    Test fact(int depth) throws Fault {
      if (peekWord().equals("not")) {
        if (depth == 10) {
          throw fault(2);
        }
        at += 3;
        Test a = fact(depth + 1);
        return f -> !a.of(f);
      }
      if (peek() == '[') {
        if (depth == 10) {
          throw fault(2);
        }
        at++;
        Test a = test(depth + 1);
        if (peek() != ']') {
          throw fault(0);
        }
        at++;
        return a;
      }
      Sum a = sum();
      String sign = null;
      blanks();
      for (String c : List.of("<=", ">=", "<", "=", ">")) {
        if (sign == null && s.startsWith(c, at)) {
          sign = c;
        }
      }
      if (sign == null) {
        throw fault(0);
      }
      countOne();
      at += sign.length();
      Sum b = sum();
      return switch (sign) {
        case "<=" -> f -> a.of(f) <= b.of(f);
        case ">=" -> f -> a.of(f) >= b.of(f);
        case "<" -> f -> a.of(f) < b.of(f);
        case ">" -> f -> a.of(f) > b.of(f);
        default -> f -> a.of(f) == b.of(f);
      };
    }

    void countOne() throws Fault {
      if (values == 60) {
        throw fault(3);
      }
      values++;
    }

    Sum sum() throws Fault {
      Sum left = term();
      while (peek() == '+' || peek() == '-') {
        boolean plus = peek() == '+';
        at++;
        Sum a = left;
        Sum b = term();
        left = plus ? f -> a.of(f) + b.of(f) : f -> a.of(f) - b.of(f);
      }
      return left;
    }

    Sum term() throws Fault {
      Sum left = value();
      while (peek() == '*' || peek() == '/' || peek() == '%') {
        char c = peek();
        at++;
        Sum a = left;
        Sum b = value();
        left = c == '*' ? f -> a.of(f) * b.of(f)
            : c == '/' ? f -> b.of(f) == 0 ? 0 : a.of(f) / b.of(f)
            : f -> b.of(f) == 0 ? 0 : a.of(f) % b.of(f);
      }
      return left;
    }

    Sum value() throws Fault {
      String digits = peekDigits();
      if (!digits.isEmpty()) {
        if (digits.length() > 5) {
          throw fault(1);
        }
        countOne();
        at += digits.length();
        long n = Long.parseLong(digits);
        return f -> n;
      }
      String word = peekWord();
      Sum sum = switch (word) {
        case "note" -> f -> f.coin.note;
        case "strength" -> f -> f.coin.strength;
        case "worth" -> f -> f.coin.worth;
        case "falls" -> f -> f.coin.falls;
        case "cracks" -> f -> f.coin.cracks();
        case "coin" -> f -> f.number;
        case "down" -> f -> f.counter.down;
        case "damp" -> f -> f.counter.damp;
        case "many" -> f -> f.many;
        case "loudest" -> f -> f.loudest;
        default -> throw fault(0);
      };
      countOne();
      at += word.length();
      return sum;
    }
  }

  int feed(int a, int b, int c, int d, int e) {
    if (tape.length() + 20 > 400) {
      return -1;
    }
    for (int n : new int[] {a, b, c, d, e}) {
      tape.append((char) (n >> 24 & 255)).append((char) (n >> 16 & 255));
      tape.append((char) (n >> 8 & 255)).append((char) (n & 255));
    }
    return tape.length();
  }

  int end(int n) {
    if (n < 0 || n > tape.length()) {
      return -1;
    }
    tape.setLength(n);
    return n;
  }

  int mint() {
    String text = tape.toString();
    tape.setLength(0);
    try {
      World m = readMint(text);
      m.x = w.x;
      w = m;
      return w.coins.size();
    } catch (Fault f) {
      return f.answer();
    }
  }

  int law() {
    if (laws.size() == 6) {
      return -1;
    }
    String text = tape.toString();
    tape.setLength(0);
    try {
      laws.add(new LawScanner(text).clauses());
      return laws.size() - 1;
    } catch (Fault f) {
      return f.answer();
    }
  }

  // ---- what is there

  boolean isCoin(int c) {
    return c >= 0 && c < w.coins.size();
  }

  boolean isCounter(int c) {
    return c >= 0 && c < w.counters.size();
  }

  boolean isLaw(int l) {
    return l >= 0 && l < laws.size();
  }

  boolean isPerson(int p) {
    return p >= 0 && p <= 5;
  }

  boolean isSet(int s) {
    return w.minted && s >= 0 && s < 1 << w.coins.size();
  }

  boolean isAll(int law, int counter, int set) {
    return isLaw(law) && isCounter(counter) && isSet(set);
  }

  int coin(int coin, int what) {
    if (!isCoin(coin) || what < 0 || what > 6) {
      return -1;
    }
    Coin c = w.coins.get(coin);
    return new int[] {c.note, c.strength, c.worth, c.tough, c.holder, c.falls, c.cracks()}[what];
  }

  int counter(int counter, int what) {
    if (!isCounter(counter) || what < 0 || what > 1) {
      return -1;
    }
    return what == 0 ? w.counters.get(counter).down : w.counters.get(counter).damp;
  }

  int give(int coin, int person) {
    if (!isCoin(coin) || !isPerson(person)) {
      return -1;
    }
    Coin c = w.coins.get(coin);
    w.coins.set(coin, new Coin(c.note, c.strength, c.worth, c.tough, person, c.falls));
    return c.holder;
  }

  int retune(int coin, int note) {
    if (!isCoin(coin) || note < 0 || note > 2400) {
      return -1;
    }
    Coin c = w.coins.get(coin);
    w.coins.set(coin, new Coin(note, c.strength, c.worth, c.tough, c.holder, c.falls));
    return c.note;
  }

  static boolean has(int set, int coin) {
    return (set & 1 << coin) != 0;
  }

  static void drop(World w, int coin) {
    Coin c = w.coins.get(coin);
    w.coins.set(coin, new Coin(c.note, c.strength, c.worth, c.tough, c.holder, c.falls + 1));
  }

  boolean isWorn(int set) {
    for (int i = 0; i < w.coins.size(); i++) {
      if (has(set, i) && w.coins.get(i).falls == 9999) {
        return true;
      }
    }
    return false;
  }

  int fall(int coins) {
    if (!isSet(coins) || isWorn(coins)) {
      return -1;
    }
    for (int i = 0; i < w.coins.size(); i++) {
      if (has(coins, i)) {
        drop(w, i);
      }
    }
    return Integer.bitCount(coins);
  }

  // ---- sounds

  List<Sound> soundsOf(int law, int counter, int set) {
    int loudest = 0;
    for (int i = 0; i < w.coins.size(); i++) {
      if (has(set, i)) {
        loudest = Math.max(loudest, w.coins.get(i).strength);
      }
    }
    List<Sound> all = new ArrayList<>();
    Counter on = w.counters.get(counter);
    for (int i = 0; i < w.coins.size(); i++) {
      if (has(set, i)) {
        Coin c = w.coins.get(i);
        Facts f = new Facts(c, i, on, Integer.bitCount(set), loudest);
        long note = c.note - on.down;
        long strength = c.strength - on.damp;
        for (Clause clause : laws.get(law)) {
          if (clause.word.equals("note") && clause.test.of(f)) {
            note = clause.sum.of(f);
            break;
          }
        }
        for (Clause clause : laws.get(law)) {
          if (clause.word.equals("strength") && clause.test.of(f)) {
            strength = clause.sum.of(f);
            break;
          }
        }
        note = note < -9999 ? -9999 : note > 9999 ? 9999 : note;
        strength = strength < 0 ? 0 : strength > 9999 ? 9999 : strength;
        all.add(new Sound(i, (int) note, (int) strength));
      }
    }
    return all;
  }

  List<Tone> chord(int law, int counter, int set) {
    List<Sound> heard = new ArrayList<>();
    for (Sound s : soundsOf(law, counter, set)) {
      if (s.strength > 0 && !(s.strength < w.deaf)) {
        heard.add(s);
      }
    }
    heard.sort(Comparator.comparingInt(Sound::note).thenComparingInt(Sound::coin));
    List<Tone> tones = new ArrayList<>();
    for (Sound s : heard) {
      Tone t = tones.isEmpty() ? null : tones.get(tones.size() - 1);
      if (t != null && (s.note - t.note < w.blur || s.note == t.note)) {
        tones.set(tones.size() - 1, new Tone(t.note, t.strength + s.strength, Math.min(t.led, s.coin)));
      } else {
        tones.add(new Tone(s.note, s.strength, s.coin));
      }
    }
    return tones;
  }

  List<Integer> notes(int law, int counter, int set) {
    List<Integer> notes = new ArrayList<>();
    for (Tone t : chord(law, counter, set)) {
      notes.add(t.note);
    }
    return notes;
  }

  int worth(int set) {
    int sum = 0;
    for (int i = 0; i < w.coins.size(); i++) {
      sum += has(set, i) ? w.coins.get(i).worth : 0;
    }
    return sum;
  }

  int held(int person) {
    int set = 0;
    for (int i = 0; i < w.coins.size(); i++) {
      set += w.coins.get(i).holder == person ? 1 << i : 0;
    }
    return set;
  }

  static List<Integer> within(int whole) {
    List<Integer> all = new ArrayList<>();
    for (int s = 0; s <= whole; s++) {
      if ((s & ~whole) == 0) {
        all.add(s);
      }
    }
    return all;
  }

  int sounds(int law, int counter, int coins, int coin, int what) {
    if (!isAll(law, counter, coins) || !isCoin(coin) || !has(coins, coin) || what < 0 || what > 1) {
      return -20000;
    }
    for (Sound s : soundsOf(law, counter, coins)) {
      if (s.coin == coin) {
        return what == 0 ? s.note : s.strength;
      }
    }
    throw new IllegalStateException();
  }

  int tone(int law, int counter, int coins, int k, int what) {
    if (!isAll(law, counter, coins) || what < 0 || what > 2) {
      return -20000;
    }
    List<Tone> tones = chord(law, counter, coins);
    if (k < 0 || k >= tones.size()) {
      return -20000;
    }
    Tone t = tones.get(k);
    return what == 0 ? t.note : what == 1 ? t.strength : t.led;
  }

  int tones(int law, int counter, int coins) {
    return isAll(law, counter, coins) ? chord(law, counter, coins).size() : -1;
  }

  int alike(int law, int counter, int one, int other) {
    if (!isAll(law, counter, one) || !isSet(other)) {
      return -1;
    }
    return notes(law, counter, one).equals(notes(law, counter, other)) ? 1 : 0;
  }

  int hear(int note) {
    if (note == -20000) {
      w.heard.clear();
      return 0;
    }
    if (note < -9999 || note > 9999 || w.heard.contains(note) || w.heard.size() == 12) {
      return -2;
    }
    w.heard.add(note);
    return w.heard.size();
  }

  int fits(int law, int counter, int coins, int what) {
    if (!isAll(law, counter, coins) || what < 0 || what > 4) {
      return -1;
    }
    List<Integer> heard = new ArrayList<>(w.heard);
    heard.sort(null);
    List<Integer> fits = new ArrayList<>();
    for (int s : within(coins)) {
      if (notes(law, counter, s).equals(heard)) {
        fits.add(s);
      }
    }
    if (what == 0) {
      return fits.size();
    }
    if (fits.isEmpty()) {
      return -2;
    }
    ToIntFunction<Integer> worth = this::worth;
    return switch (what) {
      case 1 -> fits.get(0);
      case 2 -> fits.stream().mapToInt(worth).min().getAsInt();
      case 3 -> fits.stream().mapToInt(worth).max().getAsInt();
      default -> worth(fits.stream().min(Comparator.comparingInt(Integer::bitCount).thenComparingInt(s -> s)).get());
    };
  }

  int mistaken(int law, int counter, int coins, int k, int what) {
    if (!isAll(law, counter, coins) || k < 0 || k > 12 || what < 0 || what > 2) {
      return -1;
    }
    List<Integer> sets = new ArrayList<>();
    List<List<Integer>> chords = new ArrayList<>();
    for (int s : within(coins)) {
      if (Integer.bitCount(s) <= k) {
        sets.add(s);
        chords.add(notes(law, counter, s));
      }
    }
    if (what == 2) {
      return new HashSet<>(chords).size();
    }
    for (int i = 0; i < sets.size(); i++) {
      for (int j = i + 1; j < sets.size(); j++) {
        if (worth(sets.get(i)) != worth(sets.get(j)) && chords.get(i).equals(chords.get(j))) {
          return what == 0 ? sets.get(i) : sets.get(j);
        }
      }
    }
    return -2;
  }

  // ---- paying

  List<Integer> safe(int law, int counter, int person) {
    List<Integer> sets = within(held(person));
    List<List<Integer>> chords = new ArrayList<>();
    for (int s : sets) {
      chords.add(notes(law, counter, s));
    }
    List<Integer> safe = new ArrayList<>();
    for (int i = 0; i < sets.size(); i++) {
      boolean alone = true;
      for (int j = 0; j < sets.size() && alone; j++) {
        alone = !(chords.get(i).equals(chords.get(j)) && worth(sets.get(i)) != worth(sets.get(j)));
      }
      if (alone) {
        safe.add(sets.get(i));
      }
    }
    return safe;
  }

  boolean canPay(int law, int one, int other) {
    return isLaw(law) && isPerson(one) && isPerson(other) && one != other;
  }

  int[] payment(int law, int counter, int one, int other, int price) {
    List<int[]> all = new ArrayList<>();
    List<Integer> back = safe(law, counter, other);
    for (int a : safe(law, counter, one)) {
      for (int b : back) {
        if (worth(a) - worth(b) == price) {
          all.add(new int[] {Integer.bitCount(a) + Integer.bitCount(b), a, b});
        }
      }
    }
    return all.stream().min(Comparator.<int[]>comparingInt(p -> p[0]).thenComparingInt(p -> p[1])
        .thenComparingInt(p -> p[2])).orElse(null);
  }

  int pay(int law, int counter, int one, int other, int price, int what) {
    if (!canPay(law, one, other) || !isCounter(counter) || price < 0 || price > 9999 || what < 0 || what > 2) {
      return -1;
    }
    int[] p = payment(law, counter, one, other, price);
    return p == null ? -2 : p[what];
  }

  int done(int law, int counter, int one, int other, int price) {
    if (!canPay(law, one, other) || !isCounter(counter) || price < 0 || price > 9999) {
      return -1;
    }
    int[] p = payment(law, counter, one, other, price);
    if (p == null || isWorn(p[1] | p[2])) {
      return -2;
    }
    for (int i = 0; i < w.coins.size(); i++) {
      if (has(p[1], i)) {
        drop(w, i);
        give(i, other);
      } else if (has(p[2], i)) {
        drop(w, i);
        give(i, one);
      }
    }
    return p[0];
  }

  int pricesOn(int law, int counter, int one, int other, int p) {
    Set<Integer> found = new HashSet<>();
    List<Integer> back = safe(law, counter, other);
    for (int a : safe(law, counter, one)) {
      for (int b : back) {
        int price = worth(a) - worth(b);
        if (price >= 1 && price <= p) {
          found.add(price);
        }
      }
    }
    return found.size();
  }

  int prices(int law, int counter, int one, int other, int p) {
    if (!canPay(law, one, other) || !isCounter(counter) || p < 0 || p > 999) {
      return -1;
    }
    return pricesOn(law, counter, one, other, p);
  }

  int bestCounter(int law, int one, int other, int p) {
    if (!canPay(law, one, other) || p < 0 || p > 999 || !w.minted) {
      return -1;
    }
    int best = 0;
    for (int c = 1; c < w.counters.size(); c++) {
      if (pricesOn(law, c, one, other, p) > pricesOn(law, best, one, other, p)) {
        best = c;
      }
    }
    return best;
  }

  // ---- payments and lands

  int payment(int counter, int coins) {
    if (counter == -1) {
      w.payments.clear();
      return 0;
    }
    if (!isCounter(counter) || !isSet(coins) || coins == 0 || w.payments.size() == 10) {
      return -2;
    }
    w.payments.add(new Payment(counter, coins));
    return w.payments.size();
  }

  boolean clash(int law, Payment a, Payment b) {
    if (a.counter != b.counter) {
      return false;
    }
    if ((a.coins & b.coins) != 0) {
      return true;
    }
    int both = a.coins | b.coins;
    for (int s : within(both)) {
      if (s != both && worth(s) != worth(both)
          && notes(law, a.counter, s).equals(notes(law, a.counter, both))) {
        return true;
      }
    }
    return false;
  }

  int rounds(int law, int what) {
    if (!isLaw(law) || what < 0 || what > 1) {
      return -1;
    }
    int n = w.payments.size();
    boolean[][] clash = new boolean[n][n];
    int twos = 0;
    for (int i = 0; i < n; i++) {
      for (int j = 0; j < i; j++) {
        clash[i][j] = clash(law, w.payments.get(i), w.payments.get(j));
        twos += clash[i][j] ? 1 : 0;
      }
    }
    return what == 1 ? twos : colour(clash, new int[n], 0, 0);
  }

  static int colour(boolean[][] clash, int[] round, int next, int used) {
    if (next == round.length) {
      return used;
    }
    int best = Integer.MAX_VALUE;
    for (int r = 0; r <= used; r++) {
      boolean free = true;
      for (int i = 0; i < next; i++) {
        free &= !(round[i] == r && clash[next][i]);
      }
      if (free) {
        round[next] = r;
        best = Math.min(best, colour(clash, round, next + 1, Math.max(used, r + 1)));
      }
    }
    return best;
  }

  int land(int law, int counter, int p, int k) {
    if (!isLaw(law) || !isCounter(counter) || p < 0 || p > 200 || k < 1 || k > 4) {
      return -1;
    }
    List<Integer> lands = within((1 << w.coins.size()) - 1);
    lands.sort(Comparator.<Integer>comparingInt(Integer::bitCount).thenComparingInt(s -> s));
    for (int land : lands) {
      Set<Integer> worths = new HashSet<>();
      for (int s : within(land)) {
        if (Integer.bitCount(s) <= k) {
          worths.add(worth(s));
        }
      }
      boolean all = true;
      for (int price = 1; price <= p; price++) {
        all &= worths.contains(price);
      }
      if (all && mistaken(law, counter, land, k, 0) == -2) {
        return land;
      }
    }
    return -2;
  }

  static int forger(int n, int g) {
    if (n < 1 || n > 200 || g < 1 || g > 200) {
      return -1;
    }
    int[] f = new int[n + 1];
    for (int m = 2; m <= n; m++) {
      f[m] = Integer.MAX_VALUE;
      for (int j = 1; j <= g && j < m; j++) {
        f[m] = Math.min(f[m], 1 + Math.max(f[j], f[m - j]));
      }
    }
    return f[n];
  }

  int seed(int x) {
    if (x < 0) {
      return -1;
    }
    int was = w.x;
    w.x = x;
    return was;
  }

  static int next(int x) {
    return BigInteger.valueOf(x).multiply(BigInteger.valueOf(1103515245)).add(BigInteger.valueOf(12345))
        .mod(BigInteger.ONE.shiftLeft(31)).intValueExact();
  }

  int year(int m, int what) {
    if (w.coins.isEmpty() || m < 1 || m > 500 || what < 0 || what > 2) {
      return -1;
    }
    World was = w;
    w = w.copy();
    for (int i = 0; i < m; i++) {
      w.x = next(w.x);
      int coin = w.x / 65536 % w.coins.size();
      w.x = next(w.x);
      drop(w, coin);
      give(coin, w.x / 65536 % 6);
    }
    int who = 0;
    for (int p = 1; p < 6; p++) {
      who = worth(held(p)) > worth(held(who)) ? p : who;
    }
    int much = worth(held(who));
    int cracks = 0;
    for (Coin c : w.coins) {
      cracks += c.cracks();
    }
    w = was;
    return what == 0 ? who : what == 1 ? much : cracks;
  }

  int count(int what) {
    if (what < 0 || what > 15) {
      return -1;
    }
    if (what >= 10) {
      return worth(held(what - 10));
    }
    return new int[] {w.coins.size(), w.counters.size(), w.blur, w.deaf, laws.size(), w.payments.size(),
        w.heard.size(), w.x, tape.length(), worth((1 << w.coins.size()) - 1)}[what];
  }

  int image(int k) {
    if (k < 0 || k > 3) {
      return -1;
    }
    images[k] = w.copy();
    return w.coins.size();
  }

  int back(int k) {
    if (k < 0 || k > 3 || images[k] == null) {
      return -1;
    }
    w = images[k].copy();
    return w.coins.size();
  }
}
