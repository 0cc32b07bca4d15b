import java.util.Random;

/** Drawn runs of calls on the class and on the oracle, which must answer alike. */
public final class OracleTest {
  private static final int RUNS = Integer.getInteger("runs", 2500);
  private static final int FIRST = Integer.getInteger("first", 1);

  private final Random random;
  private final String run;
  private final RingingCoins x = new RingingCoins();
  private final Oracle o = new Oracle();
  private int calls = 0;
  private final int mostCoins;
  private final int spread;
  private final boolean loud;

  private OracleTest(int number) {
    random = new Random(number);
    run = "run " + number + ": ";
    mostCoins = number % 50 == 0 ? 12 : 3 + random.nextInt(5);
    spread = 1 + random.nextInt(random.nextBoolean() ? 4 : 60);
    loud = number % 3 != 0;
  }

  public static void main(String[] args) {
    for (int i = FIRST; i < FIRST + RUNS; i++) {
      new OracleTest(i).play();
    }
    Check.close();
  }

  private void play() {
    int rounds = 10 + random.nextInt(120);
    if (random.nextInt(10) != 0) {
      for (int i = 0; i < 4 && !o.w.minted; i++) {
        tell(new Texts(random, mostCoins, spread, loud).mint());
        mint();
      }
      for (int i = random.nextInt(4); i >= 0; i--) {
        tell(new Texts(random, mostCoins, spread, loud).law());
        law();
      }
      for (int i = 0; i < o.w.coins.size(); i++) {
        int person = random.nextInt(2);
        due("give(" + i + "," + person + ")", x.give(i, person), o.give(i, person));
      }
    }
    for (int i = 0; i < rounds && calls < 460; i++) {
      act();
    }
  }

  private void due(String call, int got, int want) {
    calls++;
    Check.due(run + call, got, want);
  }

  private void tell(String text) {
    byte[] bytes = Check.bytes(text);
    if (random.nextInt(30) != 0) {
      due("end(0)", x.end(0), o.end(0));
    }
    for (int at = 0; at < bytes.length; at += 20) {
      int[] n = Check.numbersAt(bytes, at);
      due("feed", x.feed(n[0], n[1], n[2], n[3], n[4]), o.feed(n[0], n[1], n[2], n[3], n[4]));
    }
    due("end(" + bytes.length + ")", x.end(bytes.length), o.end(bytes.length));
  }

  private void mint() {
    String text = o.tape.toString();
    due("mint() of \"" + text + "\"", x.mint(), o.mint());
  }

  private void law() {
    String text = o.tape.toString();
    due("law() of \"" + text + "\"", x.law(), o.law());
  }

  /** Mostly from 0 to most, at times a little outside. */
  private int near(int most) {
    int r = random.nextInt(100);
    return r == 0 ? -1 - random.nextInt(2) : r == 1 ? most + 1 + random.nextInt(2) : random.nextInt(most + 1);
  }

  private int lawNumber() {
    return near(Math.max(0, o.laws.size() - 1));
  }

  private int counterNumber() {
    return near(Math.max(0, o.w.counters.size() - 1));
  }

  private int coinNumber() {
    return near(Math.max(0, o.w.coins.size() - 1));
  }

  private int set() {
    int all = (1 << o.w.coins.size()) - 1;
    int r = random.nextInt(60);
    return r == 0 ? -1 : r == 1 ? all + 1 : r == 2 ? Integer.MIN_VALUE : r < 10 ? all : random.nextInt(all + 1);
  }

  private int price() {
    return random.nextInt(20) == 0 ? near(9999) : random.nextInt(loud ? 12 : 3 * spread + 3);
  }

  private int many() {
    return random.nextInt(10) == 0 ? near(999) : near(3 * spread + 3);
  }

  private void act() {
    switch (random.nextInt(30)) {
      case 0 -> changeTape();
      case 1 -> {
        if (random.nextInt(3) == 0) {
          tell(new Texts(random, mostCoins, spread, loud).mint());
          mint();
        }
      }
      case 2 -> {
        tell(new Texts(random, mostCoins, spread, loud).law());
        law();
      }
      case 3 -> look();
      case 4, 5, 6 -> change();
      case 7, 8, 9, 10, 11 -> listen();
      case 12, 13, 14 -> hearAndFit();
      case 15, 16 -> mistake();
      case 17, 18, 19, 20, 21 -> deal();
      case 22, 23, 24 -> clash();
      case 25, 26 -> landAndForger();
      case 27 -> year();
      default -> imageAndCount();
    }
  }

  private void changeTape() {
    int n = near(400);
    int a = random.nextInt();
    due("end(" + n + ")", x.end(n), o.end(n));
    due("feed", x.feed(a, ~a, 0, -1, 1), o.feed(a, ~a, 0, -1, 1));
    if (random.nextInt(20) == 0) {
      for (int i = 0; i < 21; i++) {
        due("feed", x.feed(i, i, i, i, i), o.feed(i, i, i, i, i));
      }
    }
  }

  private void look() {
    int c = coinNumber();
    int k = counterNumber();
    int what = near(6);
    due("coin(" + c + "," + what + ")", x.coin(c, what), o.coin(c, what));
    what = near(1);
    due("counter(" + k + "," + what + ")", x.counter(k, what), o.counter(k, what));
  }

  private void change() {
    int c = coinNumber();
    int person = near(random.nextBoolean() ? 1 : 5);
    int note = random.nextInt(5) == 0 ? near(2400) : random.nextInt(spread);
    int set = set();
    switch (random.nextInt(4)) {
      case 0, 1 -> due("give(" + c + "," + person + ")", x.give(c, person), o.give(c, person));
      case 2 -> due("retune(" + c + "," + note + ")", x.retune(c, note), o.retune(c, note));
      default -> due("fall(" + set + ")", x.fall(set), o.fall(set));
    }
  }

  private void listen() {
    int l = lawNumber();
    int k = counterNumber();
    int set = set();
    int other = set();
    int c = coinNumber();
    int what = near(1);
    String on = "(" + l + "," + k + "," + set + ",";
    due("sounds" + on + c + "," + what + ")", x.sounds(l, k, set, c, what), o.sounds(l, k, set, c, what));
    due("tones" + on + ")", x.tones(l, k, set), o.tones(l, k, set));
    due("alike" + on + other + ")", x.alike(l, k, set, other), o.alike(l, k, set, other));
    int t = near(2);
    what = near(2);
    due("tone" + on + t + "," + what + ")", x.tone(l, k, set, t, what), o.tone(l, k, set, t, what));
  }

  private void hearAndFit() {
    int l = lawNumber();
    int k = counterNumber();
    int set = set();
    int r = random.nextInt(12);
    if (r < 4) {
      due("hear(-20000)", x.hear(-20000), o.hear(-20000));
      if (o.isAll(l, k, set)) {
        for (int note : o.notes(l, k, set)) {
          due("hear(" + note + ")", x.hear(note), o.hear(note));
        }
      }
    } else {
      int times = r == 4 ? 14 : 1;
      for (int i = 0; i < times; i++) {
        int note = r == 5 ? near(9999) * (random.nextBoolean() ? 1 : -1) : random.nextInt(spread + 14) - spread / 2;
        due("hear(" + note + ")", x.hear(note), o.hear(note));
      }
    }
    set |= set() > 0 ? set() : 0;
    for (int what = -1; what <= 5; what++) {
      due("fits(" + l + "," + k + "," + set + "," + what + ")", x.fits(l, k, set, what), o.fits(l, k, set, what));
    }
  }

  private void mistake() {
    int l = lawNumber();
    int k = counterNumber();
    int set = set();
    int most = near(random.nextBoolean() ? 12 : 3);
    for (int what = -1; what <= 3; what++) {
      due("mistaken(" + l + "," + k + "," + set + "," + most + "," + what + ")",
          x.mistaken(l, k, set, most, what), o.mistaken(l, k, set, most, what));
    }
  }

  private void deal() {
    int l = lawNumber();
    int k = counterNumber();
    int one = near(random.nextBoolean() ? 1 : 5);
    int other = random.nextInt(4) == 0 ? near(5) : one == 0 ? 1 : 0;
    int price = price();
    int p = many();
    String on = "(" + l + "," + k + "," + one + "," + other + ",";
    int what = near(2);
    due("pay" + on + price + "," + what + ")", x.pay(l, k, one, other, price, what), o.pay(l, k, one, other, price, what));
    due("prices" + on + p + ")", x.prices(l, k, one, other, p), o.prices(l, k, one, other, p));
    due("bestCounter" + on + p + ")", x.bestCounter(l, one, other, p), o.bestCounter(l, one, other, p));
    if (random.nextInt(3) == 0) {
      due("done" + on + price + ")", x.done(l, k, one, other, price), o.done(l, k, one, other, price));
    }
  }

  private void clash() {
    for (int i = random.nextInt(5); i >= 0; i--) {
      int k = random.nextInt(30) == 0 ? -1 : random.nextInt(30) == 0 ? 4 : random.nextInt(Math.max(1, o.w.counters.size()));
      int set = set();
      set = random.nextBoolean() && set > 0 ? Integer.highestOneBit(set) : set;
      if (o.w.payments.size() < 7 || random.nextInt(20) == 0) {
        due("payment(" + k + "," + set + ")", x.payment(k, set), o.payment(k, set));
      }
    }
    int l = lawNumber();
    int what = near(1);
    due("rounds(" + l + "," + what + ")", x.rounds(l, what), o.rounds(l, what));
    if (random.nextInt(4) == 0) {
      due("payment(-1,7)", x.payment(-1, 7), o.payment(-1, 7));
    }
  }

  private void landAndForger() {
    int l = lawNumber();
    int k = counterNumber();
    int p = random.nextInt(10) == 0 ? near(200) : random.nextInt(8);
    int most = random.nextInt(20) == 0 ? near(5) : 1 + random.nextInt(4);
    if (mostCoins < 12) {
      due("land(" + l + "," + k + "," + p + "," + most + ")", x.land(l, k, p, most), o.land(l, k, p, most));
    }
    int n = near(200);
    int g = random.nextBoolean() ? near(200) : near(8);
    due("forger(" + n + "," + g + ")", x.forger(n, g), Oracle.forger(n, g));
  }

  private void year() {
    int seed = random.nextBoolean() ? random.nextInt() : near(5);
    due("seed(" + seed + ")", x.seed(seed), o.seed(seed));
    int m = random.nextBoolean() ? near(500) : near(9);
    for (int what = -1; what <= 3; what++) {
      due("year(" + m + "," + what + ")", x.year(m, what), o.year(m, what));
    }
  }

  private void imageAndCount() {
    int k = near(3);
    int what = near(15);
    if (random.nextInt(3) == 0) {
      due("image(" + k + ")", x.image(k), o.image(k));
    } else if (random.nextInt(3) == 0) {
      due("back(" + k + ")", x.back(k), o.back(k));
    }
    due("count(" + what + ")", x.count(what), o.count(what));
  }
}
