/** Edges of paying, of prices, of PAYMENTS at once and of ROUNDS: promises 18 to 23. */
final class PayEdges {
  private static final int NONE = Edge.NONE;
  private static final int CANNOT = Edge.CANNOT;
  private static final int[] NO_PEOPLE = {-1, 6, 10, Integer.MIN_VALUE, Integer.MAX_VALUE};
  private static final int[] NO_LAWS = {-1, 1, 6, Integer.MIN_VALUE, Integer.MAX_VALUE};
  private static final int[] NO_COUNTERS = {-1, 2, 4, Integer.MIN_VALUE, Integer.MAX_VALUE};
  private static final int[] NO_PRICES = {-1, 10000, Integer.MIN_VALUE, Integer.MAX_VALUE};
  private static final int[] NO_MOST_PRICES = {-1, 1000, Integer.MIN_VALUE, Integer.MAX_VALUE};

  private PayEdges() {
  }

  private static void due(String call, long got, long want) {
    Edge.due(call, got, want);
  }

  /** PERSON 0 HOLDS 1, 5 and 10, PERSON 5 HOLDS 2 and 20; on COUNTER 1 nothing is heard. */
  private static RingingCoins dealers() {
    RingingCoins x = Edge.minted("coin 100 50 1 1;coin 200 50 2 1;coin 300 50 5 1;coin 400 50 10 1;coin 500 50 20 1;"
        + "counter 0 0;counter 0 50", "note note");
    x.give(1, 5);
    x.give(4, 5);
    return x;
  }

  private static RingingCoins lawWithoutMint() {
    RingingCoins x = new RingingCoins();
    due("a LAW", Check.law(x, "note 1"), 0);
    return x;
  }

  // ---- promise 18

  private static void paid(RingingCoins x, int price, int coins, int first, int second) {
    due("price " + price + ": COINS together", x.pay(0, 0, 0, 5, price, 0), coins);
    due("price " + price + ": the first set", x.pay(0, 0, 0, 5, price, 1), first);
    due("price " + price + ": the second", x.pay(0, 0, 0, 5, price, 2), second);
  }

  static void payNothing() {
    Edge.says(18, "To PAY a price (0 to 9999)");
    paid(dealers(), 0, 0, 0, 0);
    paid(Edge.minted("counter 0 0", "note 1"), 0, 0, 0, 0);
  }

  static void payTheGreatestPrice() {
    Edge.says(18, "To PAY a price (0 to 9999)");
    StringBuilder coins = new StringBuilder();
    for (int i = 1; i <= 10; i++) {
      coins.append("coin ").append(100 * i).append(" 9 999 1;");
    }
    RingingCoins x = Edge.minted(coins + "coin 0 9 9 1;coin 1 9 1 1;counter 0 0", "note note");
    paid(x, 9999, 11, 2047, 0);
    due("10000", x.pay(0, 0, 0, 5, 10000, 0), NONE);
  }

  static void payAPriceOutside() {
    Edge.says(18, "To PAY a price (0 to 9999)");
    RingingCoins x = dealers();
    for (int price : NO_PRICES) {
      for (int what = 0; what < 3; what++) {
        due("price " + price + ", what " + what, x.pay(0, 0, 0, 5, price, what), NONE);
      }
    }
    due("9999", x.pay(0, 0, 0, 5, 9999, 0), CANNOT);
  }

  static void payWithAllTwelve() {
    Edge.says(18, "what 0: COINS together");
    RingingCoins x = Edge.minted(Edge.twelve(1) + "counter 0 0", "note note");
    paid(x, 12, 12, 4095, 0);
    due("13", x.pay(0, 0, 0, 5, 13, 0), CANNOT);
  }

  static void payWithTwelveOfBoth() {
    Edge.says(18, "the price the WORTH of the first less that of the second");
    RingingCoins x = Edge.minted(Edge.twelve(2).replace("1200 50 2", "1200 50 17") + "counter 0 0", "note note");
    for (int coin = 0; coin < 11; coin++) {
      x.give(coin, 5);
    }
    // 17 less eight times 2, of eleven the least as bits; nine times would be below 0.
    paid(x, 1, 9, 2048, 255);
    due("2", x.pay(0, 0, 0, 5, 2, 0), CANNOT);
  }

  static void payCant() {
    Edge.says(18, "-2: it can't be");
    RingingCoins x = dealers();
    for (int what = 0; what < 3; what++) {
      due("17, what " + what, x.pay(0, 0, 0, 5, 17, what), CANNOT);
      due("from one without COINS, what " + what, x.pay(0, 0, 3, 5, 1, what), CANNOT);
    }
  }

  static void payNothingWithoutCoins() {
    Edge.says(18, "a SAFE set of what the one HOLDS, a SAFE set of what the other one HOLDS back");
    RingingCoins x = dealers();
    due("0 between two without COINS", x.pay(0, 0, 2, 3, 0, 0), 0);
    due("to one without COINS", x.pay(0, 0, 0, 3, 16, 0), 3);
    due("0 from one without COINS", x.pay(0, 0, 3, 0, 0, 0), 0);
  }

  static void payToHimself() {
    Edge.says(18, "NONE without these (unlike PEOPLE)");
    RingingCoins x = dealers();
    for (int person = 0; person < 6; person++) {
      due("PERSON " + person, x.pay(0, 0, person, person, 0, 0), NONE);
    }
  }

  static void payWithoutPeople() {
    Edge.says(18, "NONE without these (unlike PEOPLE)");
    RingingCoins x = dealers();
    for (int person : NO_PEOPLE) {
      due("one " + person, x.pay(0, 0, person, 5, 0, 0), NONE);
      due("other " + person, x.pay(0, 0, 0, person, 0, 0), NONE);
    }
    due("0 and 5", x.pay(0, 0, 0, 5, 0, 0), 0);
    due("5 and 0", x.pay(0, 0, 5, 0, 0, 0), 0);
  }

  static void payWithoutLawOrCounter() {
    Edge.says(18, "NONE without these");
    RingingCoins x = dealers();
    for (int law : NO_LAWS) {
      due("LAW " + law, x.pay(law, 0, 0, 5, 0, 0), NONE);
    }
    for (int counter : NO_COUNTERS) {
      due("COUNTER " + counter, x.pay(0, counter, 0, 5, 0, 0), NONE);
    }
    due("no MINT", lawWithoutMint().pay(0, 0, 0, 5, 0, 0), NONE);
  }

  static void payWithoutAWhat() {
    Edge.says(18, "NONE without these");
    RingingCoins x = dealers();
    due("what 3", x.pay(0, 0, 0, 5, 1, 3), NONE);
    due("what -1", x.pay(0, 0, 0, 5, 1, -1), NONE);
    due("what 3 of what can't be", x.pay(0, 0, 0, 5, 17, 3), NONE);
  }

  static void payWithTheFewestCoins() {
    Edge.says(18, "the fewest COINS together");
    // 3 is 1 and 1 and 1, or 4 and 1 back.
    RingingCoins x = Edge.minted("coin 1 9 1 1;coin 2 9 1 1;coin 3 9 1 1;coin 4 9 4 1;coin 5 9 1 1;counter 0 0", "note note");
    paid(x, 3, 3, 7, 0);
    x.give(4, 5);
    paid(x, 3, 2, 8, 16);
  }

  static void payTheFirstSetLeast() {
    Edge.says(18, "of these the first set least as bits");
    RingingCoins x = Edge.minted("coin 1 9 3 1;coin 2 9 1 1;coin 3 9 2 1;coin 4 9 4 1;coin 5 9 5 1;counter 0 0", "note note");
    // 7 is 3 and 4, or 2 and 5.
    paid(x, 7, 2, 9, 0);
    // 6 is 2 and 4, or 1 and 5; 3, 1 and 2 would be less as bits, but they are more COINS.
    paid(x, 6, 2, 12, 0);
    x.give(2, 5);
    // 2 is 4 less 2, not 3 and 1 less 2, though the first set of this one is less.
    paid(x, 2, 2, 8, 4);
  }

  static void payTheSecondSetLeast() {
    Edge.says(18, "of these the first set least as bits, then the second");
    RingingCoins x = Edge.minted("coin 1 9 9 1;coin 2 9 2 1;coin 3 9 1 1;coin 4 9 2 1;coin 5 9 10 1;counter 0 0", "note note");
    for (int coin = 1; coin < 4; coin++) {
      x.give(coin, 5);
    }
    // 9 less 2 or 9 less the other 2.
    paid(x, 7, 2, 1, 2);
    // 9 less 1 comes before 10 less 2, for its first set is less.
    paid(x, 8, 2, 1, 4);
  }

  static void aSetIsNotSafeBesideOneOfAnotherWorth() {
    Edge.says(18, "SAFE is a set of what one HOLDS, if no other set of this has an ALIKE CHORD and another WORTH");
    RingingCoins x = Edge.minted("coin 100 9 1 1;coin 100 9 2 1;coin 300 9 4 1;counter 0 0", "note note");
    due("1", x.pay(0, 0, 0, 5, 1, 0), CANNOT);
    due("2", x.pay(0, 0, 0, 5, 2, 0), CANNOT);
    due("3", x.pay(0, 0, 0, 5, 3, 0), CANNOT);
    paid(x, 4, 1, 4, 0);
    due("5", x.pay(0, 0, 0, 5, 5, 0), CANNOT);
    x.give(1, 5);
    paid(x, 1, 1, 1, 0);
    paid(x, 2, 2, 4, 2);
  }

  static void aSetIsSafeBesideOneOfItsWorth() {
    Edge.says(18, "and another WORTH. To PAY");
    RingingCoins x = Edge.minted("coin 100 9 3 1;coin 100 9 3 1;counter 0 0", "note 7 if many=2");
    paid(x, 3, 1, 1, 0);
    paid(x, 6, 2, 3, 0);
  }

  static void theEmptySetMayNotBeSafe() {
    Edge.says(18, "SAFE is a set of what one HOLDS");
    RingingCoins x = Edge.minted("coin 100 9 1 1;coin 200 20 2 1;coin 300 9 0 1;counter 0 9", "note note");
    due("0 by who HOLDS what is not heard", x.pay(0, 0, 0, 5, 0, 0), CANNOT);
    due("0 to who HOLDS what is not heard", x.pay(0, 0, 5, 0, 0, 0), CANNOT);
    x.give(0, 3);
    paid(x, 0, 0, 0, 0);
    paid(x, 2, 1, 2, 0);
    // Alone COIN 0 is not heard: neither it nor the empty set is SAFE, and all others are.
    RingingCoins y = Edge.minted("coin 100 9 1 1;coin 200 9 2 1;counter 0 0", "strength 0 if many=1 and coin=0");
    due("prices without the empty set", y.prices(0, 0, 0, 5, 9), 2);
    due("1", y.pay(0, 0, 0, 5, 1, 0), CANNOT);
    paid(y, 2, 1, 2, 0);
    paid(y, 3, 2, 3, 0);
  }

  static void changeMustBeSafeToo() {
    Edge.says(18, "a SAFE set of what the other one HOLDS back");
    RingingCoins x = dealers();
    paid(x, 3, 2, 4, 2);
    x.retune(4, 200);
    due("2 and 20 sound alike", x.pay(0, 0, 0, 5, 3, 0), CANNOT);
    paid(x, 5, 1, 4, 0);
  }

  // ---- promise 19

  static void doneHandsBothSetsOver() {
    Edge.says(19, "DONE: what is to PAY falls (both sets), and is HELD by the other one then");
    RingingCoins x = dealers();
    due("done 4", x.done(0, 0, 0, 5, 4), 3);
    int[] holder = {5, 0, 5, 0, 5};
    int[] falls = {1, 1, 1, 0, 0};
    for (int coin = 0; coin < 5; coin++) {
      due("COIN " + coin + " is HELD by", x.coin(coin, 4), holder[coin]);
      due("COIN " + coin + " has FALLEN", x.coin(coin, 5), falls[coin]);
    }
  }

  static void doneChangesWhatIsHeard() {
    Edge.says(19, "DONE: what is to PAY falls (both sets)");
    RingingCoins x = dealers();
    due("a LAW of cracks", Check.law(x, "note note+cracks"), 1);
    due("before", x.sounds(1, 0, 4, 2, 0), 300);
    due("done 5", x.done(1, 0, 0, 5, 5), 1);
    due("behind", x.sounds(1, 0, 4, 2, 0), 301);
    due("the others", x.sounds(1, 0, 1, 0, 0), 100);
  }

  static void doneOfNothing() {
    Edge.says(19, "DONE: COINS together");
    RingingCoins x = dealers();
    String before = Edge.stateOf(x);
    due("done 0", x.done(0, 0, 0, 5, 0), 0);
    Edge.nothingHappened(x, before);
  }

  static void doneOfAllTwelve() {
    Edge.says(19, "DONE: COINS together");
    RingingCoins x = Edge.minted(Edge.twelve(1) + "counter 0 0", "note note");
    due("done 12", x.done(0, 0, 0, 5, 12), 12);
    due("WORTH of what PERSON 5 HOLDS", x.count(15), 12);
    due("WORTH of what PERSON 0 HOLDS", x.count(10), 0);
    due("the last has FALLEN", x.coin(11, 5), 1);
    due("back again", x.done(0, 0, 5, 0, 12), 12);
    due("WORTH of what PERSON 0 HOLDS", x.count(10), 12);
  }

  static void doneCant() {
    Edge.says(19, "-2, and nothing happens: it can't be");
    RingingCoins x = dealers();
    String before = Edge.stateOf(x);
    due("17", x.done(0, 0, 0, 5, 17), CANNOT);
    due("9999", x.done(0, 0, 0, 5, 9999), CANNOT);
    due("nothing is heard", x.done(0, 1, 0, 5, 0), CANNOT);
    Edge.nothingHappened(x, before);
  }

  /** So many falls take more than 512 calls: the document lets no shorter way to the edge that it names. */
  private static RingingCoins worn(int coin, int falls) {
    RingingCoins x = dealers();
    for (int i = 0; i < falls; i++) {
      x.fall(1 << coin);
    }
    due("falls", x.coin(coin, 5), falls);
    return x;
  }

  static void doneUpTo9999Falls() {
    Edge.says(19, "(9999 times each at most)");
    RingingCoins x = worn(2, 9998);
    due("the last", x.done(0, 0, 0, 5, 5), 1);
    due("falls", x.coin(2, 5), 9999);
    due("back", x.done(0, 0, 5, 0, 5), CANNOT);
    due("it is HELD by", x.coin(2, 4), 5);
  }

  static void doneIsRefusedIfOneHasFallen9999Times() {
    Edge.says(19, "(or one has FALLEN 9999 times)");
    RingingCoins x = worn(2, 9999);
    String before = Edge.stateOf(x);
    due("it could be", x.pay(0, 0, 0, 5, 15, 1), 12);
    due("15 with it", x.done(0, 0, 0, 5, 15), CANNOT);
    Edge.nothingHappened(x, before);
    due("10 without it", x.done(0, 0, 0, 5, 10), 1);
  }

  static void doneIsRefusedIfOneOfTheChangeHasFallen9999Times() {
    Edge.says(19, "(or one has FALLEN 9999 times)");
    RingingCoins x = worn(1, 9999);
    String before = Edge.stateOf(x);
    due("3 with it back", x.done(0, 0, 0, 5, 3), CANNOT);
    Edge.nothingHappened(x, before);
    due("5 without it", x.done(0, 0, 0, 5, 5), 1);
  }

  static void doneWithoutPeople() {
    Edge.says(19, "NONE without these");
    RingingCoins x = dealers();
    String before = Edge.stateOf(x);
    for (int person : NO_PEOPLE) {
      due("one " + person, x.done(0, 0, person, 5, 0), NONE);
      due("other " + person, x.done(0, 0, 0, person, 5), NONE);
    }
    due("to himself", x.done(0, 0, 0, 0, 0), NONE);
    Edge.nothingHappened(x, before);
  }

  static void doneWithoutAPrice() {
    Edge.says(19, "NONE without these");
    RingingCoins x = dealers();
    for (int price : NO_PRICES) {
      due("price " + price, x.done(0, 0, 0, 5, price), NONE);
    }
  }

  static void doneWithoutLawOrCounter() {
    Edge.says(19, "NONE without these");
    RingingCoins x = dealers();
    String before = Edge.stateOf(x);
    for (int law : NO_LAWS) {
      due("LAW " + law, x.done(law, 0, 0, 5, 5), NONE);
    }
    for (int counter : NO_COUNTERS) {
      due("COUNTER " + counter, x.done(0, counter, 0, 5, 5), NONE);
    }
    Edge.nothingHappened(x, before);
    due("no MINT", lawWithoutMint().done(0, 0, 0, 5, 0), NONE);
  }

  // ---- promise 20

  static void pricesFromOneOn() {
    Edge.says(20, "PRICES from 1 to p that can be paid so");
    RingingCoins x = dealers();
    due("to 0", x.prices(0, 0, 0, 5, 0), 0);
    due("to 1", x.prices(0, 0, 0, 5, 1), 1);
    due("to 2", x.prices(0, 0, 0, 5, 2), 1);
    due("to 3", x.prices(0, 0, 0, 5, 3), 2);
  }

  static void pricesUpToP() {
    Edge.says(20, "PRICES from 1 to p that can be paid so");
    RingingCoins x = dealers();
    // 1 3 4 5 6 8 9 10 11 13 14 15 16, with and without 2 back.
    due("to 15", x.prices(0, 0, 0, 5, 15), 12);
    due("to 16", x.prices(0, 0, 0, 5, 16), 13);
    due("to 17", x.prices(0, 0, 0, 5, 17), 13);
  }

  static void pricesUpTo999() {
    Edge.says(20, "PRICES (p 0 to 999)");
    RingingCoins x = Edge.minted("coin 1 9 999 1;coin 2 9 1 1;counter 0 0", "note note");
    due("to 998", x.prices(0, 0, 0, 5, 998), 1);
    due("to 999, and 1000 is not asked", x.prices(0, 0, 0, 5, 999), 2);
    due("to 999 again", x.prices(0, 0, 0, 5, 999), 2);
    for (int p : NO_MOST_PRICES) {
      due("to " + p, x.prices(0, 0, 0, 5, p), NONE);
    }
  }

  static void eachPriceOnce() {
    Edge.says(20, "how many");
    RingingCoins x = Edge.minted("coin 1 9 1 1;coin 2 9 1 1;coin 3 9 1 1;counter 0 0", "note note");
    due("1, 2 and 3, though by seven sets", x.prices(0, 0, 0, 5, 9), 3);
  }

  static void pricesOfOthersBehind() {
    Edge.says(20, "PRICES from 1 to p that can be paid so");
    RingingCoins x = dealers();
    due("from 0 to 5", x.prices(0, 0, 0, 5, 999), 13);
    due("from 0 to one without COINS", x.prices(0, 0, 0, 3, 999), 7);
    due("from 0 to 5 again", x.prices(0, 0, 0, 5, 999), 13);
    due("from one without COINS to 5", x.prices(0, 0, 3, 5, 999), 0);
    // 2 less 0 and 1, and 20 and 22 less each of 0, 1, 5, 6, 10, 11, 15 and 16.
    due("from 5 to 0", x.prices(0, 0, 5, 0, 999), 18);
    due("from one without COINS to another one", x.prices(0, 0, 2, 3, 999), 0);
  }

  static void pricesThatCantBe() {
    Edge.says(20, "how many");
    RingingCoins x = dealers();
    due("where nothing is heard", x.prices(0, 1, 0, 5, 999), 0);
    due("from one without COINS", x.prices(0, 0, 3, 5, 999), 0);
    due("of no COINS at all", Edge.minted("counter 0 0", "note 1").prices(0, 0, 0, 5, 999), 0);
  }

  static void pricesWithoutPeople() {
    Edge.says(20, "NONE without these");
    RingingCoins x = dealers();
    for (int person : NO_PEOPLE) {
      due("one " + person, x.prices(0, 0, person, 5, 9), NONE);
      due("other " + person, x.prices(0, 0, 0, person, 9), NONE);
    }
    due("to himself", x.prices(0, 0, 5, 5, 9), NONE);
  }

  static void pricesWithoutLawOrCounter() {
    Edge.says(20, "NONE without these");
    RingingCoins x = dealers();
    for (int law : NO_LAWS) {
      due("LAW " + law, x.prices(law, 0, 0, 5, 9), NONE);
    }
    for (int counter : NO_COUNTERS) {
      due("COUNTER " + counter, x.prices(0, counter, 0, 5, 9), NONE);
    }
    due("no MINT", lawWithoutMint().prices(0, 0, 0, 5, 9), NONE);
  }

  // ---- promise 21

  static void theCounterOnWhichMostCan() {
    Edge.says(21, "BEST COUNTER: on which most can, of several the first");
    RingingCoins x = Edge.minted("coin 100 10 1 1;coin 200 10 2 1;counter 0 10;counter 5 0;counter 5 0;counter 9 0",
        "note note", "note 7 if down<9", "strength 1 if down=0");
    due("the first of three", x.bestCounter(0, 0, 5, 9), 1);
    due("the last alone", x.bestCounter(1, 0, 5, 9), 3);
    due("the first of all", x.bestCounter(2, 0, 5, 9), 0);
  }

  static void theFirstCounterIfNoneCan() {
    Edge.says(21, "of several the first");
    RingingCoins x = Edge.minted("coin 100 10 1 1;counter 0 10;counter 5 0", "note note", "strength 0");
    due("to 0", x.bestCounter(0, 0, 5, 0), 0);
    due("to 1", x.bestCounter(0, 0, 5, 1), 1);
    due("nothing is heard", x.bestCounter(1, 0, 5, 9), 0);
    due("no COINS", Edge.minted("counter 0 0;counter 1 1", "note 1").bestCounter(0, 0, 5, 9), 0);
  }

  static void bestCounterWithoutPeople() {
    Edge.says(21, "NONE without these");
    RingingCoins x = dealers();
    for (int person : NO_PEOPLE) {
      due("one " + person, x.bestCounter(0, person, 5, 9), NONE);
      due("other " + person, x.bestCounter(0, 0, person, 9), NONE);
    }
    due("to himself", x.bestCounter(0, 0, 0, 9), NONE);
  }

  static void bestCounterWithoutLawOrMint() {
    Edge.says(21, "NONE without these");
    RingingCoins x = dealers();
    for (int law : NO_LAWS) {
      due("LAW " + law, x.bestCounter(law, 0, 5, 9), NONE);
    }
    due("no MINT", lawWithoutMint().bestCounter(0, 0, 5, 9), NONE);
  }

  static void bestCounterWithoutPrices() {
    Edge.says(21, "NONE without these");
    RingingCoins x = dealers();
    for (int p : NO_MOST_PRICES) {
      due("p " + p, x.bestCounter(0, 0, 5, p), NONE);
    }
    due("p 999", x.bestCounter(0, 0, 5, 999), 0);
  }

  // ---- promise 22

  static void tenPayments() {
    Edge.says(22, "PAYMENTS 0 to 9");
    RingingCoins x = dealers();
    for (int i = 1; i <= 10; i++) {
      due("payment " + i, x.payment(i % 2, i), i);
    }
    due("PAYMENTS", x.count(5), 10);
  }

  static void anEleventhPaymentIsRefused() {
    Edge.says(22, "or if there are 10");
    RingingCoins x = dealers();
    for (int i = 0; i < 10; i++) {
      x.payment(0, 1 + i);
    }
    String before = Edge.stateOf(x);
    due("an eleventh", x.payment(0, 31), CANNOT);
    Edge.nothingHappened(x, before);
    due("twos that CLASH", x.rounds(0, 1), clashesOf1To10());
  }

  /** Twos of the sets 1 to 10 with a COIN in common; no others CLASH where all notes are unlike. */
  private static int clashesOf1To10() {
    int twos = 0;
    for (int a = 1; a <= 10; a++) {
      for (int b = 1; b < a; b++) {
        twos += (a & b) != 0 ? 1 : 0;
      }
    }
    return twos;
  }

  static void noPaymentsThen() {
    Edge.says(22, "(counter NONE: there are none then, 0)");
    RingingCoins x = dealers();
    for (int i = 0; i < 10; i++) {
      x.payment(0, 1);
    }
    due("payment(NONE, 0)", x.payment(NONE, 0), 0);
    due("PAYMENTS", x.count(5), 0);
    due("one again", x.payment(0, 1), 1);
    due("payment(NONE, no set)", x.payment(NONE, -7), 0);
    due("PAYMENTS", x.count(5), 0);
    due("without a MINT", new RingingCoins().payment(NONE, 1), 0);
  }

  static void aPaymentOfOneCoinAtLeast() {
    Edge.says(22, "(a set of one COIN at least)");
    RingingCoins x = dealers();
    due("payment(0, 0)", x.payment(0, 0), CANNOT);
    due("PAYMENTS", x.count(5), 0);
    due("payment(0, 1)", x.payment(0, 1), 1);
    due("payment(0, 31)", x.payment(0, 31), 2);
  }

  static void aPaymentWithoutASet() {
    Edge.says(22, "-2, and nothing happens, without these");
    RingingCoins x = dealers();
    for (int set : new int[] {-1, 32, 33, 4096, Integer.MIN_VALUE, Integer.MAX_VALUE}) {
      due("set " + set, x.payment(0, set), CANNOT);
    }
    due("PAYMENTS", x.count(5), 0);
  }

  static void aPaymentWithoutACounter() {
    Edge.says(22, "-2, and nothing happens, without these");
    RingingCoins x = dealers();
    x.payment(1, 1);
    for (int counter : new int[] {-2, 2, 4, Integer.MIN_VALUE, Integer.MAX_VALUE}) {
      due("COUNTER " + counter, x.payment(counter, 1), CANNOT);
    }
    due("PAYMENTS", x.count(5), 1);
    due("no MINT", new RingingCoins().payment(0, 1), CANNOT);
  }

  // ---- promise 23

  static void noPaymentsNoRounds() {
    Edge.says(23, "ROUNDS: the fewest parts of PAYMENTS");
    RingingCoins x = dealers();
    due("none: ROUNDS", x.rounds(0, 0), 0);
    due("none: twos", x.rounds(0, 1), 0);
    x.payment(0, 31);
    due("one: ROUNDS", x.rounds(0, 0), 1);
    due("one: twos", x.rounds(0, 1), 0);
  }

  static void tenThatDoNotClash() {
    Edge.says(23, "so that in each no two CLASH");
    RingingCoins x = Edge.minted(Edge.twelve(1) + "counter 0 0", "note note");
    for (int i = 0; i < 10; i++) {
      x.payment(0, 1 << i);
    }
    due("ROUNDS", x.rounds(0, 0), 1);
    due("twos", x.rounds(0, 1), 0);
  }

  static void tenThatAllClash() {
    Edge.says(23, "so that in each no two CLASH");
    RingingCoins x = Edge.minted(Edge.twelve(1) + "counter 0 0", "note note");
    for (int i = 0; i < 10; i++) {
      x.payment(0, 1 | 1 << i);
    }
    due("ROUNDS", x.rounds(0, 0), 10);
    due("twos", x.rounds(0, 1), 45);
  }

  static void theFewestPartsOfARing() {
    Edge.says(23, "the fewest parts of PAYMENTS");
    RingingCoins x = dealers();
    for (int set : new int[] {3, 6, 12, 24, 17}) {
      x.payment(0, set);
    }
    due("a ring of five: ROUNDS", x.rounds(0, 0), 3);
    due("a ring of five: twos", x.rounds(0, 1), 5);
    x.payment(NONE, 0);
    // A row 1 3 6 4: put in the order told, each where the first room is, it would be three.
    for (int set : new int[] {1, 4, 3, 6}) {
      x.payment(0, set);
    }
    due("a row of four: ROUNDS", x.rounds(0, 0), 2);
    due("a row of four: twos", x.rounds(0, 1), 3);
  }

  static void aCoinInCommon() {
    Edge.says(23, "two of them on one COUNTER, if they have a COIN in common");
    RingingCoins x = dealers();
    x.payment(0, 3);
    x.payment(0, 6);
    x.payment(0, 24);
    due("twos", x.rounds(0, 1), 1);
    due("ROUNDS", x.rounds(0, 0), 2);
  }

  static void onUnlikeCountersNoneClash() {
    Edge.says(23, "CLASH: two of them on one COUNTER");
    RingingCoins x = Edge.minted("coin 100 9 1 1;coin 100 9 2 1;counter 0 0;counter 0 0;counter 0 0", "note note");
    x.payment(0, 1);
    x.payment(1, 1);
    x.payment(2, 2);
    due("twos", x.rounds(0, 1), 0);
    due("ROUNDS", x.rounds(0, 0), 1);
    x.payment(2, 1);
    due("twos on the third", x.rounds(0, 1), 1);
  }

  static void aSetOfBothThatSoundsAlike() {
    Edge.says(23, "has a CHORD ALIKE to that of both together and another WORTH");
    RingingCoins x = Edge.minted("coin 100 9 1 1;coin 100 9 0 1;coin 100 9 2 1;coin 300 9 4 1;counter 0 0", "note note");
    x.payment(0, 1);
    x.payment(0, 8);
    due("unlike notes", x.rounds(0, 1), 0);
    x.payment(0, 4);
    due("one note", x.rounds(0, 1), 1);
    x.payment(NONE, 0);
    x.payment(0, 1);
    x.payment(0, 2);
    due("WORTH 1 and WORTH 0: that of 0 sounds like both", x.rounds(0, 1), 1);
    x.payment(NONE, 0);
    x.payment(0, 5);
    x.payment(0, 8);
    due("a part of one of them", x.rounds(0, 1), 1);
  }

  static void theEmptySetSoundsLikeBoth() {
    Edge.says(23, "some set of the COINS of both (not both whole together)");
    RingingCoins x = Edge.minted("coin 100 9 1 1;coin 200 9 0 1;coin 300 9 0 1;coin 400 9 0 1;counter 0 0;counter 0 9", "note note");
    x.payment(1, 1);
    x.payment(1, 2);
    due("both are not heard", x.rounds(0, 1), 1);
    x.payment(NONE, 0);
    x.payment(1, 4);
    x.payment(1, 2);
    x.payment(1, 8);
    due("all are WORTH nothing", x.rounds(0, 1), 0);
    due("ROUNDS", x.rounds(0, 0), 1);
  }

  static void bothTogetherSoundUnlikeEach() {
    Edge.says(23, "a CHORD ALIKE to that of both together");
    RingingCoins x = Edge.minted("coin 100 9 1 1;coin 200 9 2 1;counter 0 0", "strength 0 if many=2");
    x.payment(0, 1);
    x.payment(0, 2);
    due("together they are not heard", x.rounds(0, 1), 1);
    RingingCoins y = Edge.minted("coin 1 9 1 1;coin 100 9 1 1;coin 200 9 2 1;counter 0 0", "strength 0 if many=2");
    y.payment(0, 2);
    y.payment(0, 4);
    due("nor without COIN 0", y.rounds(0, 1), 1);
  }

  static void roundsWithoutALaw() {
    Edge.says(23, "NONE without these");
    RingingCoins x = dealers();
    for (int law : NO_LAWS) {
      due("LAW " + law, x.rounds(law, 0), NONE);
      due("LAW " + law, x.rounds(law, 1), NONE);
    }
    due("a new object", new RingingCoins().rounds(0, 0), NONE);
  }

  static void roundsWithoutAWhat() {
    Edge.says(23, "What 0: ROUNDS, 1: how many twos CLASH; NONE without these");
    RingingCoins x = dealers();
    due("what 2", x.rounds(0, 2), NONE);
    due("what -1", x.rounds(0, -1), NONE);
  }
}
