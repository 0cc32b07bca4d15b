/** Edges of COINS and COUNTERS as they are, and of what happens to them: promises 6 to 10. */
final class CoinEdges {
  private static final int NONE = Edge.NONE;
  private static final int[] NO_COINS = {-1, 2, 12, 31, 32, Integer.MIN_VALUE, Integer.MAX_VALUE};

  private CoinEdges() {
  }

  private static void due(String call, long got, long want) {
    Edge.due(call, got, want);
  }

  private static RingingCoins two() {
    return Edge.minted("coin 1 2 3 4;coin 5 6 7 8;counter 9 10;counter 11 12", "note note");
  }

  // ---- promise 6

  static void coinWithoutACoin() {
    Edge.says(6, "NONE without these");
    RingingCoins x = two();
    for (int coin : NO_COINS) {
      due("coin(" + coin + ", 0)", x.coin(coin, 0), NONE);
    }
    due("coin(1, 0)", x.coin(1, 0), 5);
  }

  static void coinOfTwelve() {
    Edge.says(6, "COINS 0 to 11");
    RingingCoins x = Edge.minted(Edge.twelve(7) + "counter 0 0");
    due("coin(0, 0)", x.coin(0, 0), 100);
    due("coin(11, 0)", x.coin(11, 0), 1200);
    due("coin(12, 0)", x.coin(12, 0), NONE);
  }

  static void coinWithoutAWhat() {
    Edge.says(6, "what 0: note, 1: strength, 2: WORTH, 3: tough, 4: who HOLDS it, 5: how often it has FALLEN, 6: cracks");
    RingingCoins x = two();
    int[] due = {5, 6, 7, 8, 0, 0, 0};
    for (int what = 0; what < 7; what++) {
      due("coin(1, " + what + ")", x.coin(1, what), due[what]);
    }
    due("coin(1, 7)", x.coin(1, 7), NONE);
    due("coin(1, -1)", x.coin(1, -1), NONE);
    due("coin(1, least)", x.coin(1, Integer.MIN_VALUE), NONE);
  }

  static void coinWithoutAMint() {
    Edge.says(6, "NONE without these");
    for (int what = 0; what < 7; what++) {
      due("coin(0, " + what + ")", new RingingCoins().coin(0, what), NONE);
    }
    due("a MINT without COINS", Edge.minted("counter 0 0").coin(0, 0), NONE);
  }

  static void cracksAreDownwards() {
    Edge.says(6, "has as many cracks as its falls by tough, downwards");
    RingingCoins x = Edge.minted("coin 0 1 0 3;coin 0 1 0 1;coin 0 1 0 99;counter 0 0");
    int[] due = {0, 0, 0, 1, 1, 1, 2};
    for (int falls = 0; falls < 7; falls++) {
      due("falls", x.coin(0, 5), falls);
      due("tough 3, fallen " + falls, x.coin(0, 6), due[falls]);
      due("tough 1, fallen " + falls, x.coin(1, 6), falls);
      x.fall(7);
    }
    for (int falls = 7; falls < 98; falls++) {
      x.fall(4);
    }
    due("tough 99, fallen 98", x.coin(2, 6), 0);
    x.fall(4);
    due("tough 99, fallen 99", x.coin(2, 6), 1);
  }

  // ---- promise 7

  static void counterWithoutACounter() {
    Edge.says(7, "NONE without these");
    RingingCoins x = two();
    for (int counter : NO_COINS) {
      due("counter(" + counter + ", 0)", x.counter(counter, 0), NONE);
    }
    due("counter(1, 0)", x.counter(1, 0), 11);
  }

  static void counterOfFour() {
    Edge.says(7, "COUNTERS 0 to 3");
    RingingCoins x = Edge.minted("counter 1 0;counter 2 0;counter 3 0;counter 4 0");
    due("counter(0, 0)", x.counter(0, 0), 1);
    due("counter(3, 0)", x.counter(3, 0), 4);
    due("counter(4, 0)", x.counter(4, 0), NONE);
  }

  static void counterWithoutAWhat() {
    Edge.says(7, "what 0: down, 1: damp");
    RingingCoins x = two();
    due("counter(1, 0)", x.counter(1, 0), 11);
    due("counter(1, 1)", x.counter(1, 1), 12);
    due("counter(1, 2)", x.counter(1, 2), NONE);
    due("counter(1, -1)", x.counter(1, -1), NONE);
  }

  static void counterWithoutAMint() {
    Edge.says(7, "NONE without these");
    due("counter(0, 0)", new RingingCoins().counter(0, 0), NONE);
    due("counter(0, 1)", new RingingCoins().counter(0, 1), NONE);
  }

  // ---- promise 8

  static void giveToTheFirstAndTheLastPerson() {
    Edge.says(8, "Each COIN is HELD by a PERSON, 0 to 5");
    RingingCoins x = two();
    due("give(1, 5)", x.give(1, 5), 0);
    due("it is HELD", x.coin(1, 4), 5);
    due("give(1, 5) again", x.give(1, 5), 5);
    due("give(1, 0)", x.give(1, 0), 5);
    due("it is HELD", x.coin(1, 4), 0);
    due("the other COIN", x.coin(0, 4), 0);
  }

  static void giveIsRefusedWithoutAPerson() {
    Edge.says(8, "NONE, and nothing happens, without these");
    RingingCoins x = two();
    x.give(0, 3);
    String before = Edge.stateOf(x);
    for (int person : new int[] {-1, 6, 7, Integer.MIN_VALUE, Integer.MAX_VALUE}) {
      due("give(0, " + person + ")", x.give(0, person), NONE);
    }
    Edge.nothingHappened(x, before);
  }

  static void giveIsRefusedWithoutACoin() {
    Edge.says(8, "NONE, and nothing happens, without these");
    RingingCoins x = two();
    String before = Edge.stateOf(x);
    for (int coin : NO_COINS) {
      due("give(" + coin + ", 3)", x.give(coin, 3), NONE);
    }
    Edge.nothingHappened(x, before);
  }

  static void giveIsRefusedWithoutAMint() {
    Edge.says(8, "NONE, and nothing happens, without these");
    RingingCoins x = new RingingCoins();
    due("give(0, 3)", x.give(0, 3), NONE);
    Check.mint(x, "coin 1 2 3 4;counter 0 0");
    due("HELD by", x.coin(0, 4), 0);
  }

  // ---- promise 9

  static void retuneToTheLeastAndTheGreatest() {
    Edge.says(9, "A COIN's note becomes another one (0 to 2400): what it was");
    RingingCoins x = two();
    due("retune(1, 2400)", x.retune(1, 2400), 5);
    due("sounds", x.sounds(0, 0, 2, 1, 0), 2400);
    due("retune(1, 0)", x.retune(1, 0), 2400);
    due("sounds", x.sounds(0, 0, 2, 1, 0), 0);
    due("retune(1, 0) again", x.retune(1, 0), 0);
    due("the other COIN", x.coin(0, 0), 1);
  }

  static void retuneIsRefusedOutside() {
    Edge.says(9, "NONE, and nothing happens, without these");
    RingingCoins x = two();
    String before = Edge.stateOf(x);
    for (int note : new int[] {-1, 2401, Integer.MIN_VALUE, Integer.MAX_VALUE}) {
      due("retune(1, " + note + ")", x.retune(1, note), NONE);
    }
    Edge.nothingHappened(x, before);
    due("sounds", x.sounds(0, 0, 2, 1, 0), 5);
  }

  static void retuneIsRefusedWithoutACoin() {
    Edge.says(9, "NONE, and nothing happens, without these");
    RingingCoins x = two();
    String before = Edge.stateOf(x);
    for (int coin : NO_COINS) {
      due("retune(" + coin + ", 100)", x.retune(coin, 100), NONE);
    }
    Edge.nothingHappened(x, before);
    due("without a MINT", new RingingCoins().retune(0, 100), NONE);
  }

  // ---- promise 10

  static void theEmptySetFalls() {
    Edge.says(10, "how many COINS");
    RingingCoins x = two();
    String before = Edge.stateOf(x);
    due("fall(0)", x.fall(0), 0);
    Edge.nothingHappened(x, before);
    due("of a MINT without COINS", Edge.minted("counter 0 0").fall(0), 0);
  }

  static void allTwelveFall() {
    Edge.says(10, "how many COINS");
    RingingCoins x = Edge.minted(Edge.twelve(1) + "counter 0 0");
    due("fall(4095)", x.fall(4095), 12);
    due("fall(2048)", x.fall(2048), 1);
    due("falls of COIN 0", x.coin(0, 5), 1);
    due("falls of COIN 10", x.coin(10, 5), 1);
    due("falls of COIN 11", x.coin(11, 5), 2);
  }

  static void fallIsRefusedWithoutASet() {
    Edge.says(10, "NONE, and nothing happens, without it");
    RingingCoins x = two();
    String before = Edge.stateOf(x);
    for (int set : new int[] {4, 5, 7, 4096, -1, -4, Integer.MIN_VALUE, Integer.MAX_VALUE}) {
      due("fall(" + set + ")", x.fall(set), NONE);
    }
    Edge.nothingHappened(x, before);
    due("fall(1) of no COINS", Edge.minted("counter 0 0").fall(1), NONE);
    due("fall(4096) of twelve", Edge.minted(Edge.twelve(1) + "counter 0 0").fall(4096), NONE);
  }

  static void fallIsRefusedWithoutAMint() {
    Edge.says(10, "(no MINT)");
    due("fall(0)", new RingingCoins().fall(0), NONE);
    due("fall(1)", new RingingCoins().fall(1), NONE);
  }

  /** So many falls take more than 512 calls: the document lets no shorter way to the edge that it names. */
  private static RingingCoins worn(int falls) {
    RingingCoins x = two();
    for (int i = 0; i < falls; i++) {
      x.fall(1);
    }
    due("falls", x.coin(0, 5), falls);
    return x;
  }

  static void fallsUpTo9999() {
    Edge.says(10, "FALL: a set of COINS falls (9999 times each at most)");
    RingingCoins x = worn(9998);
    due("the last", x.fall(3), 2);
    due("falls of COIN 0", x.coin(0, 5), 9999);
    due("cracks", x.coin(0, 6), 2499);
    due("one more", x.fall(1), NONE);
    due("falls of COIN 0", x.coin(0, 5), 9999);
  }

  static void fallIsRefusedIfOneHasFallen9999Times() {
    Edge.says(10, "or if one has FALLEN 9999 times");
    RingingCoins x = worn(9999);
    String before = Edge.stateOf(x);
    due("both", x.fall(3), NONE);
    due("the one", x.fall(1), NONE);
    Edge.nothingHappened(x, before);
    due("the other one", x.fall(2), 1);
    due("none", x.fall(0), 0);
  }

  static void anotherMintIsNotWorn() {
    Edge.says(10, "or if one has FALLEN 9999 times");
    RingingCoins x = worn(9999);
    Check.mint(x, "coin 1 2 3 4;counter 0 0");
    due("fall(1)", x.fall(1), 1);
  }
}
