/** Edges of LANDS, forgers, DRAWS and YEARS, of counts and of IMAGES: promises 24 to 30. */
final class LandEdges {
  private static final int NONE = Edge.NONE;
  private static final int CANNOT = Edge.CANNOT;
  private static final String THREE = "coin 100 50 1 1;coin 200 50 2 2;coin 300 50 4 3;counter 0 0;counter 5 50";

  private LandEdges() {
  }

  private static void due(String call, long got, long want) {
    Edge.due(call, got, want);
  }

  private static RingingCoins lawWithoutMint() {
    RingingCoins x = new RingingCoins();
    due("a LAW", Check.law(x, "note 1"), 0);
    return x;
  }

  // ---- promise 24

  static void aLandWithoutAPrice() {
    Edge.says(24, "A LAND (p 0 to 200");
    due("p 0", Edge.minted(THREE, "note note").land(0, 0, 0, 4), 0);
    due("p 0 though all sound alike", Edge.minted(THREE, "note 1").land(0, 0, 0, 4), 0);
    due("p 0 of no COINS", Edge.minted("counter 0 0", "note 1").land(0, 0, 0, 1), 0);
    due("p 1 of no COINS", Edge.minted("counter 0 0", "note 1").land(0, 0, 1, 1), CANNOT);
  }

  static void aLandOf200() {
    Edge.says(24, "A LAND (p 0 to 200");
    int[] worth = {1, 2, 3, 4, 8, 12, 16, 32, 48, 64, 128, 192};
    StringBuilder coins = new StringBuilder();
    for (int i = 0; i < 12; i++) {
      coins.append("coin ").append(100 * i).append(" 9 ").append(worth[i]).append(" 9;");
    }
    RingingCoins x = Edge.minted(coins + "counter 0 0", "note note");
    // One of each three at most, and each price up to 255 is to be had; fewer COINS may do up to 200.
    due("p 200", x.land(0, 0, 200, 4), leastLandOf200(worth));
    due("p 201", x.land(0, 0, 201, 4), NONE);
  }

  /** The fewest, then the least as bits, where all notes are unlike. */
  private static int leastLandOf200(int[] worth) {
    int best = CANNOT;
    for (int land = 0; land < 4096; land++) {
      boolean[] can = new boolean[4000];
      for (int set = land; set > 0; set = set - 1 & land) {
        int sum = 0;
        for (int i = 0; i < 12; i++) {
          sum += (set >> i & 1) * worth[i];
        }
        can[sum] |= Integer.bitCount(set) <= 4;
      }
      boolean all = true;
      for (int price = 1; price <= 200; price++) {
        all &= can[price];
      }
      if (all && (best == CANNOT || Integer.bitCount(land) < Integer.bitCount(best))) {
        best = land;
      }
    }
    due("there is one", best > 0 ? 1 : 0, 1);
    return best;
  }

  static void landWithoutAP() {
    Edge.says(24, "NONE without these");
    RingingCoins x = Edge.minted(THREE, "note note");
    for (int p : new int[] {-1, 201, Integer.MIN_VALUE, Integer.MAX_VALUE}) {
      due("p " + p, x.land(0, 0, p, 1), NONE);
    }
    due("p 200", x.land(0, 0, 200, 1), CANNOT);
  }

  static void landWithoutAK() {
    Edge.says(24, "k 1 to 4)");
    RingingCoins x = Edge.minted(THREE, "note note");
    for (int k : new int[] {-1, 0, 5, Integer.MIN_VALUE, Integer.MAX_VALUE}) {
      due("k " + k, x.land(0, 0, 1, k), NONE);
    }
    due("k 1", x.land(0, 0, 1, 1), 1);
    due("k 4", x.land(0, 0, 1, 4), 1);
  }

  static void eachPriceUpToP() {
    Edge.says(24, "each price from 1 to p is the WORTH of a set of at most k of these");
    RingingCoins x = Edge.minted(THREE, "note note");
    int[] due = {0, 1, 3, 3, 7, 7, 7, 7, CANNOT};
    for (int p = 0; p <= 8; p++) {
      due("p " + p, x.land(0, 0, p, 3), due[p]);
    }
  }

  static void setsOfAtMostK() {
    Edge.says(24, "a set of at most k of these");
    RingingCoins x = Edge.minted(Edge.twelve(1) + "counter 0 0", "note note");
    for (int k = 1; k <= 4; k++) {
      due("p " + k + ", k " + k, x.land(0, 0, k, k), (1 << k) - 1);
      due("p " + (k + 1) + ", k " + k, x.land(0, 0, k + 1, k), CANNOT);
    }
  }

  static void theFewestCoins() {
    Edge.says(24, "the fewest COINS of all (of several the least as bits)");
    // 1 to 3 are to be had by COIN 4 and one of the others, or by three of the others.
    RingingCoins x = Edge.minted("coin 1 9 1 1;coin 2 9 1 1;coin 3 9 1 1;coin 4 9 1 1;coin 5 9 2 1;counter 0 0", "note note");
    due("the fewest, of several the least", x.land(0, 0, 3, 3), 17);
    due("of one COIN the least", x.land(0, 0, 1, 3), 1);
  }

  static void allTwelveCoins() {
    Edge.says(24, "A LAND, as bits");
    StringBuilder coins = new StringBuilder();
    for (int i = 1; i <= 12; i++) {
      coins.append("coin ").append(i).append(" 9 ").append(i).append(" 1;");
    }
    RingingCoins x = Edge.minted(coins + "counter 0 0", "note note");
    due("all twelve", x.land(0, 0, 12, 1), 4095);
    due("a thirteenth price", x.land(0, 0, 13, 1), CANNOT);
  }

  static void noLand() {
    Edge.says(24, "-2: there is none");
    RingingCoins x = Edge.minted(THREE, "note note", "note 1");
    due("not so much WORTH", x.land(0, 0, 8, 4), CANNOT);
    due("not by so few", x.land(0, 0, 3, 1), CANNOT);
    due("all sound alike", x.land(1, 0, 2, 1), CANNOT);
  }

  static void aLandBehindNone() {
    Edge.says(24, "the fewest COINS of all");
    RingingCoins x = Edge.minted(THREE, "note note", "note 1");
    due("all sound alike", x.land(1, 0, 7, 4), CANNOT);
    due("by another LAW", x.land(0, 0, 3, 3), 3);
    due("all sound alike, again", x.land(1, 0, 7, 4), CANNOT);
    due("by another LAW, all", x.land(0, 0, 7, 3), 7);
  }

  static void mistakenSetsOfAtMostK() {
    Edge.says(24, "no two sets of at most k of these are MISTAKEN on a told COUNTER");
    // Twos sound alike whatever they are.
    RingingCoins x = Edge.minted("coin 100 9 1 1;coin 200 9 2 1;coin 300 9 3 1;counter 0 0", "note 900 if many=2", "note note");
    due("by one", x.land(0, 0, 3, 1), 7);
    due("by two, of two COINS", x.land(0, 0, 3, 2), 3);
    due("by two, of three COINS", x.land(0, 0, 4, 2), CANNOT);
    due("where they do not", x.land(1, 0, 4, 2), 7);
  }

  static void mistakenOnlyOnTheToldCounter() {
    Edge.says(24, "on a told COUNTER");
    RingingCoins x = Edge.minted(THREE, "note note");
    due("COUNTER 0", x.land(0, 0, 1, 1), 1);
    due("COUNTER 1, where none is heard", x.land(0, 1, 1, 1), CANNOT);
  }

  static void mistakenCoinsThatAreNotOfTheLand() {
    Edge.says(24, "of at most k of these are MISTAKEN");
    RingingCoins x = Edge.minted("coin 100 9 2 1;coin 100 9 1 1;coin 300 9 2 1;counter 0 0", "note note");
    due("the COIN 0 is left out", x.land(0, 0, 2, 1), 6);
    due("by two", x.land(0, 0, 3, 2), 6);
  }

  static void landWithoutLawOrCounter() {
    Edge.says(24, "NONE without these");
    RingingCoins x = Edge.minted(THREE, "note note");
    for (int law : new int[] {-1, 1, 6, Integer.MIN_VALUE, Integer.MAX_VALUE}) {
      due("LAW " + law, x.land(law, 0, 0, 1), NONE);
    }
    for (int counter : new int[] {-1, 2, 4, Integer.MIN_VALUE, Integer.MAX_VALUE}) {
      due("COUNTER " + counter, x.land(0, counter, 0, 1), NONE);
    }
    due("no MINT", lawWithoutMint().land(0, 0, 0, 1), NONE);
  }

  // ---- promise 25

  static void theForgerAlone() {
    Edge.says(25, "FORGER (n 1 to 200, g 1 to 200)");
    RingingCoins x = new RingingCoins();
    due("forger(1, 1)", x.forger(1, 1), 0);
    due("forger(1, 200)", x.forger(1, 200), 0);
    due("forger(2, 1)", x.forger(2, 1), 1);
    due("forger(2, 200)", x.forger(2, 200), 1);
  }

  static void theForgerOf200() {
    Edge.says(25, "FORGER (n 1 to 200, g 1 to 200)");
    RingingCoins x = new RingingCoins();
    due("forger(200, 1)", x.forger(200, 1), 199);
    due("forger(200, 200)", x.forger(200, 200), 8);
    due("forger(200, 100)", x.forger(200, 100), 8);
  }

  static void fallsOfGAtMost() {
    Edge.says(25, "falls of some of them, g at most");
    RingingCoins x = new RingingCoins();
    due("forger(8, 4)", x.forger(8, 4), 3);
    // 3 of 8 leave 5, 2 of 5 leave 3, and so on.
    due("forger(8, 3)", x.forger(8, 3), 4);
    // 2 by 2 down to 4, then two more.
    due("forger(8, 2)", x.forger(8, 2), 4);
    due("forger(8, 1)", x.forger(8, 1), 7);
    due("forger(10, 2)", x.forger(10, 2), 5);
  }

  static void howeverTheyComeOut() {
    Edge.says(25, "the fewest falls by which it is found, however they come out");
    RingingCoins x = new RingingCoins();
    int[] due = {0, 0, 1, 2, 2, 3, 3, 3, 3, 4};
    for (int n = 1; n <= 9; n++) {
      due("forger(" + n + ", 200)", x.forger(n, 200), due[n]);
    }
    due("forger(128, 64)", x.forger(128, 64), 7);
    due("forger(129, 200)", x.forger(129, 200), 8);
  }

  static void theForgerOutside() {
    Edge.says(25, "NONE without these");
    RingingCoins x = new RingingCoins();
    for (int outside : new int[] {0, 201, -1, Integer.MIN_VALUE, Integer.MAX_VALUE}) {
      due("forger(" + outside + ", 5)", x.forger(outside, 5), NONE);
      due("forger(5, " + outside + ")", x.forger(5, outside), NONE);
    }
  }

  // ---- promise 26

  static void seedFrom0OnAndBack() {
    Edge.says(26, "x (0 to 2147483647; 0 at first)");
    RingingCoins x = new RingingCoins();
    due("x at first", x.count(7), 0);
    due("seed(2147483647)", x.seed(2147483647), 0);
    due("x", x.count(7), 2147483647);
    due("seed(0)", x.seed(0), 2147483647);
    due("seed(1)", x.seed(1), 0);
    due("x", x.count(7), 1);
  }

  static void seedIsRefusedBelow0() {
    Edge.says(26, "NONE, and nothing happens, below 0");
    RingingCoins x = new RingingCoins();
    x.seed(77);
    due("seed(-1)", x.seed(-1), NONE);
    due("seed(least)", x.seed(Integer.MIN_VALUE), NONE);
    due("x", x.count(7), 77);
  }

  // ---- promise 27

  private static void year(RingingCoins x, int m, int who, int much, int cracks) {
    due("year(" + m + ", 0)", x.year(m, 0), who);
    due("year(" + m + ", 1)", x.year(m, 1), much);
    due("year(" + m + ", 2)", x.year(m, 2), cracks);
  }

  static void drawsGoRound() {
    Edge.says(27, "becomes x * 1103515245 + 12345, of 2147483648 the rest; a DRAW is x / 65536");
    RingingCoins x = Edge.minted(THREE);
    // 0, 12345, 1406932606, 654583775, 1449466924, 229283573, 1109335178: COINS 0 1 0, to 0 1 1.
    year(x, 1, 0, 7, 1);
    year(x, 2, 0, 5, 1);
    year(x, 3, 0, 4, 2);
  }

  static void drawsOfTheGreatestX() {
    Edge.says(27, "of 2147483648 the rest");
    RingingCoins x = Edge.minted(THREE);
    x.seed(2147483647);
    // 1043980748, 288979989, 646343466, 1751031067, 571035320, 1849869457: COINS 2 1 1, to 5 0 2.
    year(x, 1, 5, 4, 0);
    year(x, 2, 5, 4, 0);
    year(x, 3, 5, 4, 1);
  }

  static void aDrawIsDownwards() {
    Edge.says(27, "a DRAW is x / 65536");
    RingingCoins x = Edge.minted(THREE);
    x.seed(14001795);
    // x becomes 6 * 65536: COIN 0, which cracks at once; one less is a DRAW of 5: COIN 2.
    year(x, 1, 0, 7, 1);
    x.seed(303807262);
    year(x, 1, 3, 4, 0);
    RingingCoins y = Edge.minted("coin 0 1 9 1;counter 0 0");
    y.seed(256350514);
    due("the second x is 6 * 65536", y.year(1, 0), 0);
    y.seed(853214041);
    due("one less", y.year(1, 0), 5);
  }

  static void drawsGoOnWithinAYear() {
    Edge.says(27, "(x goes on;");
    RingingCoins x = Edge.minted("coin 0 1 9 1;counter 0 0");
    // DRAWS 0 21468, 9988 22117, 3498 16927: to 0, 1 and 1; each YEAR begins with the same x.
    int[] due = {0, 1, 1};
    for (int m = 1; m <= 3; m++) {
      due("year(" + m + ", 0)", x.year(m, 0), due[m - 1]);
      due("year(" + m + ", 0) again", x.year(m, 0), due[m - 1]);
    }
  }

  static void aYearOfTwelveCoins() {
    Edge.says(27, "each time a COIN (a DRAW mod COINS) falls and is HELD by a PERSON (a DRAW mod 6) then");
    RingingCoins x = Edge.minted(Edge.twelve(5) + "counter 0 0");
    due("cracks of 500", x.year(500, 2), 500);
    // DRAWS 0 and 9988: COINS 0 and 4, to 0 and 1.
    year(x, 2, 0, 55, 2);
  }

  static void aYearOfOneFallAndOf500() {
    Edge.says(27, "A YEAR of m falls (1 to 500)");
    RingingCoins x = Edge.minted("coin 0 1 9 1;counter 0 0");
    due("cracks of 1", x.year(1, 2), 1);
    due("cracks of 499", x.year(499, 2), 499);
    due("cracks of 500", x.year(500, 2), 500);
  }

  static void aYearOutside() {
    Edge.says(27, "A YEAR of m falls (1 to 500)");
    RingingCoins x = Edge.minted("coin 0 1 9 1;counter 0 0");
    for (int m : new int[] {0, 501, -1, Integer.MIN_VALUE, Integer.MAX_VALUE}) {
      for (int what = 0; what < 3; what++) {
        due("year(" + m + ", " + what + ")", x.year(m, what), NONE);
      }
    }
  }

  static void aYearWithoutCoins() {
    Edge.says(27, "NONE without these (no COINS)");
    for (int what = 0; what < 3; what++) {
      due("of a MINT of a COUNTER, what " + what, Edge.minted("counter 0 0").year(1, what), NONE);
      due("without a MINT, what " + what, new RingingCoins().year(1, what), NONE);
    }
  }

  static void aYearWithoutAWhat() {
    Edge.says(27, "what 0: who, 1: how much, 2: cracks");
    RingingCoins x = Edge.minted(THREE);
    due("what 3", x.year(1, 3), NONE);
    due("what -1", x.year(1, -1), NONE);
  }

  static void ofSeveralTheLeastPerson() {
    Edge.says(27, "who has the greatest WORTH behind it, of several the least");
    due("WORTH nothing", Edge.minted("coin 0 1 0 1;counter 0 0").year(2, 0), 0);
    // COIN 0 goes to 0 and then to 1.
    RingingCoins x = Edge.minted("coin 0 1 3 1;coin 0 1 3 1;counter 0 0");
    year(x, 2, 0, 3, 2);
    x.give(1, 4);
    year(x, 2, 1, 3, 2);
  }

  static void fallsAbove9999InAYear() {
    Edge.says(27, "(falls may be above 9999 there)");
    RingingCoins x = Edge.minted("coin 0 1 9 1;counter 0 0");
    // More than 512 calls: the document lets no shorter way to the edge that it names.
    for (int i = 0; i < 9999; i++) {
      x.fall(1);
    }
    due("cracks", x.year(500, 2), 10499);
    due("who", x.year(1, 0), 0);
    due("falls are as they were", x.coin(0, 5), 9999);
  }

  static void aYearChangesNothing() {
    Edge.says(27, "nothing else changes, and x is as it was");
    RingingCoins x = Edge.minted(THREE, "note note+falls");
    x.seed(123456789);
    x.give(1, 3);
    x.fall(6);
    x.hear(9);
    x.payment(0, 3);
    String before = Edge.stateOf(x);
    int who = x.year(500, 0);
    Edge.nothingHappened(x, before);
    due("the same again", x.year(500, 0), who);
    due("sounds are as they were", x.sounds(0, 0, 2, 1, 0), 201);
  }

  static void aYearGoesOnFromWhatIs() {
    Edge.says(27, "cracks of all COINS together");
    RingingCoins x = Edge.minted(THREE);
    x.fall(7);
    x.fall(7);
    // 2 / 1, 2 / 2 and 2 / 3, and COIN 0 once more.
    year(x, 1, 0, 7, 4);
  }

  // ---- promise 28

  static void countOfPeople() {
    Edge.says(28, "10 and a PERSON: WORTH of what he HOLDS");
    RingingCoins x = Edge.minted(THREE);
    x.give(1, 5);
    x.give(2, 4);
    int[] due = {1, 0, 0, 0, 4, 2};
    for (int person = 0; person < 6; person++) {
      due("count(" + (10 + person) + ")", x.count(10 + person), due[person]);
    }
  }

  static void countOfOthers() {
    Edge.says(28, "NONE for others");
    RingingCoins x = Edge.minted(THREE);
    for (int what : new int[] {-1, 16, 17, 100, Integer.MIN_VALUE, Integer.MIN_VALUE + 10, Integer.MAX_VALUE}) {
      due("count(" + what + ")", x.count(what), NONE);
      due("of a new object: count(" + what + ")", new RingingCoins().count(what), NONE);
    }
  }

  static void countOfTheMost() {
    Edge.says(28, "What 0: COINS, 1: COUNTERS, 2: blur, 3: deaf, 4: LAWS, 5: PAYMENTS, 6: notes HEARD, 7: x, 8: bytes of the TAPE,"
        + " 9: WORTH of all COINS");
    RingingCoins x = Edge.minted(Edge.twelve(999) + "counter 0 0;counter 0 0;counter 0 0;counter 0 0;blur 999;deaf 99",
        "note 1", "note 1", "note 1", "note 1", "note 1", "note 1");
    x.seed(2147483647);
    for (int i = 0; i < 21; i++) {
      x.hear(i);
      x.payment(0, 1);
      x.feed(0, 0, 0, 0, 0);
    }
    int[] due = {12, 4, 999, 99, 6, 10, 12, 2147483647, 400, 11988, 11988, 0, 0, 0, 0, 0};
    for (int what = 0; what < 16; what++) {
      due("count(" + what + ")", x.count(what), due[what]);
    }
  }

  static void countWithoutAMint() {
    Edge.says(28, "What 0: COINS");
    RingingCoins x = new RingingCoins();
    for (int what = 0; what < 16; what++) {
      due("count(" + what + ")", x.count(what), 0);
    }
  }

  // ---- promises 29 and 30

  static void fourImages() {
    Edge.says(29, "IMAGES 0 to 3");
    RingingCoins x = Edge.minted(THREE);
    for (int k = 0; k < 4; k++) {
      x.seed(k + 10);
      due("image(" + k + ")", x.image(k), 3);
    }
    for (int k = 3; k >= 0; k--) {
      due("back(" + k + ")", x.back(k), 3);
      due("x", x.count(7), k + 10);
    }
  }

  static void imageOutside() {
    Edge.says(29, "NONE without it");
    RingingCoins x = Edge.minted(THREE);
    for (int k : new int[] {-1, 4, 32, Integer.MIN_VALUE, Integer.MAX_VALUE}) {
      due("image(" + k + ")", x.image(k), NONE);
    }
    for (int k = 0; k < 4; k++) {
      due("none was made: back(" + k + ")", x.back(k), NONE);
    }
  }

  static void imageWithoutAMint() {
    Edge.says(29, "how many COINS");
    RingingCoins x = new RingingCoins();
    due("image(0)", x.image(0), 0);
    Check.mint(x, Edge.twelve(1) + "counter 0 0");
    due("image(1)", x.image(1), 12);
    due("back(0)", x.back(0), 0);
    due("no MINT", x.fall(0), NONE);
    due("back(1)", x.back(1), 12);
    due("the MINT", x.fall(4095), 12);
  }

  static void imageMadeAgain() {
    Edge.says(29, "An IMAGE is made");
    RingingCoins x = Edge.minted(THREE);
    x.image(2);
    x.give(0, 3);
    x.image(2);
    x.give(0, 4);
    x.back(2);
    due("the later one", x.coin(0, 4), 3);
  }

  static void imageIsMadeAsItIs() {
    Edge.says(29, "all but the LAWS and the TAPE, as it is");
    RingingCoins x = Edge.minted(THREE + ";blur 5;deaf 6", "note note+falls");
    x.seed(99);
    x.give(1, 3);
    x.fall(3);
    x.retune(2, 700);
    x.hear(-5);
    x.hear(5);
    x.payment(1, 3);
    x.payment(0, 1);
    x.payment(0, 3);
    String before = Edge.stateOf(x);
    x.image(0);
    x.payment(NONE, 0);
    x.payment(0, 4);
    x.payment(0, 4);
    x.payment(0, 2);
    x.hear(Edge.NO_SOUND);
    x.hear(70);
    x.hear(80);
    Check.mint(x, "coin 1 1 1 1;counter 1 1");
    x.seed(3);
    due("back(0)", x.back(0), 3);
    Edge.nothingHappened(x, before);
    due("-5 is HEARD", x.hear(-5), CANNOT);
    due("5 is HEARD", x.hear(5), CANNOT);
    due("twos that CLASH", x.rounds(0, 1), 1);
    due("sounds", x.sounds(0, 0, 7, 0, 0), 101);
  }

  static void imageStaysWhenAllGoesOn() {
    Edge.says(30, "gone back to, it is as it was");
    RingingCoins x = Edge.minted(THREE, "note note");
    x.hear(1);
    x.payment(0, 1);
    x.image(1);
    String before = Edge.stateOf(x);
    for (int i = 0; i < 2; i++) {
      x.fall(7);
      x.give(0, 5);
      x.retune(0, 9);
      x.hear(2);
      x.hear(-2);
      x.payment(1, 2);
      x.seed(8);
      due("sounds otherwise", x.sounds(0, 0, 1, 0, 0), 9);
      due("back(1)", x.back(1), 3);
      Edge.nothingHappened(x, before);
      due("sounds as it was", x.sounds(0, 0, 1, 0, 0), 100);
      due("-2 is not HEARD", x.hear(-2), 2);
      x.back(1);
    }
  }

  static void lawsAndTapeStay() {
    Edge.says(30, "it is as it was (these stay)");
    RingingCoins x = Edge.minted(THREE, "note 1");
    x.image(0);
    Check.law(x, "note 2");
    x.feed(0, 0, 0, 0, 0);
    due("back(0)", x.back(0), 3);
    due("LAWS", x.count(4), 2);
    due("bytes", x.count(8), 20);
    due("the later LAW", x.sounds(1, 0, 1, 0, 0), 2);
  }

  static void backToWhatWasNeverMade() {
    Edge.says(30, "NONE, and nothing happens, if it was never made");
    RingingCoins x = Edge.minted(THREE);
    x.image(1);
    x.give(0, 5);
    String before = Edge.stateOf(x);
    due("back(0)", x.back(0), NONE);
    due("back(2)", x.back(2), NONE);
    due("back(3)", x.back(3), NONE);
    Edge.nothingHappened(x, before);
  }

  static void backOutside() {
    Edge.says(30, "or without it");
    RingingCoins x = Edge.minted(THREE);
    for (int k = 0; k < 4; k++) {
      x.image(k);
    }
    x.give(0, 5);
    String before = Edge.stateOf(x);
    for (int k : new int[] {-1, 4, 32, Integer.MIN_VALUE, Integer.MAX_VALUE}) {
      due("back(" + k + ")", x.back(k), NONE);
    }
    Edge.nothingHappened(x, before);
  }

  static void backOutsideOfANewObject() {
    Edge.says(30, "if it was never made, or without it");
    for (int k = -1; k <= 4; k++) {
      due("back(" + k + ")", new RingingCoins().back(k), NONE);
    }
  }
}
