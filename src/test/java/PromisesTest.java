/** For each promise of the document what it says: ordinary inputs, its edges, and wrong ones. */
public final class PromisesTest {
  private static final int NONE = RingingCoins.NONE;
  private static final int FAR = -20000;
  private static final String LIMITS = " [[[[[[[[[[";

  // COINS 1 and 2 have one note, COIN 3 lies 20 above, COIN 4 is not heard on COUNTER 1.
  private static final String SHOP = "coin 100 40 1 2;coin 500 30 2 3;coin 500 20 5 1;coin 520 50 10 9;coin 900 9 20 4;"
      + "counter 0 0;counter 60 9;counter 7 8;blur 20;deaf 2";

  public static void main(String[] args) {
    newObject();
    feedAndEnd();
    mint();
    mintFaults();
    law();
    lawFaults();
    lawLimits();
    coinAndCounter();
    giveAndRetune();
    fall();
    sounds();
    sums();
    tests();
    tones();
    blurAndDeaf();
    alike();
    hear();
    fits();
    mistaken();
    pay();
    safe();
    done();
    prices();
    bestCounter();
    payment();
    rounds();
    land();
    forger();
    seedAndYear();
    count();
    images();
    Check.close();
  }

  private static void due(String call, long got, long want) {
    Check.due(call, got, want);
  }

  private static RingingCoins shop(String... laws) {
    return minted(SHOP, laws);
  }

  private static RingingCoins minted(String mint, String... laws) {
    RingingCoins x = new RingingCoins();
    due("mint " + mint, Math.min(0, Check.mint(x, mint)), 0);
    for (int i = 0; i < laws.length; i++) {
      due("law " + laws[i], Check.law(x, laws[i]), i);
    }
    return x;
  }

  /** Promise 1. */
  private static void newObject() {
    RingingCoins x = new RingingCoins();
    due("NONE", NONE, -1);
    for (int what = 0; what <= 15; what++) {
      due("new: count " + what, x.count(what), 0);
    }
    due("new: coin", x.coin(0, 0), NONE);
    due("new: counter", x.counter(0, 0), NONE);
    due("new: give", x.give(0, 0), NONE);
    due("new: retune", x.retune(0, 0), NONE);
    due("new: fall", x.fall(0), NONE);
    due("new: sounds", x.sounds(0, 0, 0, 0, 0), FAR);
    due("new: tone", x.tone(0, 0, 0, 0, 0), FAR);
    due("new: tones", x.tones(0, 0, 0), NONE);
    due("new: alike", x.alike(0, 0, 0, 0), NONE);
    due("new: fits", x.fits(0, 0, 0, 0), NONE);
    due("new: mistaken", x.mistaken(0, 0, 0, 0, 0), NONE);
    due("new: pay", x.pay(0, 0, 0, 1, 0, 0), NONE);
    due("new: done", x.done(0, 0, 0, 1, 0), NONE);
    due("new: prices", x.prices(0, 0, 0, 1, 0), NONE);
    due("new: bestCounter", x.bestCounter(0, 0, 1, 0), NONE);
    due("new: payment", x.payment(0, 0), -2);
    due("new: rounds", x.rounds(0, 0), NONE);
    due("new: land", x.land(0, 0, 0, 1), NONE);
    due("new: year", x.year(1, 0), NONE);
    due("new: back", x.back(0), NONE);
    due("a LAW without a MINT", Check.law(x, "note 1"), 0);
    due("a LAW without a MINT: tones", x.tones(0, 0, 0), NONE);
    due("a LAW without a MINT: fall", x.fall(0), NONE);
    due("a LAW without a MINT: bestCounter", x.bestCounter(0, 0, 1, 0), NONE);
    due("a LAW without a MINT: rounds of none", x.rounds(0, 0), 0);
  }

  /** Promises 2 and 3. */
  private static void feedAndEnd() {
    RingingCoins x = new RingingCoins();
    due("end(0) of nothing", x.end(0), 0);
    due("end(1) of nothing", x.end(1), NONE);
    for (int i = 1; i <= 20; i++) {
      due("feed " + i, x.feed(0, 0, 0, 0, 0), 20 * i);
    }
    due("feed beyond 400", x.feed(0, 0, 0, 0, 0), NONE);
    due("none has come", x.count(8), 400);
    due("end(401)", x.end(401), NONE);
    due("end(-1)", x.end(-1), NONE);
    due("nothing has happened", x.count(8), 400);
    due("end(400)", x.end(400), 400);
    due("end(381)", x.end(381), 381);
    due("feed beyond 400 by one", x.feed(0, 0, 0, 0, 0), NONE);
    due("end(380)", x.end(380), 380);
    due("feed up to 400", x.feed(0, 0, 0, 0, 0), 400);
    due("end(0)", x.end(0), 0);
    // "counter 1 2;blur 34", the highest byte of each number first.
    x.feed('c' << 24 | 'o' << 16 | 'u' << 8 | 'n', 't' << 24 | 'e' << 16 | 'r' << 8 | ' ',
        '1' << 24 | ' ' << 16 | '2' << 8 | ';', 'b' << 24 | 'l' << 16 | 'u' << 8 | 'r', ' ' << 24 | '3' << 16 | '4' << 8 | 0xff);
    due("end(19)", x.end(19), 19);
    due("mint of bytes", x.mint(), 0);
    due("down", x.counter(0, 0), 1);
    due("damp", x.counter(0, 1), 2);
    due("blur", x.count(2), 34);
  }

  /** Promise 4. */
  private static void mint() {
    RingingCoins x = shop("note note");
    due("COINS", x.count(0), 5);
    due("COUNTERS", x.count(1), 3);
    x.seed(77);
    x.hear(3);
    x.payment(0, 1);
    x.give(0, 4);
    x.fall(1);
    due("mint with a FAULT", Check.mint(x, "coin"), Check.fault(4, 0));
    due("the TAPE is empty", x.count(8), 0);
    due("all stays: COINS", x.count(0), 5);
    due("all stays: HEARD", x.count(6), 1);
    due("all stays: PAYMENTS", x.count(5), 1);
    due("all stays: holder", x.coin(0, 4), 4);
    due("another MINT", Check.mint(x, " counter 1200 99 ; coin00001 1 999 99;counter 0 0  "), 1);
    due("the TAPE is empty", x.count(8), 0);
    due("nothing HEARD", x.count(6), 0);
    due("no PAYMENTS", x.count(5), 0);
    due("x stays", x.count(7), 77);
    due("LAWS stay", x.count(4), 1);
    due("blur without", x.count(2), 0);
    due("deaf without", x.count(3), 0);
    due("note", x.coin(0, 0), 1);
    due("holder at first", x.coin(0, 4), 0);
    due("falls at first", x.coin(0, 5), 0);
    due("down", x.counter(0, 0), 1200);
    due("the second COUNTER", x.counter(1, 0), 0);
    due("no third", x.counter(2, 0), NONE);
    due("a MINT of a COUNTER", Check.mint(x, "counter 0 0"), 0);
    due("no COIN", x.coin(0, 0), NONE);
    due("the empty set", x.fall(0), 0);
    due("sounds of one MINT", x.sounds(0, 0, 0, 0, 0), FAR);
    Check.mint(x, "coin 7 5 1 1;counter 0 0");
    due("sounds of one MINT", x.sounds(0, 0, 1, 0, 0), 7);
    Check.mint(x, "coin 8 5 1 1;counter 0 0");
    due("sounds of the next", x.sounds(0, 0, 1, 0, 0), 8);
    due("greatest numbers", Check.mint(x, "coin 2400 99 999 99;counter 1200 99;blur 999;deaf 99"), 1);
    due("least numbers", Check.mint(x, "coin 0 1 0 1;counter 0 0;blur 0;deaf 0"), 1);
  }

  private static void badMint(String text, int place, int kind) {
    RingingCoins x = new RingingCoins();
    due("mint \"" + text + "\"", Check.mint(x, text), Check.fault(place, kind));
    due("no MINT \"" + text + "\"", x.count(1), 0);
  }

  private static void mintFaults() {
    badMint("", 0, 0);
    badMint("   ", 3, 0);
    badMint("counter 0 0;", 12, 0);
    badMint("counter 0 0 ; ", 14, 0);
    badMint("counter 0 0;;", 12, 0);
    badMint("counter 0", 9, 0);
    badMint("counter 0 ", 10, 0);
    badMint("counter 0 0 0", 12, 0);
    badMint("counter 0 0coin", 11, 0);
    badMint("counter 0,0", 9, 0);
    badMint("counter -1 0", 8, 0);
    badMint("counters 0 0", 0, 0);
    badMint("counterz 0 0", 0, 0);
    badMint("acounter 0 0", 0, 0);
    badMint("Counter 0 0", 0, 0);
    badMint(" note 1", 1, 0);
    badMint("5", 0, 0);
    badMint("1234567", 0, 0);
    badMint("counter\t0 0", 7, 0);
    badMint("counter 0 \u00b0", 10, 0);
    badMint("blur 5;deaf 6 ", 14, 0);
    badMint("coin 1 1 1 1", 12, 0);
    badMint("coin 2401 1 1 1", 5, 1);
    badMint("coin 1 0 1 1", 7, 1);
    badMint("coin 1 100 1 1", 7, 1);
    badMint("coin 1 1 1000 1", 9, 1);
    badMint("coin 1 1 1 0", 11, 1);
    badMint("coin 1 1 1 100", 11, 1);
    badMint("coin 000001 1 1 1", 5, 1);
    badMint("coin 2401 0 x", 5, 1);
    badMint("counter 1201 0", 8, 1);
    badMint("counter 0 100", 10, 1);
    badMint("blur 1000", 5, 1);
    badMint("deaf 100", 5, 1);
    badMint("blur 1; blur 1", 8, 4);
    badMint("deaf 1;deaf x", 7, 4);
    badMint("coin 1 1 1 1;".repeat(12) + " coin 1", 157, 4);
    badMint("counter 0 0;".repeat(4) + "counter", 48, 4);
    badMint("counter 0 0;".repeat(4) + "counters", 48, 0);
  }

  /** Promise 5. */
  private static void law() {
    RingingCoins x = new RingingCoins();
    for (int i = 0; i < 6; i++) {
      due("a LAW with a FAULT", Check.law(x, "note"), Check.fault(4, 0));
      due("the TAPE is empty", x.count(8), 0);
      due("LAW " + i, Check.law(x, "note " + i), i);
      due("the TAPE is empty", x.count(8), 0);
      due("LAWS", x.count(4), i + 1);
    }
    due("a seventh", Check.law(x, "note 1"), NONE);
    due("nothing happens", x.count(8), 6);
    due("a seventh with a FAULT", Check.law(x, "note"), NONE);
    due("LAWS", x.count(4), 6);
  }

  private static void badLaw(String text, int place, int kind) {
    RingingCoins x = new RingingCoins();
    due("law \"" + text + "\"", Check.law(x, text), Check.fault(place, kind));
    due("no LAW \"" + text + "\"", x.count(4), 0);
  }

  private static void lawFaults() {
    badLaw("", 0, 0);
    badLaw("  ", 2, 0);
    badLaw("note", 4, 0);
    badLaw("note ", 5, 0);
    badLaw("notes 1", 0, 0);
    badLaw("notez 1", 0, 0);
    badLaw("note`1", 4, 0);
    badLaw("note{1", 4, 0);
    badLaw("note 1:", 6, 0);
    badLaw("note 1/", 7, 0);
    badLaw("worth 1", 0, 0);
    badLaw("note counter", 5, 0);
    badLaw("note blur", 5, 0);
    badLaw("note tough", 5, 0);
    badLaw("note if", 5, 0);
    badLaw("note not", 5, 0);
    badLaw("note -1", 5, 0);
    badLaw("note (1)", 5, 0);
    badLaw("note [1=1]", 5, 0);
    badLaw("note 1 2", 7, 0);
    badLaw("note 1 worth", 7, 0);
    badLaw("note 1;", 7, 0);
    badLaw("note 1;;", 7, 0);
    badLaw("note 1; if 1=1", 8, 0);
    badLaw("note 1+", 7, 0);
    badLaw("note 1+*2", 7, 0);
    badLaw("note 1=1", 6, 0);
    badLaw("note 100000", 5, 1);
    badLaw("note 000001", 5, 1);
    badLaw("note 1 100000", 7, 0);
    badLaw("note 1 if", 9, 0);
    badLaw("note 1 iff 1=1", 7, 0);
    badLaw("note 1 if 1", 11, 0);
    badLaw("note 1 if 1;", 11, 0);
    badLaw("note 1 if 1=", 12, 0);
    badLaw("note 1 if 1==1", 12, 0);
    badLaw("note 1 if 1< =1", 13, 0);
    badLaw("note 1 if 1=<1", 12, 0);
    badLaw("note 1 if 1=1=1", 13, 0);
    badLaw("note 1 if 1=1 if 1=1", 14, 0);
    badLaw("note 1 if 1=1 and", 17, 0);
    badLaw("note 1 if 1=1 and or", 18, 0);
    badLaw("note 1 if 1=1 xor 1=1", 14, 0);
    badLaw("note 1 if not", 13, 0);
    badLaw("note 1 if not 1", 15, 0);
    badLaw("note 1 if notmany=1", 10, 0);
    badLaw("note 1 if 1=not 1", 12, 0);
    badLaw("note 1 if []", 11, 0);
    badLaw("note 1 if [1=1", 14, 0);
    badLaw("note 1 if [1=1;note 1", 14, 0);
    badLaw("note 1 if 1=1]", 13, 0);
    badLaw("note 1 if [1=1]]", 15, 0);
    badLaw("note 1 if [1]=1", 12, 0);
    badLaw("note 1 if [1=1] [1=1]", 16, 0);
    badLaw("note 1 if 1=100000", 12, 1);
    badLaw("note \u00e9", 5, 0);
  }

  private static void lawLimits() {
    String twelve = "note 1;".repeat(11) + "note 1";
    String deep = "note 1 if" + LIMITS;
    String sixty = "note 1" + "+1".repeat(59);
    RingingCoins x = minted("coin 5 5 5 5;counter 0 0", twelve, deep + "coin=0" + "]".repeat(10),
        "note 1 if not [not [not [not [not [coin=0]]]]] and not [[[[[[[[[coin=1]]]]]]]]] or not coin=0", sixty,
        "note 1" + "+1".repeat(56) + " if 1=1");
    due("sixty", x.sounds(3, 0, 1, 0, 0), 60);
    due("sixty with a FACT", x.sounds(4, 0, 1, 0, 0), 57);
    badLaw(twelve + ";", 84, 0);
    badLaw(twelve + "; note 1", 85, 4);
    badLaw(twelve + ";coin", 84, 0);
    badLaw(deep + "[1=1", 20, 2);
    badLaw(deep + "not 1=1", 20, 2);
    badLaw(deep + "x", 20, 0);
    badLaw("note 1 if" + " not".repeat(11), 50, 2);
    badLaw("note 1 if" + " not [".repeat(5) + " not 1=1", 40, 2);
    badLaw(sixty + "+1", 125, 3);
    badLaw(sixty + "+ worth", 126, 3);
    badLaw(sixty + "+100000", 125, 1);
    badLaw(sixty + "+x", 125, 0);
    badLaw(sixty + "+", 125, 0);
    badLaw(sixty + ";note 1", 130, 3);
    badLaw("note 1" + "+1".repeat(58) + " if 1 = 1", 128, 3);
    badLaw("note 1" + "+1".repeat(57) + " if 1=1", 126, 3);
  }

  /** Promises 6 and 7. */
  private static void coinAndCounter() {
    RingingCoins x = shop();
    x.fall(2);
    x.fall(2);
    x.fall(2);
    x.fall(2);
    x.give(1, 5);
    int[] due = {500, 30, 2, 3, 5, 4, 1};
    for (int what = 0; what < 7; what++) {
      due("coin(1, " + what + ")", x.coin(1, what), due[what]);
    }
    due("coin(1, 7)", x.coin(1, 7), NONE);
    due("coin(1, -1)", x.coin(1, -1), NONE);
    due("coin(-1, 0)", x.coin(-1, 0), NONE);
    due("coin(4, 2)", x.coin(4, 2), 20);
    due("coin(5, 0)", x.coin(5, 0), NONE);
    due("counter(1, 0)", x.counter(1, 0), 60);
    due("counter(1, 1)", x.counter(1, 1), 9);
    due("counter(1, 2)", x.counter(1, 2), NONE);
    due("counter(1, -1)", x.counter(1, -1), NONE);
    due("counter(-1, 0)", x.counter(-1, 0), NONE);
    due("counter(2, 1)", x.counter(2, 1), 8);
    due("counter(3, 0)", x.counter(3, 0), NONE);
  }

  /** Promises 8 and 9. */
  private static void giveAndRetune() {
    RingingCoins x = shop("note note");
    due("give(3, 5)", x.give(3, 5), 0);
    due("give(3, 1)", x.give(3, 1), 5);
    due("give(3, 6)", x.give(3, 6), NONE);
    due("give(3, -1)", x.give(3, -1), NONE);
    due("give(5, 1)", x.give(5, 1), NONE);
    due("give(-1, 1)", x.give(-1, 1), NONE);
    due("HELD", x.coin(3, 4), 1);
    due("sounds before", x.sounds(0, 0, 8, 3, 0), 520);
    due("retune(3, 2400)", x.retune(3, 2400), 520);
    due("sounds behind", x.sounds(0, 0, 8, 3, 0), 2400);
    due("retune(3, 0)", x.retune(3, 0), 2400);
    due("sounds behind", x.sounds(0, 0, 8, 3, 0), 0);
    due("retune(3, 2401)", x.retune(3, 2401), NONE);
    due("retune(3, -1)", x.retune(3, -1), NONE);
    due("retune(5, 0)", x.retune(5, 0), NONE);
    due("retune(-1, 0)", x.retune(-1, 0), NONE);
    due("note", x.coin(3, 0), 0);
  }

  /** Promise 10. */
  private static void fall() {
    RingingCoins x = shop("note falls*100+cracks");
    due("fall(0)", x.fall(0), 0);
    due("fall(21)", x.fall(21), 3);
    due("fall(31)", x.fall(31), 5);
    due("fall(32)", x.fall(32), NONE);
    due("fall(-1)", x.fall(-1), NONE);
    due("falls 0", x.coin(0, 5), 2);
    due("falls 1", x.coin(1, 5), 1);
    due("falls 4", x.coin(4, 5), 2);
    due("cracks 0", x.coin(0, 6), 1);
    due("cracks 1", x.coin(1, 6), 0);
    due("cracks 2", x.coin(2, 6), 2);
    due("sounds", x.sounds(0, 0, 4, 2, 0), 202);
    x.fall(4);
    due("sounds", x.sounds(0, 0, 4, 2, 0), 303);
    for (int i = 3; i < 9999; i++) {
      x.fall(21);
    }
    due("falls", x.coin(2, 5), 9999);
    due("one more", x.fall(6), NONE);
    due("nothing happens", x.coin(1, 5), 1);
    due("the others", x.fall(10), 2);
    x.fall(17);
    due("the first", x.fall(3), NONE);
    due("the last", x.fall(24), NONE);
    due("nothing happens", x.coin(3, 5), 2);
    Check.law(x, "note coin*100");
    due("it could be", x.pay(1, 0, 0, 1, 5, 1), 4);
    due("DONE with it", x.done(1, 0, 0, 1, 5), -2);
    due("nothing happens", x.coin(2, 4), 0);
    due("DONE without it", x.done(1, 0, 0, 1, 2), 1);
  }

  /** Promise 11. */
  private static void sounds() {
    RingingCoins x = shop("note note", "strength 3 if coin=1;strength 4 if many=3;note 9 if coin=1;strength 5;note 1 if coin<2");
    due("note without", x.sounds(1, 1, 28, 3, 0), 460);
    due("strength without", x.sounds(0, 1, 28, 3, 1), 41);
    due("strength below 0", x.sounds(0, 1, 28, 4, 1), 0);
    due("note below 0 stays", minted("coin 5 5 5 5;counter 50 0", "note note-down").sounds(0, 0, 1, 0, 0), -45);
    due("note without, below 0", minted("coin 5 5 5 5;counter 50 0", "strength 1").sounds(0, 0, 1, 0, 0), -45);
    due("first CLAUSE", x.sounds(1, 0, 7, 1, 1), 3);
    due("second CLAUSE", x.sounds(1, 0, 7, 2, 1), 4);
    due("third CLAUSE", x.sounds(1, 0, 6, 2, 1), 5);
    due("first of its word", x.sounds(1, 0, 7, 1, 0), 9);
    due("second of its word", x.sounds(1, 0, 7, 0, 0), 1);
    due("none of its word", x.sounds(1, 2, 7, 2, 0), 493);
    due("not of the set", x.sounds(0, 0, 6, 0, 0), FAR);
    due("not of the set though it was heard", x.sounds(0, 0, 6, 3, 1), FAR);
    due("no COIN", x.sounds(0, 0, 6, 5, 0), FAR);
    due("no COIN below", x.sounds(0, 0, 6, -1, 0), FAR);
    due("the same bit, far off", x.sounds(0, 0, 6, 33, 0), FAR);
    due("no LAW", x.sounds(2, 0, 6, 1, 0), FAR);
    due("no LAW below", x.sounds(-1, 0, 6, 1, 0), FAR);
    due("no COUNTER", x.sounds(0, 3, 6, 1, 0), FAR);
    due("no COUNTER below", x.sounds(0, -1, 6, 1, 0), FAR);
    due("no set", x.sounds(0, 0, 32, 1, 0), FAR);
    due("no set below", x.sounds(0, 0, -1, 1, 0), FAR);
    due("what 2", x.sounds(0, 0, 6, 1, 2), FAR);
    due("what -1", x.sounds(0, 0, 6, 1, -1), FAR);
  }

  private static void sum(String sum, int want) {
    String mint = "coin 100 40 7 2;coin 200 60 3 9;coin 9 50 1 1;counter 30 4";
    RingingCoins x = minted(mint, "note " + sum);
    x.fall(1);
    x.fall(1);
    x.fall(1);
    due("note " + sum, x.sounds(0, 0, 5, 0, 0), want);
  }

  private static void sums() {
    sum("note", 100);
    sum("strength", 40);
    sum("worth", 7);
    sum("falls", 3);
    sum("cracks", 1);
    sum("coin*10+5", 5);
    sum("down", 30);
    sum("damp", 4);
    sum("many", 2);
    sum("loudest", 50);
    sum("1+2*3", 7);
    sum("2*3+1", 7);
    sum("10-3-2", 5);
    sum("10-3+2", 9);
    sum("100/10/5", 2);
    sum("100/10*5", 50);
    sum("7%4*2", 6);
    sum("1+2*3-4/2", 5);
    sum("2*3+4*5", 26);
    sum("7/2", 3);
    sum("0-7/2", -3);
    sum("0-7%4", -3);
    sum("5/0", 0);
    sum("5%0", 0);
    sum("1+5/0*3", 1);
    sum("99999", 9999);
    sum("0-99999", -9999);
    sum("9999", 9999);
    sum("0-9999", -9999);
    sum("00010 ", 10);
    sum(" note - down ", 70);
    // 99999^4 is 5453 * 2^64 + 18424880020002000..: round in 64 bits, not held before the end.
    sum("99999*99999*99999*99999%1000", (int) (99999L * 99999 * 99999 * 99999 % 1000));
    sum("99999*99999*99999*99999/99999/99999/99999%9999", (int) (99999L * 99999 * 99999 * 99999 / 99999 / 99999 / 99999 % 9999));
    RingingCoins x = minted("coin 0 5 0 5;counter 0 0", "strength 0-5", "strength 99999", "strength 9999", "strength 0");
    due("strength held from below", x.sounds(0, 0, 1, 0, 1), 0);
    due("strength held from above", x.sounds(1, 0, 1, 0, 1), 9999);
    due("strength 9999", x.sounds(2, 0, 1, 0, 1), 9999);
    due("strength 0", x.sounds(3, 0, 1, 0, 1), 0);
  }

  private static void test(String test, boolean holds) {
    RingingCoins x = minted("coin 1 2 3 4;counter 0 0", "note 77 if " + test);
    due("if " + test, x.sounds(0, 0, 1, 0, 0), holds ? 77 : 1);
  }

  private static void tests() {
    String[] signs = {"<", "<=", "=", ">=", ">"};
    for (int i = 0; i < 5; i++) {
      test("1" + signs[i] + "2", i < 2);
      test("2" + signs[i] + "2", i >= 1 && i <= 3);
      test("3 " + signs[i] + " 2", i > 2);
    }
    test("note+strength=worth", true);
    test("1=1 or 1=1 and 1=2", true);
    test("[1=1 or 1=1] and 1=2", false);
    test("1=2 and 1=1 or 1=1", true);
    test("1=2 and [1=1 or 1=1]", false);
    test("1=2 or 1=2 or 1=1", true);
    test("1=2 or 1=2 or 1=2", false);
    test("1=1 and 1=1 and 1=1", true);
    test("1=1 and 1=2 and 1=1", false);
    test("not 1=2", true);
    test("not 1=2 and 1=2", false);
    test("not 1=1 or 1=1", true);
    test("not [1=1 or 1=1]", false);
    test("not not 1=1", true);
    test("not[not 1=1]and[1<2]", true);
    test("0-1<0", true);
    test("99999*99999*99999*99999<0", 99999L * 99999 * 99999 * 99999 < 0);
  }

  /** Promises 12 and 13. */
  private static void tones() {
    RingingCoins x = shop("note note-down", "note 0-note");
    due("tones of none", x.tones(0, 0, 0), 0);
    due("tones", x.tones(0, 0, 31), 4);
    int[][] due = {{100, 40, 0}, {500, 50, 1}, {520, 50, 3}, {900, 9, 4}};
    for (int k = 0; k < 4; k++) {
      for (int what = 0; what < 3; what++) {
        due("tone " + k + " " + what, x.tone(0, 0, 31, k, what), due[k][what]);
      }
    }
    due("no fifth", x.tone(0, 0, 31, 4, 0), FAR);
    due("none below", x.tone(0, 0, 31, -1, 0), FAR);
    due("what 3", x.tone(0, 0, 31, 0, 3), FAR);
    due("what -1", x.tone(0, 0, 31, 0, -1), FAR);
    due("of none", x.tone(0, 0, 0, 0, 0), FAR);
    due("no LAW", x.tone(2, 0, 31, 0, 0), FAR);
    due("no COUNTER", x.tone(0, 3, 31, 0, 0), FAR);
    due("no set", x.tone(0, 0, 32, 0, 0), FAR);
    due("on another COUNTER", x.tones(0, 1, 31), 3);
    due("lower", x.tone(0, 1, 31, 0, 0), 40);
    due("weaker", x.tone(0, 1, 31, 1, 1), 32);
    due("from below", x.tone(1, 0, 31, 0, 0), -900);
    due("led", x.tone(1, 0, 30, 1, 2), 3);
    due("tones: no LAW", x.tones(2, 0, 0), NONE);
    due("tones: no COUNTER", x.tones(0, 3, 0), NONE);
    due("tones: no set", x.tones(0, 0, 32), NONE);
    due("tones: no set below", x.tones(0, 0, -1), NONE);
  }

  private static void blurAndDeaf() {
    String coins = "coin 30 9 1 1;coin 0 5 1 1;coin 19 8 1 1;coin 20 7 1 1;coin 39 6 1 1;counter 0 0;";
    RingingCoins x = minted(coins + "blur 20;deaf 6", "note note", "strength strength-5", "note 30-note");
    due("one below deaf", x.tones(0, 0, 2), 0);
    due("one at deaf", x.tones(0, 0, 16), 1);
    // 19 begins; 20 and 30 are less than 20 above it; 39 is 20 above it and begins another one.
    due("tones", x.tones(0, 0, 31), 2);
    due("began with", x.tone(0, 0, 31, 0, 0), 19);
    due("together", x.tone(0, 0, 31, 0, 1), 24);
    due("led by the least COIN, not the first", x.tone(0, 0, 31, 0, 2), 0);
    due("second", x.tone(0, 0, 31, 1, 0), 39);
    due("all below deaf", x.tones(1, 0, 31), 0);
    RingingCoins y = minted(coins + "blur 0", "note note", "note 5", "strength strength-5", "strength 0");
    due("without blur", y.tones(0, 0, 31), 5);
    due("the same note without blur", y.tones(1, 0, 31), 1);
    due("strengths of all", y.tone(1, 0, 31, 0, 1), 35);
    due("strength 0 is not heard without deaf", y.tones(2, 0, 31), 4);
    due("none is heard", y.tones(3, 0, 31), 0);
    RingingCoins z = minted(coins + "blur 1", "note note");
    due("blur 1 is no blur", z.tones(0, 0, 31), 5);
    RingingCoins loud = minted("coin 0 99 1 1;coin 0 99 1 1;counter 0 0", "strength 9999");
    due("strengths together are not held", loud.tone(0, 0, 3, 0, 1), 19998);
  }

  /** Promise 14. */
  private static void alike() {
    RingingCoins x = shop("note note-down");
    due("one note, unlike strengths", x.alike(0, 0, 2, 4), 1);
    due("both of it", x.alike(0, 0, 6, 4), 1);
    due("unlike notes", x.alike(0, 0, 8, 4), 0);
    due("one more TONE", x.alike(0, 0, 9, 8), 0);
    due("the same", x.alike(0, 0, 9, 9), 1);
    due("without any", x.alike(0, 1, 0, 16), 1);
    due("not without any", x.alike(0, 0, 0, 16), 0);
    due("no LAW", x.alike(1, 0, 0, 0), NONE);
    due("no COUNTER", x.alike(0, 3, 0, 0), NONE);
    due("no one", x.alike(0, 0, 32, 0), NONE);
    due("no other", x.alike(0, 0, 0, 32), NONE);
    due("no other below", x.alike(0, 0, 0, -1), NONE);
    x.retune(1, 100);
    due("behind a change", x.alike(0, 0, 2, 4), 0);
    due("behind a change", x.alike(0, 0, 2, 1), 1);
  }

  /** Promise 15. */
  private static void hear() {
    RingingCoins x = new RingingCoins();
    due("hear(9999)", x.hear(9999), 1);
    due("hear(10000)", x.hear(10000), -2);
    due("hear(-9999)", x.hear(-9999), 2);
    due("hear(-10000)", x.hear(-10000), -2);
    due("hear(-19999)", x.hear(-19999), -2);
    due("hear(-9999) again", x.hear(-9999), -2);
    due("hear(9999) again", x.hear(9999), -2);
    for (int i = 3; i <= 12; i++) {
      due("hear " + i, x.hear(50 - i), i);
    }
    due("a thirteenth", x.hear(0), -2);
    due("12 are HEARD", x.count(6), 12);
    due("nothing is HEARD then", x.hear(-20000), 0);
    due("0 are HEARD", x.count(6), 0);
    due("hear(0)", x.hear(0), 1);
  }

  /** Promise 16. */
  private static void fits() {
    // Notes 100, 500 and 520 are heard; 500 is that of two COINS.
    RingingCoins x = shop("note note");
    x.hear(520);
    x.hear(100);
    due("two notes: how many", x.fits(0, 0, 31, 0), 1);
    due("two notes: the first", x.fits(0, 0, 31, 1), 9);
    x.hear(500);
    due("how many", x.fits(0, 0, 31, 0), 3);
    due("the first", x.fits(0, 0, 31, 1), 11);
    due("the least WORTH", x.fits(0, 0, 31, 2), 13);
    due("the greatest", x.fits(0, 0, 31, 3), 18);
    due("that of the fewest", x.fits(0, 0, 31, 4), 13);
    due("of a told set: how many", x.fits(0, 0, 29, 0), 1);
    due("of a told set: the first", x.fits(0, 0, 29, 1), 13);
    due("of a told set: none", x.fits(0, 0, 28, 0), 0);
    for (int what = 1; what <= 4; what++) {
      due("none " + what, x.fits(0, 0, 28, what), -2);
    }
    due("what 5", x.fits(0, 0, 31, 5), NONE);
    due("what -1", x.fits(0, 0, 31, -1), NONE);
    due("no LAW", x.fits(1, 0, 31, 0), NONE);
    due("no COUNTER", x.fits(0, 3, 31, 0), NONE);
    due("no set", x.fits(0, 0, 32, 0), NONE);
    x.hear(-20000);
    due("nothing HEARD", x.fits(0, 0, 31, 0), 1);
    due("the empty one", x.fits(0, 0, 31, 1), 0);
    due("its WORTH", x.fits(0, 0, 31, 4), 0);
    due("nothing HEARD on a COUNTER that damps", x.fits(0, 1, 31, 0), 2);
    // The least as bits has two COINS, a later one has one COIN.
    RingingCoins y = minted("coin 10 5 1 1;coin 10 5 2 1;coin 10 5 4 1;counter 0 0", "note many*0+7;strength 0 if many=1 and coin<2");
    y.hear(7);
    due("how many", y.fits(0, 0, 7, 0), 5);
    due("the first", y.fits(0, 0, 7, 1), 3);
    due("the least WORTH", y.fits(0, 0, 7, 2), 3);
    due("the greatest", y.fits(0, 0, 7, 3), 7);
    due("that of the fewest", y.fits(0, 0, 7, 4), 4);
    due("of several the least as bits", shopFitsFewest(), 2);
  }

  private static int shopFitsFewest() {
    RingingCoins x = shop("note note");
    x.hear(500);
    return x.fits(0, 0, 31, 4);
  }

  /** Promise 17. */
  private static void mistaken() {
    RingingCoins x = shop("note note", "note coin");
    due("the one", x.mistaken(0, 0, 31, 12, 0), 2);
    due("the other", x.mistaken(0, 0, 31, 12, 1), 4);
    due("CHORDS", x.mistaken(0, 0, 31, 12, 2), 16);
    due("CHORDS of one at most", x.mistaken(0, 0, 31, 1, 2), 5);
    due("of one at most", x.mistaken(0, 0, 31, 1, 1), 4);
    due("of none", x.mistaken(0, 0, 31, 0, 0), -2);
    due("CHORDS of none", x.mistaken(0, 0, 31, 0, 2), 1);
    due("none: the one", x.mistaken(0, 0, 27, 12, 0), -2);
    due("none: the other", x.mistaken(0, 0, 27, 12, 1), -2);
    due("with the empty one: the one", x.mistaken(0, 1, 31, 12, 0), 0);
    due("with the empty one: the other", x.mistaken(0, 1, 31, 12, 1), 16);
    due("k 13", x.mistaken(0, 0, 31, 13, 0), NONE);
    due("k -1", x.mistaken(0, 0, 31, -1, 0), NONE);
    due("what 3", x.mistaken(0, 0, 31, 1, 3), NONE);
    due("what -1", x.mistaken(0, 0, 31, 1, -1), NONE);
    due("no LAW", x.mistaken(2, 0, 31, 1, 0), NONE);
    due("no COUNTER", x.mistaken(0, 3, 31, 1, 0), NONE);
    due("no set", x.mistaken(0, 0, 32, 1, 0), NONE);
    // ALIKE and of one WORTH are 1 and 2; the first unlike of them is 4.
    RingingCoins y = minted("coin 5 5 3 1;coin 5 5 3 1;coin 5 5 4 1;counter 0 0", "note note");
    due("one WORTH is not MISTAKEN", y.mistaken(0, 0, 3, 1, 0), -2);
    due("the one", y.mistaken(0, 0, 7, 1, 0), 1);
    due("the other", y.mistaken(0, 0, 7, 1, 1), 4);
    due("the other, of two", y.mistaken(0, 0, 7, 2, 1), 3);
    // 1 and 8 are MISTAKEN, 2 and 4 are so too: the first two are those with the least one.
    RingingCoins z = minted("coin 5 5 1 1;coin 9 5 2 1;coin 9 5 4 1;coin 5 5 8 1;counter 0 0", "note note");
    due("the least one", z.mistaken(0, 0, 15, 1, 0), 1);
    due("its other", z.mistaken(0, 0, 15, 1, 1), 8);
    due("CHORDS", z.mistaken(0, 0, 15, 1, 2), 3);
  }

  /** COINS of five notes of WORTH 1, 2, 5, 10, 20; PERSON 2 has 20 and 2, PERSON 0 has the rest. */
  private static RingingCoins dealers(String... laws) {
    RingingCoins x = minted("coin 100 40 1 2;coin 200 30 2 3;coin 300 20 5 1;coin 400 50 10 9;coin 500 60 20 4;"
        + "counter 0 0;counter 0 30", laws);
    x.give(1, 2);
    x.give(4, 2);
    return x;
  }

  /** Promise 18. */
  private static void pay() {
    RingingCoins x = dealers("note note");
    due("5", x.pay(0, 0, 0, 2, 5, 0), 1);
    due("5: first", x.pay(0, 0, 0, 2, 5, 1), 4);
    due("5: second", x.pay(0, 0, 0, 2, 5, 2), 0);
    due("4 with change", x.pay(0, 0, 0, 2, 4, 0), 3);
    due("4: first", x.pay(0, 0, 0, 2, 4, 1), 5);
    due("4: second", x.pay(0, 0, 0, 2, 4, 2), 2);
    due("7 from 2", x.pay(0, 0, 2, 0, 7, 0), 4);
    due("7 from 2: first", x.pay(0, 0, 2, 0, 7, 1), 18);
    due("7 from 2: second", x.pay(0, 0, 2, 0, 7, 2), 12);
    due("0", x.pay(0, 0, 0, 2, 0, 0), 0);
    due("0: first", x.pay(0, 0, 0, 2, 0, 1), 0);
    due("22 from 2", x.pay(0, 0, 2, 0, 22, 1), 18);
    due("17", x.pay(0, 0, 0, 2, 17, 0), -2);
    due("17: first", x.pay(0, 0, 0, 2, 17, 1), -2);
    due("9999", x.pay(0, 0, 0, 2, 9999, 2), -2);
    due("to one without COINS", x.pay(0, 0, 2, 5, 20, 0), 1);
    due("from one without COINS", x.pay(0, 0, 5, 2, 2, 0), -2);
    due("10000", x.pay(0, 0, 0, 2, 10000, 0), NONE);
    due("-1", x.pay(0, 0, 0, 2, -1, 0), NONE);
    due("what 3", x.pay(0, 0, 0, 2, 5, 3), NONE);
    due("what -1", x.pay(0, 0, 0, 2, 5, -1), NONE);
    due("to himself", x.pay(0, 0, 2, 2, 0, 0), NONE);
    due("no one", x.pay(0, 0, 6, 2, 0, 0), NONE);
    due("no one below", x.pay(0, 0, -1, 2, 0, 0), NONE);
    due("no other", x.pay(0, 0, 0, 6, 0, 0), NONE);
    due("no other below", x.pay(0, 0, 0, -1, 0, 0), NONE);
    due("no LAW", x.pay(1, 0, 0, 2, 0, 0), NONE);
    due("no COUNTER", x.pay(0, 2, 0, 2, 0, 0), NONE);
    // Of several with as many COINS the first set is the least, then the second.
    RingingCoins y = minted("coin 1 9 5 1;coin 2 9 4 1;coin 3 9 5 1;coin 4 9 1 1;coin 5 9 1 1;coin 6 9 6 1;counter 0 0", "note note");
    y.give(3, 1);
    y.give(4, 1);
    due("of several the first set least", y.pay(0, 0, 0, 1, 5, 1), 1);
    due("of several the second set least", y.pay(0, 0, 0, 1, 3, 2), 8);
    StringBuilder twelve = new StringBuilder();
    for (int i = 0; i < 12; i++) {
      twelve.append("coin ").append(i).append(" 9 1 1;");
    }
    RingingCoins z = minted(twelve + "counter 0 0", "note note");
    due("all twelve COINS", z.pay(0, 0, 0, 1, 12, 0), 12);
    due("all twelve COINS: first", z.pay(0, 0, 0, 1, 12, 1), 4095);
    for (int i = 0; i < 6; i++) {
      z.give(2 * i, 1);
    }
    due("six of twelve", z.done(0, 0, 0, 1, 6), 6);
    due("all twelve are HELD", z.count(11), 12);
    due("of several the first set least, not the second", y.pay(0, 0, 0, 1, 4, 1), 2);
  }

  private static void safe() {
    RingingCoins x = shop("note note");
    // 2 and 5 sound alike: no set with just one of them is SAFE, nor with both.
    due("1", x.pay(0, 0, 0, 1, 1, 0), 1);
    due("2", x.pay(0, 0, 0, 1, 2, 0), -2);
    due("5", x.pay(0, 0, 0, 1, 5, 0), -2);
    due("7", x.pay(0, 0, 0, 1, 7, 0), -2);
    due("11", x.pay(0, 0, 0, 1, 11, 0), 2);
    x.give(2, 1);
    due("2 if another one HOLDS 5", x.pay(0, 0, 0, 1, 2, 0), 1);
    due("5 from the other", x.pay(0, 0, 1, 0, 5, 0), 1);
    due("5 from him by change", x.pay(0, 0, 0, 1, 5, 1), 8);
    // On COUNTER 1 COIN 4 is not heard: whoever HOLDS it can't pay nothing.
    due("unheard", x.pay(0, 1, 0, 1, 0, 0), -2);
    x.give(4, 3);
    due("unheard by another one", x.pay(0, 1, 0, 1, 0, 0), 0);
    due("no change from who HOLDS it", x.pay(0, 1, 0, 3, 1, 0), -2);
    // ALIKE sets of one WORTH are SAFE.
    RingingCoins y = minted("coin 5 5 3 1;coin 5 5 3 1;counter 0 0", "note note;strength 0 if many=2");
    due("one of two of one WORTH", y.pay(0, 0, 0, 1, 3, 1), 1);
    due("both are like none", y.pay(0, 0, 0, 1, 6, 1), -2);
  }

  /** Promise 19. */
  private static void done() {
    RingingCoins x = dealers("note note+cracks");
    due("4", x.done(0, 0, 0, 2, 4), 3);
    due("1 is HELD by the other one", x.coin(0, 4), 2);
    due("5 is HELD by the other one", x.coin(2, 4), 2);
    due("2 is HELD by the one", x.coin(1, 4), 0);
    due("10 stays", x.coin(3, 4), 0);
    int[] falls = {1, 1, 1, 0, 0};
    for (int i = 0; i < 5; i++) {
      due("falls " + i, x.coin(i, 5), falls[i]);
    }
    due("cracked it sounds higher", x.sounds(0, 0, 4, 2, 0), 301);
    due("it can't be", x.done(0, 0, 0, 2, 3), -2);
    due("nothing happens", x.coin(3, 5), 0);
    due("0", x.done(0, 0, 0, 2, 0), 0);
    due("nothing to do", x.count(10), 12);
    due("to himself", x.done(0, 0, 2, 2, 0), NONE);
    due("no one", x.done(0, 0, 6, 2, 0), NONE);
    due("no other", x.done(0, 0, 0, -1, 0), NONE);
    due("no LAW", x.done(1, 0, 0, 2, 0), NONE);
    due("no COUNTER", x.done(0, 2, 0, 2, 0), NONE);
    due("no price", x.done(0, 0, 0, 2, -1), NONE);
    due("no price", x.done(0, 0, 0, 2, 10000), NONE);
    // 12 by 0 is 2 and 10, both to PERSON 2.
    due("12", x.done(0, 0, 0, 2, 12), 2);
    due("all is HELD by the other one", x.count(12), 38);
    due("20 back for 38", x.done(0, 0, 2, 0, 38), 5);
    due("all is HELD by the one", x.count(10), 38);
  }

  /** Promise 20. */
  private static void prices() {
    RingingCoins x = dealers("note note", "note 1");
    // 0 HOLDS 1, 5, 10: 1 5 6 10 11 15 16; less 2: 3 4 8 9 13 14; less 20 or 22: none.
    due("to 999", x.prices(0, 0, 0, 2, 999), 13);
    due("to 16", x.prices(0, 0, 0, 2, 16), 13);
    due("to 15", x.prices(0, 0, 0, 2, 15), 12);
    due("to 1", x.prices(0, 0, 0, 2, 1), 1);
    due("to 0", x.prices(0, 0, 0, 2, 0), 0);
    // On COUNTER 1 COIN 2 is not heard: nothing of PERSON 0 is SAFE.
    due("on another COUNTER", x.prices(0, 1, 0, 2, 999), 0);
    due("all sound alike", x.prices(1, 0, 0, 2, 999), 0);
    due("p 1000", x.prices(0, 0, 0, 2, 1000), NONE);
    due("p -1", x.prices(0, 0, 0, 2, -1), NONE);
    due("no LAW", x.prices(2, 0, 0, 2, 9), NONE);
    due("no COUNTER", x.prices(0, 2, 0, 2, 9), NONE);
    due("to himself", x.prices(0, 0, 0, 0, 9), NONE);
    due("no one", x.prices(0, 0, 6, 0, 9), NONE);
    due("no other", x.prices(0, 0, 0, 6, 9), NONE);
    RingingCoins y = minted("coin 1 9 999 1;coin 2 9 1 1;counter 0 0", "note note");
    due("a price of 999", y.prices(0, 0, 0, 1, 999), 2);
    due("without it", y.prices(0, 0, 0, 1, 998), 1);
    due("with it again", y.prices(0, 0, 0, 1, 999), 2);
    due("what is HELD by none", y.prices(0, 0, 1, 0, 999), 0);
  }

  /** Promise 21. */
  private static void bestCounter() {
    String mint = "coin 100 10 1 1;coin 200 20 2 1;coin 300 30 4 1;counter 0 25;counter 0 5;counter 0 0;counter 0 99";
    RingingCoins x = minted(mint, "note note", "note note if damp=0;note 0", "strength 0");
    due("of several the first", x.bestCounter(0, 0, 1, 9), 1);
    due("the best", x.bestCounter(1, 0, 1, 9), 2);
    due("none can be paid", x.bestCounter(2, 0, 1, 9), 0);
    due("no prices", x.bestCounter(0, 0, 1, 0), 0);
    due("p 999", x.bestCounter(0, 0, 1, 999), 1);
    due("p 1000", x.bestCounter(0, 0, 1, 1000), NONE);
    due("p -1", x.bestCounter(0, 0, 1, -1), NONE);
    due("no LAW", x.bestCounter(3, 0, 1, 9), NONE);
    due("to himself", x.bestCounter(0, 1, 1, 9), NONE);
    due("no one", x.bestCounter(0, -1, 1, 9), NONE);
    due("no other", x.bestCounter(0, 0, 6, 9), NONE);
  }

  /** Promise 22. */
  private static void payment() {
    RingingCoins x = shop("note note");
    for (int i = 1; i <= 10; i++) {
      due("payment " + i, x.payment(i % 3, i), i);
    }
    due("an eleventh", x.payment(0, 1), -2);
    due("PAYMENTS", x.count(5), 10);
    due("none then", x.payment(-1, 99), 0);
    due("PAYMENTS", x.count(5), 0);
    due("no COIN", x.payment(0, 0), -2);
    due("no set", x.payment(0, 32), -2);
    due("no set below", x.payment(0, -1), -2);
    due("no COUNTER", x.payment(3, 1), -2);
    due("no COUNTER below", x.payment(-2, 1), -2);
    due("PAYMENTS", x.count(5), 0);
    due("all COINS", x.payment(2, 31), 1);
    due("none without a MINT", new RingingCoins().payment(-1, 0), 0);
  }

  /** Promise 23. */
  private static void rounds() {
    RingingCoins x = shop("note note", "note coin*30", "note 1");
    due("none: ROUNDS", x.rounds(0, 0), 0);
    due("none: CLASH", x.rounds(0, 1), 0);
    x.payment(0, 1);
    due("one: ROUNDS", x.rounds(0, 0), 1);
    x.payment(0, 2);
    due("two unlike: ROUNDS", x.rounds(0, 0), 1);
    x.payment(0, 4);
    // 2 and 5 together sound like 2.
    due("CLASH", x.rounds(0, 1), 1);
    due("ROUNDS", x.rounds(0, 0), 2);
    due("CLASH by another LAW", x.rounds(1, 1), 0);
    due("all CLASH", x.rounds(2, 1), 3);
    due("all CLASH: ROUNDS", x.rounds(2, 0), 3);
    x.payment(1, 2);
    x.payment(1, 3);
    due("a COIN in common", x.rounds(1, 1), 1);
    due("a COIN in common: ROUNDS", x.rounds(1, 0), 2);
    due("not on one COUNTER", x.rounds(2, 1), 4);
    due("not on one COUNTER: ROUNDS", x.rounds(2, 0), 3);
    due("no LAW", x.rounds(3, 0), NONE);
    due("no LAW below", x.rounds(-1, 0), NONE);
    due("what 2", x.rounds(0, 2), NONE);
    due("what -1", x.rounds(0, -1), NONE);
    // A ring of five takes three ROUNDS, though no three CLASH with one another.
    x.payment(-1, 0);
    int[] ring = {3, 6, 12, 24, 17};
    for (int set : ring) {
      x.payment(0, set);
    }
    due("ring: CLASH", x.rounds(1, 1), 5);
    due("ring: ROUNDS", x.rounds(1, 0), 3);
    for (int set : ring) {
      x.payment(1, set);
    }
    // On COUNTER 1 COIN 4 is not heard, so 24 and 17 CLASH with all, and only 3 and 12 do not.
    due("two rings: ROUNDS", x.rounds(1, 0), 4);
    due("two rings: CLASH", x.rounds(1, 1), 10 + clashesUnheard());
    // ALIKE but of one WORTH is no CLASH: COINS of WORTH 0.
    RingingCoins y = minted("coin 5 5 0 1;coin 5 5 0 1;coin 5 5 3 1;counter 0 0", "note note");
    y.payment(0, 1);
    y.payment(0, 2);
    due("of one WORTH", y.rounds(0, 1), 0);
    y.payment(0, 4);
    due("of another WORTH", y.rounds(0, 1), 2);
    Check.law(y, "strength 0 if many=2;note coin");
    due("both together sound like none", y.rounds(1, 1), 2);
    due("ROUNDS", y.rounds(0, 0), 2);
  }

  /** Of the ring's twos without a COIN in common those with COIN 4: 24 with 3 and 6, 17 with 6 and 12. */
  private static int clashesUnheard() {
    return 4;
  }

  /** Promise 24. */
  private static void land() {
    String mint = "coin 100 9 4 1;coin 200 9 1 1;coin 300 9 2 1;coin 400 9 1 1;coin 500 9 3 1;coin 500 9 5 1;counter 0 0;counter 0 9";
    RingingCoins x = minted(mint, "note note");
    due("no price", x.land(0, 0, 0, 4), 0);
    due("1", x.land(0, 0, 1, 4), 2);
    due("2", x.land(0, 0, 2, 1), 6);
    due("2 by two", x.land(0, 0, 2, 2), 6);
    // 1, 2 and 3 with one COIN each: 3 is COIN 4.
    due("3 by one", x.land(0, 0, 3, 1), 22);
    due("3 by two", x.land(0, 0, 3, 2), 6);
    due("4 by one", x.land(0, 0, 4, 1), 23);
    due("5 by one has 500 twice", x.land(0, 0, 5, 1), -2);
    due("7", x.land(0, 0, 7, 3), 7);
    due("7 by two", x.land(0, 0, 7, 2), 23);
    due("8", x.land(0, 0, 8, 4), 15);
    due("200", x.land(0, 0, 200, 4), -2);
    due("unheard", x.land(0, 1, 1, 1), -2);
    due("unheard without a price", x.land(0, 1, 0, 1), 0);
    due("p 201", x.land(0, 0, 201, 1), NONE);
    due("p -1", x.land(0, 0, -1, 1), NONE);
    due("k 0", x.land(0, 0, 0, 0), NONE);
    due("k 5", x.land(0, 0, 0, 5), NONE);
    due("no LAW", x.land(1, 0, 0, 1), NONE);
    due("no COUNTER", x.land(0, 2, 0, 1), NONE);
    // WORTH 1 twice in one note: one alone is a LAND, and both together are MISTAKEN by two.
    RingingCoins y = minted("coin 5 5 1 1;coin 5 5 1 1;coin 9 5 1 1;counter 0 0", "note note");
    due("of several the least as bits", y.land(0, 0, 1, 1), 1);
    due("not with both", y.land(0, 0, 2, 2), 5);
    StringBuilder twelve = new StringBuilder();
    for (int i = 1; i <= 12; i++) {
      twelve.append("coin ").append(i).append(" 9 ").append(i).append(" 1;");
    }
    RingingCoins z = minted(twelve + "counter 0 0", "note note");
    due("all twelve", z.land(0, 0, 12, 1), 4095);
    due("all but the last", z.land(0, 0, 11, 1), 2047);
    due("one too many", z.land(0, 0, 13, 1), -2);
  }

  /** Promise 25. */
  private static void forger() {
    RingingCoins x = new RingingCoins();
    for (int n = 0; n <= 201; n++) {
      for (int g = 0; g <= 201; g += n % 7 == 0 ? 1 : 10) {
        due("forger(" + n + ", " + g + ")", x.forger(n, g), Oracle.forger(n, g));
      }
    }
    due("forger(200, 1)", x.forger(200, 1), 199);
    due("forger(200, 200)", x.forger(200, 200), 8);
    due("forger(128, 64)", x.forger(128, 64), 7);
    due("forger(128, 63)", x.forger(128, 63), 8);
    due("forger(9, 2)", x.forger(9, 2), 5);
    due("forger(0, 1)", x.forger(0, 1), NONE);
    due("forger(1, 0)", x.forger(1, 0), NONE);
    due("forger(-5, 1)", x.forger(-5, 1), NONE);
  }

  /** Promises 26 and 27. */
  private static void seedAndYear() {
    RingingCoins x = shop("note note");
    due("seed(5)", x.seed(5), 0);
    due("seed(2147483647)", x.seed(2147483647), 5);
    due("seed(-1)", x.seed(-1), NONE);
    due("seed(0)", x.seed(0), 2147483647);
    due("seed(2147483647) again", x.seed(2147483647), 0);
    due("x stays", x.count(7), 2147483647);
    x.give(2, 3);
    x.fall(4);
    long z = 2147483647L;
    int[] holder = {0, 0, 3, 0, 0};
    int[] falls = {0, 0, 1, 0, 0};
    int[] worth = {1, 2, 5, 10, 20};
    int[] tough = {2, 3, 1, 9, 4};
    for (int m = 1; m <= 500; m++) {
      z = (z * 1103515245L + 12345L) % 2147483648L;
      int coin = (int) (z / 65536 % 5);
      z = (z * 1103515245L + 12345L) % 2147483648L;
      holder[coin] = (int) (z / 65536 % 6);
      falls[coin]++;
      int[] has = new int[6];
      int cracks = 0;
      for (int i = 0; i < 5; i++) {
        has[holder[i]] += worth[i];
        cracks += falls[i] / tough[i];
      }
      int who = 0;
      for (int i = 1; i < 6; i++) {
        who = has[i] > has[who] ? i : who;
      }
      due("year(" + m + ", 0)", x.year(m, 0), who);
      due("year(" + m + ", 1)", x.year(m, 1), has[who]);
      due("year(" + m + ", 2)", x.year(m, 2), cracks);
    }
    due("x is as it was", x.count(7), 2147483647);
    due("nothing else changes: falls", x.coin(2, 5), 1);
    due("nothing else changes: falls", x.coin(0, 5), 0);
    due("nothing else changes: holder", x.coin(2, 4), 3);
    due("m 0", x.year(0, 0), NONE);
    due("m 501", x.year(501, 0), NONE);
    due("what 3", x.year(1, 3), NONE);
    due("what -1", x.year(1, -1), NONE);
    due("no COINS", minted("counter 0 0").year(1, 0), NONE);
    RingingCoins poor = minted("coin 1 1 0 1;counter 0 0");
    poor.give(0, 4);
    due("of several the least", poor.year(3, 0), 0);
    due("no WORTH", poor.year(3, 1), 0);
    due("cracks", poor.year(3, 2), 3);
  }

  /** Promise 28. */
  private static void count() {
    RingingCoins x = shop("note note", "note 1");
    x.give(0, 5);
    x.give(4, 5);
    x.give(3, 1);
    x.hear(5);
    x.hear(6);
    x.hear(7);
    x.payment(0, 1);
    x.seed(4321);
    x.feed(1, 2, 3, 4, 5);
    int[] due = {5, 3, 20, 2, 2, 1, 3, 4321, 20, 38, 7, 10, 0, 0, 0, 21};
    for (int what = 0; what < 16; what++) {
      due("count(" + what + ")", x.count(what), due[what]);
    }
    due("count(16)", x.count(16), NONE);
    due("count(-1)", x.count(-1), NONE);
    due("count(least)", x.count(Integer.MIN_VALUE), NONE);
    due("count(greatest)", x.count(Integer.MAX_VALUE), NONE);
  }

  /** Promises 29 and 30. */
  private static void images() {
    RingingCoins x = new RingingCoins();
    due("image without a MINT", x.image(3), 0);
    due("never made", x.back(0), NONE);
    Check.mint(x, SHOP);
    Check.law(x, "note note+falls");
    x.hear(500);
    x.payment(1, 5);
    x.seed(9);
    x.give(1, 4);
    x.fall(2);
    due("image(0)", x.image(0), 5);
    due("image(4)", x.image(4), NONE);
    due("image(-1)", x.image(-1), NONE);
    due("before", x.sounds(0, 0, 2, 1, 0), 501);
    x.hear(400);
    x.payment(1, 6);
    x.seed(10);
    x.give(1, 3);
    x.fall(2);
    x.retune(0, 7);
    due("behind", x.sounds(0, 0, 2, 1, 0), 502);
    due("it goes back", x.image(1) + x.back(0), 10);
    due("gone back to", x.sounds(0, 0, 2, 1, 0), 501);
    due("and forth", x.back(1), 5);
    due("there again", x.sounds(0, 0, 2, 1, 0), 502);
    Check.law(x, "note 1");
    x.image(1);
    due("another MINT", Check.mint(x, "coin 1 1 1 1;counter 5 6"), 1);
    x.feed(1, 2, 3, 4, 5);
    due("image(2)", x.image(2), 1);
    due("back(0)", x.back(0), 5);
    int[] due = {5, 3, 20, 2, 2, 1, 1, 9, 20, 38, 36, 0, 0, 0, 2, 0};
    for (int what = 0; what < 16; what++) {
      due("back(0): count(" + what + ")", x.count(what), due[what]);
    }
    due("back(0): holder", x.coin(1, 4), 4);
    due("back(0): falls", x.coin(1, 5), 1);
    due("back(0): note", x.coin(0, 0), 100);
    due("back(0): COUNTER", x.counter(1, 0), 60);
    due("back(0): sounds", x.sounds(0, 0, 2, 1, 0), 501);
    due("back(0): HEARD", x.hear(500), -2);
    due("back(0): not HEARD", x.hear(400), 2);
    due("back(0) again", x.back(0), 5);
    due("an IMAGE does not change", x.count(6), 1);
    due("back(1)", x.back(1), 5);
    due("back(1): PAYMENTS", x.count(5), 2);
    due("back(1): note", x.coin(0, 0), 7);
    due("back(1): x", x.count(7), 10);
    due("back(2)", x.back(2), 1);
    due("back(2): damp", x.counter(0, 1), 6);
    due("back(3)", x.back(3), 0);
    due("back(3): no MINT", x.fall(0), NONE);
    due("back(3): x", x.count(7), 0);
    due("back(3): LAWS stay", x.count(4), 2);
    due("back(3): the TAPE stays", x.count(8), 20);
    due("back(4)", x.back(4), NONE);
    due("back(-1)", x.back(-1), NONE);
    due("image over another one", x.image(0), 0);
    due("it is the new one", x.back(0), 0);
  }
}
