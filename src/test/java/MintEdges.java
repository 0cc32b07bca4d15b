/** Edges of a new object, the TAPE and the MINT: promises 1 to 4. */
final class MintEdges {
  private static final int NONE = Edge.NONE;

  private MintEdges() {
  }

  private static void due(String call, long got, long want) {
    Edge.due(call, got, want);
  }

  private static void good(String text, int coins) {
    due("mint \"" + text + "\"", Check.mint(new RingingCoins(), text), coins);
  }

  /** The FAULT lies where the second part of the text begins. */
  private static void bad(String before, String rest, int kind) {
    due("mint \"" + before + rest + "\"", Check.mint(new RingingCoins(), before + rest), Check.fault(before.length(), kind));
  }

  private static RingingCoins fed(int bytes) {
    RingingCoins x = new RingingCoins();
    for (int i = 0; i < (bytes + 19) / 20; i++) {
      x.feed(0x20202020, 0x20202020, 0x20202020, 0x20202020, 0x20202020);
    }
    due("end(" + bytes + ")", x.end(bytes), bytes);
    return x;
  }

  private static String padded(String text, int length) {
    return text + " ".repeat(length - text.length());
  }

  // ---- promise 1

  static void aNewObjectHasNoMint() {
    Edge.says(1, "No MINT");
    RingingCoins x = new RingingCoins();
    due("COINS", x.count(0), 0);
    due("COUNTERS", x.count(1), 0);
    due("not even the empty set falls", x.fall(0), NONE);
    due("payment(0, 0)", x.payment(0, 0), -2);
    due("year(1, 0)", x.year(1, 0), NONE);
  }

  static void aNewObjectHasNoLaws() {
    Edge.says(1, "no LAWS");
    RingingCoins x = Edge.minted("counter 0 0");
    due("LAWS", x.count(4), 0);
    due("tones(0, 0, 0)", x.tones(0, 0, 0), NONE);
    due("rounds(0, 0)", x.rounds(0, 0), NONE);
  }

  static void allElseIsEmptyAtFirst() {
    Edge.says(1, "`RingingCoins()`");
    RingingCoins x = new RingingCoins();
    for (int what = 0; what < 16; what++) {
      due("count(" + what + ")", x.count(what), 0);
    }
    for (int k = 0; k < 4; k++) {
      due("no IMAGE " + k, x.back(k), NONE);
    }
  }

  static void the512thCallIsAnswered() {
    Edge.says(1, "An object is used for at most 512 calls after it has been made");
    RingingCoins x = new RingingCoins();
    for (int i = 1; i < 512; i++) {
      x.seed(i);
    }
    due("the 512th call", x.seed(0), 511);
  }

  static void noneIsBelow0() throws ReflectiveOperationException {
    Edge.says(1, "`NONE = -1`");
    // Not by its name, which the compiler would have put into this test as a number.
    due("NONE", RingingCoins.class.getField("NONE").getInt(null), -1);
  }

  // ---- promise 2

  static void feedAnswersHowManyBytesThereAre() {
    Edge.says(2, "how many it has");
    RingingCoins x = new RingingCoins();
    for (int i = 1; i <= 20; i++) {
      due("feed " + i, x.feed(0, 0, 0, 0, 0), 20 * i);
    }
    RingingCoins y = fed(7);
    due("feed behind 7", y.feed(0, 0, 0, 0, 0), 27);
  }

  static void feedFillsTheTapeToItsLastByte() {
    Edge.says(2, "if it would have more than 400");
    due("feed behind 380", fed(380).feed(0, 0, 0, 0, 0), 400);
  }

  static void feedIsRefusedByOneByte() {
    Edge.says(2, "NONE, and none comes, if it would have more than 400");
    RingingCoins x = fed(381);
    due("feed behind 381", x.feed(0, 0, 0, 0, 0), NONE);
    due("none comes", x.count(8), 381);
  }

  static void feedIsRefusedByAFullTape() {
    Edge.says(2, "NONE, and none comes, if it would have more than 400");
    RingingCoins x = fed(400);
    due("feed behind 400", x.feed(0, 0, 0, 0, 0), NONE);
    due("none comes", x.count(8), 400);
  }

  static void aRefusedFeedLeavesTheBytes() {
    Edge.says(2, "and none comes");
    RingingCoins x = new RingingCoins();
    Check.tell(x, padded("counter 7 5", 399));
    due("feed behind 399", x.feed(0x78787878, 0x78787878, 0x78787878, 0x78787878, 0x78787878), NONE);
    due("mint()", x.mint(), 0);
    due("down", x.counter(0, 0), 7);
  }

  static void theHighestByteComesFirst() {
    Edge.says(2, "of each number the highest first");
    RingingCoins x = new RingingCoins();
    x.feed('c' << 24 | 'o' << 16 | 'u' << 8 | 'n', 't' << 24 | 'e' << 16 | 'r' << 8 | '1', ' ' << 24 | '2' << 16 | ';' << 8 | 'b',
        'l' << 24 | 'u' << 16 | 'r' << 8 | '3', '4' << 24 | '5' << 16 | ' ' << 8 | ' ');
    due("mint()", x.mint(), 0);
    due("down", x.counter(0, 0), 1);
    due("damp", x.counter(0, 1), 2);
    due("blur", x.count(2), 345);
  }

  static void bytesOfNumbersBelow0ComeToo() {
    Edge.says(2, "Twenty bytes come behind the TAPE");
    RingingCoins x = new RingingCoins();
    Check.tell(x, "counter 0 0");
    due("feed of -1", x.feed(-1, -1, -1, -1, Integer.MIN_VALUE), 31);
    due("the byte 255 can't stand there", x.mint(), Check.fault(11, 0));
  }

  static void feedGoesOnBehindTheEnd() {
    Edge.says(2, "Twenty bytes come behind the TAPE");
    RingingCoins x = new RingingCoins();
    Check.tell(x, "counter 1 2xxxx");
    due("end(10)", x.end(10), 10);
    due("feed", x.feed(0x33342020, 0x20202020, 0x20202020, 0x20202020, 0x20202020), 30);
    due("mint()", x.mint(), 0);
    due("down", x.counter(0, 0), 1);
    due("damp", x.counter(0, 1), 34);
  }

  // ---- promise 3

  static void endOfAllBytesLeavesThem() {
    Edge.says(3, "The TAPE has its first n bytes alone: n");
    RingingCoins x = fed(400);
    due("end(400)", x.end(400), 400);
    due("end(399)", x.end(399), 399);
    due("bytes", x.count(8), 399);
  }

  static void endOf0EmptiesTheTape() {
    Edge.says(3, "The TAPE has its first n bytes alone: n");
    RingingCoins x = fed(60);
    due("end(0)", x.end(0), 0);
    due("bytes", x.count(8), 0);
    due("end(0) of an empty one", x.end(0), 0);
  }

  static void theFirstBytesStay() {
    Edge.says(3, "its first n bytes alone");
    RingingCoins x = new RingingCoins();
    Check.tell(x, "counter 12 34");
    x.end(12);
    x.mint();
    due("down", x.counter(0, 0), 12);
    due("damp", x.counter(0, 1), 3);
  }

  static void endIsRefusedBeyondWhatThereIs() {
    Edge.says(3, "NONE, and nothing happens, if it has not so many");
    RingingCoins x = fed(20);
    due("end(21)", x.end(21), NONE);
    due("end(greatest)", x.end(Integer.MAX_VALUE), NONE);
    due("nothing happens", x.count(8), 20);
    due("end(1) of nothing", new RingingCoins().end(1), NONE);
  }

  static void endDoesNotBringBytesBack() {
    Edge.says(3, "if it has not so many");
    RingingCoins x = fed(20);
    due("end(5)", x.end(5), 5);
    due("end(6)", x.end(6), NONE);
    due("nothing happens", x.count(8), 5);
  }

  static void endIsRefusedBelow0() {
    Edge.says(3, "or n is below 0");
    RingingCoins x = fed(20);
    due("end(-1)", x.end(-1), NONE);
    due("end(least)", x.end(Integer.MIN_VALUE), NONE);
    due("nothing happens", x.count(8), 20);
  }

  // ---- promise 4: what mint does

  static void mintEmptiesTheTape() {
    Edge.says(4, "The TAPE, which is empty then");
    RingingCoins x = new RingingCoins();
    due("mint", Check.mint(x, "counter 0 0"), 0);
    due("bytes", x.count(8), 0);
    due("the empty TAPE is no MINT", x.mint(), Check.fault(0, 0));
  }

  static void aFaultEmptiesTheTapeToo() {
    Edge.says(4, "The TAPE, which is empty then");
    RingingCoins x = new RingingCoins();
    due("mint", Check.mint(x, "counter 0 x"), Check.fault(10, 0));
    due("bytes", x.count(8), 0);
  }

  static void mintAnswersNoCoinAndTwelve() {
    Edge.says(4, "how many COINS");
    good("counter 0 0", 0);
    good("coin 0 1 0 1;counter 0 0", 1);
    good(Edge.twelve(1) + "counter 0 0", 12);
  }

  private static RingingCoins used() {
    RingingCoins x = Edge.minted("coin 1 2 3 4;coin 5 6 7 8;counter 9 10;counter 11 12;blur 13;deaf 14", "note 1");
    x.give(1, 5);
    x.retune(0, 700);
    x.fall(3);
    x.hear(100);
    x.hear(200);
    x.payment(1, 3);
    x.seed(77);
    return x;
  }

  static void mintTakesThePlaceOfTheOneThereWas() {
    Edge.says(4, "is the MINT in place of the one there was");
    RingingCoins x = used();
    due("mint", Check.mint(x, "coin 21 22 23 24;counter 25 26"), 1);
    int[] coin = {21, 22, 23, 24, 0, 0, 0};
    for (int what = 0; what < 7; what++) {
      due("coin(0, " + what + ")", x.coin(0, what), coin[what]);
    }
    due("no COIN 1", x.coin(1, 0), NONE);
    due("down", x.counter(0, 0), 25);
    due("no COUNTER 1", x.counter(1, 0), NONE);
    due("blur", x.count(2), 0);
    due("deaf", x.count(3), 0);
  }

  static void mintForgetsWhatWasHeard() {
    Edge.says(4, "nothing HEARD");
    RingingCoins x = used();
    due("HEARD before", x.count(6), 2);
    Check.mint(x, "counter 0 0");
    due("HEARD behind", x.count(6), 0);
    due("100 can be HEARD again", x.hear(100), 1);
  }

  static void mintForgetsPayments() {
    Edge.says(4, "no PAYMENTS");
    RingingCoins x = used();
    due("PAYMENTS before", x.count(5), 1);
    Check.mint(x, "counter 0 0");
    due("PAYMENTS behind", x.count(5), 0);
    due("ROUNDS", x.rounds(0, 0), 0);
  }

  static void mintLeavesX() {
    Edge.says(4, "x stays");
    RingingCoins x = used();
    Check.mint(x, "counter 0 0");
    due("x", x.count(7), 77);
  }

  static void mintLeavesLawsAndImages() {
    Edge.says(4, "is the MINT in place of the one there was");
    RingingCoins x = used();
    x.image(2);
    Check.mint(x, "counter 0 0");
    due("LAWS", x.count(4), 1);
    due("back(2)", x.back(2), 2);
  }

  static void aFaultLeavesAll() {
    Edge.says(4, "-2 - its FAULT, and all stays");
    RingingCoins x = used();
    String before = Edge.stateOf(x);
    due("mint", Check.mint(x, "coin 1 1 1 1;counter 5 6;blur 7;deaf 8;"), Check.fault(39, 0));
    Edge.nothingHappened(x, before);
    due("100 is HEARD", x.hear(100), -2);
    due("the PAYMENT is there", x.rounds(0, 0), 1);
  }

  static void aFaultWithoutAMintLeavesNone() {
    Edge.says(4, "-2 - its FAULT, and all stays");
    RingingCoins x = new RingingCoins();
    due("mint", Check.mint(x, "coin 1 1 1 1;counter 5 6;blur 1000"), Check.fault(30, 1));
    due("COINS", x.count(0), 0);
    due("no MINT", x.fall(0), NONE);
  }

  static void mintTakesTheSoundsWithIt() {
    Edge.says(4, "in place of the one there was");
    RingingCoins x = Edge.minted("coin 7 5 1 1;counter 0 0", "strength 9");
    due("before", x.sounds(0, 0, 1, 0, 0), 7);
    Check.mint(x, "coin 8 5 1 1;counter 0 0");
    due("behind", x.sounds(0, 0, 1, 0, 0), 8);
  }

  // ---- promise 4: the text of a MINT

  static void aMintOf400Bytes() {
    Edge.says(4, "A MINT is a text of at most 400 bytes");
    good(padded("counter 0 0", 400), 0);
    good(" ".repeat(389) + "counter 0 0", 0);
    bad(padded("blur 5", 400), "", 0);
    bad(" ".repeat(399), "x", 0);
  }

  static void eachKindOfClauseToItsMost() {
    Edge.says(4, "24 at most");
    good("deaf 1;" + Edge.twelve(1) + "counter 0 0;".repeat(4) + "blur 2", 12);
  }

  /** A 25th can't be told before: the 19th is one too many of its kind. */
  static void oneClauseTooMany() {
    Edge.says(4, "4 one CLAUSE too many");
    bad("deaf 1;" + Edge.twelve(1) + "counter 0 0;".repeat(4) + "blur 2;", "coin 1 1 1 1", 4);
    bad("deaf 1;" + Edge.twelve(1) + "counter 0 0;".repeat(4) + "blur 2;", "counter 0 0", 4);
    bad("deaf 1;" + Edge.twelve(1) + "counter 0 0;".repeat(4) + "blur 2;", "blur 2", 4);
    bad("deaf 1;" + Edge.twelve(1) + "counter 0 0;".repeat(4) + "blur 2;", "deaf 2", 4);
  }

  static void noteOfACoin() {
    Edge.says(4, "note 0 to 2400");
    RingingCoins x = Edge.minted("coin 0 1 1 1;coin 2400 1 1 1;counter 0 0");
    due("least", x.coin(0, 0), 0);
    due("greatest", x.coin(1, 0), 2400);
    bad("coin ", "2401 1 1 1;counter 0 0", 1);
    bad("coin ", "99999 1 1 1;counter 0 0", 1);
  }

  static void strengthOfACoin() {
    Edge.says(4, "strength 1 to 99");
    RingingCoins x = Edge.minted("coin 0 1 1 1;coin 0 99 1 1;counter 0 0");
    due("least", x.coin(0, 1), 1);
    due("greatest", x.coin(1, 1), 99);
    bad("coin 0 ", "0 1 1;counter 0 0", 1);
    bad("coin 0 ", "100 1 1;counter 0 0", 1);
  }

  static void worthOfACoin() {
    Edge.says(4, "WORTH 0 to 999");
    RingingCoins x = Edge.minted("coin 0 1 0 1;coin 0 1 999 1;counter 0 0");
    due("least", x.coin(0, 2), 0);
    due("greatest", x.coin(1, 2), 999);
    bad("coin 0 1 ", "1000 1;counter 0 0", 1);
  }

  static void toughOfACoin() {
    Edge.says(4, "tough 1 to 99");
    RingingCoins x = Edge.minted("coin 0 1 0 1;coin 0 1 0 99;counter 0 0");
    due("least", x.coin(0, 3), 1);
    due("greatest", x.coin(1, 3), 99);
    bad("coin 0 1 0 ", "0;counter 0 0", 1);
    bad("coin 0 1 0 ", "100;counter 0 0", 1);
  }

  static void downOfACounter() {
    Edge.says(4, "down 0 to 1200");
    RingingCoins x = Edge.minted("counter 0 5;counter 1200 5");
    due("least", x.counter(0, 0), 0);
    due("greatest", x.counter(1, 0), 1200);
    bad("counter ", "1201 5", 1);
  }

  static void dampOfACounter() {
    Edge.says(4, "damp 0 to 99");
    RingingCoins x = Edge.minted("counter 5 0;counter 5 99");
    due("least", x.counter(0, 1), 0);
    due("greatest", x.counter(1, 1), 99);
    bad("counter 5 ", "100", 1);
  }

  static void blurFrom0To999() {
    Edge.says(4, "blur NUMBER (0 to 999;");
    due("least", Edge.minted("counter 0 0;blur 0").count(2), 0);
    due("greatest", Edge.minted("counter 0 0;blur 999").count(2), 999);
    bad("counter 0 0;blur ", "1000", 1);
  }

  static void blurOnceAtMost() {
    Edge.says(4, "once at most, 0 without) | deaf");
    bad("counter 0 0;blur 1;", "blur 1", 4);
    bad("counter 0 0;blur 0;", "blur 0", 4);
  }

  static void blur0Without() {
    Edge.says(4, "once at most, 0 without) | deaf");
    RingingCoins x = Edge.minted("counter 0 0;blur 5;deaf 6");
    Check.mint(x, "counter 0 0;deaf 6");
    due("blur", x.count(2), 0);
    due("deaf", x.count(3), 6);
  }

  static void deafFrom0To99() {
    Edge.says(4, "deaf NUMBER (0 to 99;");
    due("least", Edge.minted("counter 0 0;deaf 0").count(3), 0);
    due("greatest", Edge.minted("counter 0 0;deaf 99").count(3), 99);
    bad("counter 0 0;deaf ", "100", 1);
  }

  static void deafOnceAtMost() {
    Edge.says(4, "once at most, 0 without). COINS");
    bad("counter 0 0;deaf 1;", "deaf 1", 4);
    bad("deaf 0;counter 0 0;", "deaf 0", 4);
  }

  static void deaf0Without() {
    Edge.says(4, "once at most, 0 without). COINS");
    RingingCoins x = Edge.minted("counter 0 0;blur 5;deaf 6");
    Check.mint(x, "counter 0 0;blur 5");
    due("deaf", x.count(3), 0);
    due("blur", x.count(2), 5);
  }

  static void coins0To11InTheirOrder() {
    Edge.says(4, "COINS 0 to 11, COUNTERS 0 to 3, in the order told");
    RingingCoins x = Edge.minted("counter 1 0;" + Edge.twelve(1) + "counter 2 0;counter 3 0;counter 4 0");
    for (int i = 0; i < 12; i++) {
      due("note of COIN " + i, x.coin(i, 0), 100 * (i + 1));
    }
    for (int i = 0; i < 4; i++) {
      due("down of COUNTER " + i, x.counter(i, 0), i + 1);
    }
  }

  static void atLeastOneCounter() {
    Edge.says(4, "at least one COUNTER");
    bad("coin 1 1 1 1", "", 0);
    bad("coin 1 1 1 1;blur 1;deaf 1  ", "", 0);
    good("counter 0 0", 0);
  }

  static void eachCoinIsHeldBy0AtFirst() {
    Edge.says(4, "(0 at first), has FALLEN so often");
    RingingCoins x = used();
    Check.mint(x, "coin 1 1 1 1;coin 1 1 1 1;counter 0 0");
    due("COIN 0", x.coin(0, 4), 0);
    due("COIN 1", x.coin(1, 4), 0);
  }

  static void eachCoinHasNotFallenAtFirst() {
    Edge.says(4, "has FALLEN so often (0 at first)");
    RingingCoins x = used();
    Check.mint(x, "coin 1 1 1 1;coin 1 1 1 1;counter 0 0");
    due("COIN 0", x.coin(0, 5), 0);
    due("COIN 1", x.coin(1, 5), 0);
    due("cracks", x.coin(0, 6), 0);
  }

  // ---- promise 4: FAULTS

  static void faultsFromTheFirstPlaceToBehindTheLast() {
    Edge.says(4, "1 + 8 * its place and");
    due("0 at 0", Check.mint(new RingingCoins(), ""), -3);
    due("1 at 5", Check.mint(new RingingCoins(), "blur 1000"), -44);
    due("4 at 7", Check.mint(new RingingCoins(), "blur 1;blur 1"), -63);
    due("0 at 399", Check.mint(new RingingCoins(), " ".repeat(399) + "x"), -3195);
    due("0 at 400", Check.mint(new RingingCoins(), " ".repeat(400)), -3203);
  }

  static void theFirstFaultAlongTheText() {
    Edge.says(4, "FAULTS, the first along the text");
    bad("coin ", "2401 0 1000 0;x", 1);
    bad("coin 1 ", "x 1000", 0);
    bad("blur 1;", "blur 1000;x", 4);
  }

  static void aByteThatCantStandThere() {
    Edge.says(4, "0 a byte or word that can't stand there");
    for (String sign : new String[] {",", "-1", "+1", ".", "\t", "\n", "\0", "\u00e9", "\u00ff", "A", "[", "=", "<=", "`", "{", "/", ":"}) {
      bad("counter 5 ", sign, 0);
      bad("counter 5 5", sign, 0);
      bad("", sign, 0);
    }
    bad("counter 5 5;", ";", 0);
    bad("", ";counter 5 5", 0);
  }

  static void aWordThatCantStandThere() {
    Edge.says(4, "0 a byte or word that can't stand there");
    String words = "counters counterz countera count acounter x note strength coins coi blurr deafer";
    for (String word : words.split(" ")) {
      bad("", word + " 0 0", 0);
      bad("blur 5;  ", word + " 0 0", 0);
    }
    bad("counter 5 ", "counter", 0);
    bad("counter 5 5 ", "coin 1 1 1 1", 0);
  }

  static void aNumberThatCantStandThere() {
    Edge.says(4, "0 a byte or word that can't stand there");
    bad("", "5", 0);
    bad("counter 5 5 ", "5", 0);
    bad("blur 5 ", "5;counter 5 5", 0);
  }

  static void theEndThatCantStandThere() {
    Edge.says(4, "or the end (behind the last byte");
    bad("", "", 0);
    bad("    ", "", 0);
    bad("counter", "", 0);
    bad("counter 5", "", 0);
    bad("counter 5 ", "", 0);
    bad("counter 5 5;", "", 0);
    bad("counter 5 5; ", "", 0);
    bad("counter 5 5;coin 1 1 1", "", 0);
    bad("counter 5 5;blur", "", 0);
    bad("counter 5 5;deaf ", "", 0);
  }

  static void theEndWithoutACounter() {
    Edge.says(4, "also without a COUNTER");
    bad("blur 5", "", 0);
    bad("coin 1 1 1 1   ", "", 0);
  }

  static void aNumberOfFiveDigits() {
    Edge.says(4, "1 a NUMBER of more digits (5 at most)");
    good("counter 01200 00099", 0);
    good("coin 02400 00099 00999 00001;counter 00000 0", 1);
    bad("coin ", "000000 1 1 1", 1);
    bad("coin 0 ", "000001 1 1", 1);
    bad("coin 0 1 ", "000000 1", 1);
    bad("coin 0 1 0 ", "000001", 1);
    bad("counter ", "001200 0", 1);
    bad("counter 0 ", "000000", 1);
    bad("counter 0 0;blur ", "000000", 1);
    bad("counter 0 0;deaf ", "000000", 1);
    bad("counter 0 ", "99999999999999999999", 1);
    bad("counter 0 ", "4294967296", 1);
  }

  static void aNumberNotAsTold() {
    Edge.says(4, "or not as told (at it)");
    bad("counter 0 0; coin   ", "2401 1 1 1", 1);
    bad("counter 0 0;coin 1 1 1   ", "100 ;", 1);
  }

  static void aThirteenthCoin() {
    Edge.says(4, "a 13th COIN");
    bad("counter 0 0;" + Edge.twelve(1), "coin 1 1 1 1", 4);
    bad("counter 0 0;" + Edge.twelve(1) + "  ", "coin", 4);
  }

  static void aFifthCounter() {
    Edge.says(4, "a fifth COUNTER");
    bad("counter 0 0;".repeat(4), "counter 0 0", 4);
    bad("counter 0 0;".repeat(4) + " ", "counter", 4);
    good("counter 0 0;counter 0 0;counter 0 0;counter 0 0", 0);
  }

  static void aSecondBlurOrDeafAtItsFirstByte() {
    Edge.says(4, "a second blur or deaf (at its first byte)");
    bad("blur 1; ", "blur x", 4);
    bad("deaf 1; ", "deaf", 4);
    good("blur 1;deaf 1;counter 0 0", 0);
  }

  static void ofOnePlaceTheLeast() {
    Edge.says(4, "Of one place the least");
    bad(Edge.twelve(1), "coins 1 1 1 1", 0);
    bad("counter 0 0;".repeat(4), "counter1", 4);
    bad("counter 0 0;".repeat(4), "counters", 0);
    bad("counter 0 0 ", "1234567", 0);
    bad("", "1234567", 0);
  }

  static void blanksAsOneLikes() {
    Edge.says(4, "Blanks (32) stand between as one likes");
    good("counter0 0;coin1 1 1 1;blur1;deaf1", 1);
    good("   counter   0   0   ;   coin 1   1 1 1   ;blur 1;  deaf   1  ", 1);
    bad("", "count er 0 0", 0);
  }
}
