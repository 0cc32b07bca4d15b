/** Edges of the LAWS' texts, promise 5, and of what a COIN sounds by them, promise 11. */
final class LawEdges {
  private static final int NONE = Edge.NONE;
  private static final int NO_SOUND = Edge.NO_SOUND;
  // 2^63 goes round to the least number of 64 bits.
  private static final String LEAST = "65536*65536*65536*32768";

  private LawEdges() {
  }

  private static void due(String call, long got, long want) {
    Edge.due(call, got, want);
  }

  private static void good(String text) {
    due("law \"" + text + "\"", Check.law(new RingingCoins(), text), 0);
  }

  /** The FAULT lies where the second part of the text begins. */
  private static void bad(String before, String rest, int kind) {
    due("law \"" + before + rest + "\"", Check.law(new RingingCoins(), before + rest), Check.fault(before.length(), kind));
  }

  private static RingingCoins withSixLaws() {
    RingingCoins x = Edge.minted("coin 5 5 5 5;counter 0 0", "note 0", "note 1", "note 2", "note 3", "note 4", "note 5");
    due("LAWS", x.count(4), 6);
    return x;
  }

  // ---- promise 5: what law does

  static void lawsAreNumberedFrom0To5() {
    Edge.says(5, "LAWS 0 to 5");
    RingingCoins x = withSixLaws();
    for (int law = 0; law < 6; law++) {
      due("sounds by LAW " + law, x.sounds(law, 0, 1, 0, 0), law);
    }
    due("no LAW 6", x.sounds(6, 0, 1, 0, 0), NO_SOUND);
  }

  static void lawEmptiesTheTape() {
    Edge.says(5, "The TAPE, which is empty then, is a LAW: its number");
    RingingCoins x = new RingingCoins();
    due("law", Check.law(x, "note 1"), 0);
    due("bytes", x.count(8), 0);
    due("the empty TAPE is no LAW", x.law(), Check.fault(0, 0));
  }

  static void aFaultIsNoLaw() {
    Edge.says(5, "-2 - its FAULT");
    RingingCoins x = Edge.minted("coin 5 5 5 5;counter 0 0", "note 1");
    due("law", Check.law(x, "note 2;note"), Check.fault(11, 0));
    due("the TAPE is empty", x.count(8), 0);
    due("LAWS", x.count(4), 1);
    due("no LAW 1", x.sounds(1, 0, 1, 0, 0), NO_SOUND);
    due("LAW 0 is as it was", x.sounds(0, 0, 1, 0, 0), 1);
    due("the next one has its number", Check.law(x, "note 3"), 1);
    due("LAW 1", x.sounds(1, 0, 1, 0, 0), 3);
    due("a FAULT of strengths", Check.law(x, "strength 9;note"), Check.fault(15, 0));
    due("a LAW of notes", Check.law(x, "note 4"), 2);
    due("nothing of the FAULT is left", x.sounds(2, 0, 1, 0, 1), 5);
  }

  static void aSeventhLawIsRefused() {
    Edge.says(5, "NONE, and nothing happens: there are 6");
    RingingCoins x = withSixLaws();
    due("a seventh", Check.law(x, "note 7"), NONE);
    due("LAWS", x.count(4), 6);
    due("the TAPE stays", x.count(8), 6);
    due("the last LAW is as it was", x.sounds(5, 0, 1, 0, 0), 5);
    due("the first LAW is as it was", x.sounds(0, 0, 1, 0, 0), 0);
  }

  static void aSeventhTextWithAFaultIsRefusedLikewise() {
    Edge.says(5, "NONE, and nothing happens: there are 6");
    RingingCoins x = withSixLaws();
    due("with a FAULT", Check.law(x, "note"), NONE);
    due("the TAPE stays", x.count(8), 4);
    x.end(0);
    due("an empty TAPE", x.law(), NONE);
  }

  static void aFaultBeforeTheSixthDoesNotCount() {
    Edge.says(5, "-2 - its FAULT");
    RingingCoins x = new RingingCoins();
    for (int i = 0; i < 8; i++) {
      due("a FAULT", Check.law(x, "x"), Check.fault(0, 0));
    }
    for (int i = 0; i < 6; i++) {
      due("LAW " + i, Check.law(x, "note 1"), i);
    }
  }

  static void aLawNeedsNoMint() {
    Edge.says(5, "its number");
    good("note 1");
  }

  // ---- promise 5: the text of a LAW

  static void aLawOf400Bytes() {
    Edge.says(5, "texts likewise");
    good("note 1" + " ".repeat(394));
    bad("note 1+" + " ".repeat(393), "", 0);
    bad("note 1" + " ".repeat(393), "x", 0);
    bad("note 1 if 1" + " ".repeat(388) + "<", "", 0);
    bad("note 1 if 1" + " ".repeat(387) + ">=", "", 0);
    bad("note " + " ".repeat(392), "man", 0);
    good("note " + " ".repeat(391) + "many");
    good("note " + " ".repeat(390) + "12345");
  }

  static void twelveClauses() {
    Edge.says(5, "12 CLAUSES at most");
    good("note 1;".repeat(11) + "note 1");
    good("note 1 if 1=1;strength 1;".repeat(5) + "note 1;strength 1");
  }

  static void theTwelfthClauseHolds() {
    Edge.says(5, "12 CLAUSES at most");
    RingingCoins x = Edge.minted("coin 5 5 5 5;counter 0 0", "note 1 if 1>1;".repeat(11) + "note 77");
    due("the twelfth", x.sounds(0, 0, 1, 0, 0), 77);
  }

  static void aThirteenthClause() {
    Edge.says(5, "4 a thirteenth CLAUSE (at its first byte)");
    bad("note 1;".repeat(12), "note 1", 4);
    bad("note 1;".repeat(12) + "  ", "strength", 4);
    bad("note 1;".repeat(12), "notes 1", 0);
    bad("note 1;".repeat(12), "", 0);
    bad("note 1;".repeat(12), ";", 0);
  }

  static void anEmptyLaw() {
    Edge.says(5, "FAULTS 0, 1 likewise");
    bad("", "", 0);
    bad("   ", "", 0);
    bad("", ";note 1", 0);
    bad("note 1;", "", 0);
    bad("note 1;", ";note 1", 0);
  }

  static void aNumberOfOneToFiveDigits() {
    Edge.says(5, "NUMBER (1 to 5 digits, as far as digits go on)");
    good("note 0");
    good("note 99999");
    good("note 00000");
    bad("note ", "100000", 1);
    bad("note ", "000000", 1);
    bad("note 1+ ", "18446744073709551617", 1);
    bad("note 12345 ", "6", 0);
  }

  static void aWordAsFarAsLettersGoOn() {
    Edge.says(5, "WORDS (small letters, as far as these go on)");
    good("note1");
    good("note many*2");
    bad("", "notenote", 0);
    bad("", "notez 1", 0);
    bad("note ", "zmany", 0);
    bad("note ", "manyz", 0);
    bad("note ", "manyif 1=1", 0);
    bad("note 1 ", "ifmany=1", 0);
    bad("note 1 if many=1 ", "andmany=1", 0);
    bad("note 1 if ", "notmany=1", 0);
    bad("note ", "Many", 0);
    bad("note ", "m any", 0);
    bad("note many", "A", 0);
  }

  static void onlyTheWordsOfACoin() {
    Edge.says(5, "WORDS (small letters, as far as these go on) of a COIN that falls with others");
    for (String word : "note strength worth falls cracks coin down damp many loudest".split(" ")) {
      good("note " + word);
      good("strength " + word);
    }
    for (String word : "tough counter blur deaf held x if not and or loud notes".split(" ")) {
      bad("note ", word, 0);
      bad("note 1+", word, 0);
    }
  }

  static void clausesAreOfNoteOrStrength() {
    Edge.says(5, "note SUM [ if TEST ] | strength SUM [ if TEST ]");
    for (String word : "worth falls cracks coin down damp many loudest if blur x".split(" ")) {
      bad("", word + " 1", 0);
      bad("note 1;", word + " 1", 0);
    }
    bad("note ", "if 1=1", 0);
    bad("note 1 if", "", 0);
    bad("note 1 if 1=1 ", "if 1=1", 0);
  }

  static void sumsWithoutAValue() {
    Edge.says(5, "SUM: TERM { (+ or -) TERM }");
    bad("note ", "+1", 0);
    bad("note ", "-1", 0);
    bad("note 1+", "+1", 0);
    bad("note 1-", "", 0);
    bad("note 1+", ";note 1", 0);
    bad("note 1 ", "1", 0);
    bad("note ", "(1)", 0);
    bad("note ", "[1=1]", 0);
  }

  static void termsWithoutAValue() {
    Edge.says(5, "TERM: VALUE { (* or / or %) VALUE }");
    bad("note ", "*1", 0);
    bad("note 1*", "*1", 0);
    bad("note 1/", "", 0);
    bad("note 1%", "-1", 0);
  }

  static void factsWithoutASign() {
    Edge.says(5, "SUM SIGN SUM, SIGN one of < <= = >= >");
    for (String sign : "< <= = >= >".split(" ")) {
      good("note 1 if 1" + sign + "1");
    }
    bad("note 1 if 1", "", 0);
    bad("note 1 if 1", ";note 1", 0);
    bad("note 1 if 1=", "=1", 0);
    bad("note 1 if 1=", "<1", 0);
    bad("note 1 if 1=", ">1", 0);
    bad("note 1 if 1<", ">1", 0);
    bad("note 1 if 1< ", "=1", 0);
    bad("note 1 if 1", "!=1", 0);
    bad("note 1 if 1=1", "=1", 0);
    bad("note 1 if ", "=1", 0);
  }

  static void bracketsThatDoNotClose() {
    Edge.says(5, "[ TEST ] (these brackets are signs)");
    good("note 1 if [1=1]");
    bad("note 1 if [", "]", 0);
    bad("note 1 if [1=1", "", 0);
    bad("note 1 if [1=1", ";note 1", 0);
    bad("note 1 if 1=1", "]", 0);
    bad("note 1 if [1=1]", "]", 0);
    bad("note 1 if [1", "]=1", 0);
  }

  static void partsWithoutAFact() {
    Edge.says(5, "TEST: PART { or PART }. PART: FACT { and FACT }");
    bad("note 1 if 1=1 or", "", 0);
    bad("note 1 if 1=1 and ", "or 1=1", 0);
    bad("note 1 if ", "and 1=1", 0);
    bad("note 1 if not", "", 0);
    bad("note 1 if not ", "or 1=1", 0);
  }

  static void blanksAsOneLikes() {
    Edge.says(5, "Blanks (32) stand between as one likes");
    good("note1+2*many if[1<=2]and not[1=1]or many>1;strength1");
    good("  note   1  +  2  if  [  1  <=  2  ]  ;  strength  1  ");
    bad("note 1", "\t", 0);
    bad("note", "\u00a01", 0);
    bad("note 1 ", "2", 0);
  }

  static void tenDeep() {
    Edge.says(5, "[ and not lie within one another 10 deep at most");
    good("note 1 if " + "[".repeat(10) + "1=1" + "]".repeat(10));
    good("note 1 if " + "not ".repeat(10) + "1=1");
    good("note 1 if " + "not [".repeat(5) + "1=1" + "]".repeat(5));
    good("note 1 if not 1=1" + " and not 1=1".repeat(11));
    good("note 1 if [1=1]" + " or [1=1]".repeat(11));
  }

  static void tooDeepAtTheSignThatOpens() {
    Edge.says(5, "2 too deep (at the sign that opens");
    bad("note 1 if " + "[".repeat(10), "[1=1", 2);
    bad("note 1 if " + "not ".repeat(10) + " ", "[1=1]", 2);
    bad("note 1 if " + "[".repeat(10) + "1=1 and ", "[1=1", 2);
  }

  static void tooDeepAtTheWordNot() {
    Edge.says(5, "or the word not)");
    bad("note 1 if " + "not ".repeat(10), "not 1=1", 2);
    bad("note 1 if " + "[".repeat(10), "not", 2);
    bad("note 1 if " + "[".repeat(10), "nott", 0);
  }

  static void depthIsLeftBehindABracket() {
    Edge.says(5, "[ and not lie within one another 10 deep at most");
    String ten = "[".repeat(10) + "1=1" + "]".repeat(10);
    good("note 1 if " + ten + " and " + ten + ";note 1 if " + ten);
    bad("note 1 if " + ten + " and " + "[".repeat(10), "[", 2);
  }

  static void sixtyValues() {
    Edge.says(5, "at most 60 VALUES and FACTS made of a SIGN, together");
    RingingCoins x = Edge.minted("coin 5 5 5 5;counter 0 0", "note 1" + "+1".repeat(59));
    due("sixty are added", x.sounds(0, 0, 1, 0, 0), 60);
    good("note 1" + "+1".repeat(56) + " if 1=1");
    good("note 1+1+1 if 1=1" + " or 1=1".repeat(17) + " or [1=1]");
    good("note 1;strength 1" + "+many".repeat(58));
  }

  static void aSixtyFirstValueAtItsFirstByte() {
    Edge.says(5, "3 one VALUE or FACT too many (at its first byte");
    bad("note 1" + "+1".repeat(59) + "+ ", "1", 3);
    bad("note 1" + "+1".repeat(59) + "+ ", "loudest", 3);
    bad("note 1;strength 1" + "+1".repeat(58) + "+", "99999", 3);
    bad("note 1" + "+1".repeat(59) + ";note ", "1", 3);
    bad("note 1" + "+1".repeat(57) + " if 1=", "1", 3);
  }

  static void aSixtyFirstFactAtItsSign() {
    Edge.says(5, "of a FACT at its SIGN");
    bad("note 1" + "+1".repeat(58) + " if 1 ", "<= 1", 3);
    bad("note 1" + "+1".repeat(58) + " if 1", "=", 3);
    bad("note 1" + "+1".repeat(58) + " if 1", "", 0);
  }

  static void eachLawHasItsOwnSixty() {
    Edge.says(5, "at most 60 VALUES and FACTS made of a SIGN, together");
    String sixty = "note 1" + "+1".repeat(59);
    RingingCoins x = new RingingCoins();
    due("one too many", Check.law(x, sixty + "+1"), Check.fault(sixty.length() + 1, 3));
    for (int i = 0; i < 6; i++) {
      due("LAW " + i, Check.law(x, sixty), i);
    }
  }

  static void bracketsAndWordsBetweenAreNotCounted() {
    Edge.says(5, "at most 60 VALUES and FACTS made of a SIGN, together");
    good("note 1+1+1 if " + "not [[1=1]] and ".repeat(18) + "1=1");
    bad("note 1+1+1+1 if " + "not [[1=1]] and ".repeat(18) + "1=", "1", 3);
  }

  static void ofOnePlaceTheLeast() {
    Edge.says(5, "Of one place the least");
    String sixty = "note 1" + "+1".repeat(59) + "+";
    bad(sixty, "100000", 1);
    bad(sixty, "x", 0);
    bad(sixty, "", 0);
    bad("note 1 ", "100000", 0);
    bad("", "100000", 0);
  }

  static void theFirstFaultAlongTheText() {
    Edge.says(5, "the first along the text");
    bad("note ", "100000 if x", 1);
    bad("note 1 if ", "x=100000", 0);
    bad("note 1 if 1=", "100000;", 1);
  }

  // ---- promise 11: what a COIN sounds by a LAW

  /** COIN 0 has fallen three times; it falls with COIN 2, and COIN 1 lies by. */
  private static void sum(String sum, int want) {
    RingingCoins x = Edge.minted("coin 100 40 7 2;coin 200 60 3 9;coin 9 50 1 1;counter 30 4", "note " + sum);
    x.fall(1);
    x.fall(1);
    x.fall(1);
    due("note " + sum, x.sounds(0, 0, 5, 0, 0), want);
  }

  static void wordsOfACoin() {
    Edge.says(11, "note, strength, worth, falls, cracks, coin (its number), down, damp (of the COUNTER)");
    sum("note", 100);
    sum("strength", 40);
    sum("worth", 7);
    sum("falls", 3);
    sum("cracks", 1);
    sum("coin", 0);
    sum("down", 30);
    sum("damp", 4);
  }

  static void manyFromOneToTwelve() {
    Edge.says(11, "many (how many fall together)");
    RingingCoins x = Edge.minted(Edge.twelve(1) + "counter 0 0", "note many");
    due("alone", x.sounds(0, 0, 1 << 11, 11, 0), 1);
    due("all twelve", x.sounds(0, 0, 4095, 11, 0), 12);
    due("also those that are not heard", Edge.minted("coin 0 1 0 1;coin 0 9 0 1;counter 0 1", "note many").sounds(0, 0, 3, 1, 0), 2);
  }

  static void loudestOfThoseThatFall() {
    Edge.says(11, "loudest (the greatest strength of these, as told in the MINT)");
    sum("loudest", 50);
    RingingCoins x = Edge.minted("coin 1 99 1 1;coin 2 1 1 1;counter 0 50", "note loudest;strength 3", "note loudest");
    due("alone", x.sounds(0, 0, 2, 1, 0), 1);
    due("its own", x.sounds(0, 0, 1, 0, 0), 99);
    due("with a louder one", x.sounds(0, 0, 3, 1, 0), 99);
    due("not what it sounds on the COUNTER", x.sounds(1, 0, 3, 1, 0), 99);
  }

  static void fallsAndCracksGoOn() {
    Edge.says(11, "falls, cracks");
    RingingCoins x = Edge.minted("coin 1 9 1 2;counter 0 0", "note falls*10+cracks");
    int[] due = {0, 10, 21, 31, 42};
    for (int i = 0; i < 5; i++) {
      due("behind " + i + " falls", x.sounds(0, 0, 1, 0, 0), due[i]);
      x.fall(1);
    }
  }

  static void divisionTowards0() {
    Edge.says(11, "/ is towards 0");
    sum("7/2", 3);
    sum("6/2", 3);
    sum("1/2", 0);
    // -2^63 / 99999^3 is -9223.6..
    sum(LEAST + "/99999/99999/99999", -9223);
  }

  static void theRestOfADivision() {
    Edge.says(11, "% its rest");
    sum("7%4", 3);
    sum("8%4", 0);
    sum("3%4", 3);
    // 2^63 is one above a multiple of 7.
    sum(LEAST + "%7", -1);
  }

  static void by0IsZero() {
    Edge.says(11, "both 0 by 0");
    sum("5/0", 0);
    sum("5%0", 0);
    sum("0/0", 0);
    sum("0%0", 0);
    sum("9+5/0*3", 9);
    sum("9+5%coin", 9);
    sum("note/coin", 0);
    sum(LEAST + "/0", 0);
  }

  static void allGoesRoundIn64Bits() {
    Edge.says(11, "all goes round in 64 bits");
    sum(LEAST, -9999);
    sum(LEAST + "-1", 9999);
    sum("0-" + LEAST, -9999);
    sum("0-1-" + LEAST, 9999);
    sum(LEAST + "+" + LEAST, 0);
    sum("5+65536*65536*65536*65536", 5);
    sum("65536*65536*65536*65536*99999", 0);
    // 2^32 and 2^31 do not go round.
    sum("65536*65536", 9999);
    sum("65536*32768", 9999);
    sum("65536*65536/65536/1024", 64);
  }

  static void onlyTheEndIsHeld() {
    Edge.says(11, "Notes are held to -9999 to 9999");
    sum("99999-99990", 9);
    sum("0-99999+99990", -9);
  }

  static void notesAreHeld() {
    Edge.says(11, "Notes are held to -9999 to 9999");
    sum("9998", 9998);
    sum("9999", 9999);
    sum("10000", 9999);
    sum("99999", 9999);
    sum("0-9998", -9998);
    sum("0-9999", -9999);
    sum("0-10000", -9999);
  }

  static void strengthsAreHeld() {
    Edge.says(11, "strengths to 0 to 9999");
    RingingCoins x = Edge.minted("coin 0 5 0 5;counter 0 0", "strength 1", "strength 0", "strength 0-1", "strength 9999",
        "strength 10000", "strength " + LEAST);
    int[] due = {1, 0, 0, 9999, 9999, 0};
    for (int law = 0; law < 6; law++) {
      due("strength by LAW " + law, x.sounds(law, 0, 1, 0, 1), due[law]);
    }
  }

  static void testsAtTheirEdges() {
    Edge.says(11, "whose TEST holds");
    String[] signs = {"<", "<=", "=", ">=", ">"};
    String[] holds = {"yes no no", "yes yes no", "no yes no", "no yes yes", "no no yes"};
    for (int i = 0; i < 5; i++) {
      for (int left = 1; left <= 3; left++) {
        RingingCoins x = Edge.minted("coin 5 5 5 5;counter 0 0", "note 77 if " + left + signs[i] + "2");
        due(left + signs[i] + "2", x.sounds(0, 0, 1, 0, 0), holds[i].split(" ")[left - 1].equals("yes") ? 77 : 5);
      }
    }
  }

  static void testsBelow0AndGoneRound() {
    Edge.says(11, "all goes round in 64 bits");
    RingingCoins x = Edge.minted("coin 5 5 5 5;counter 0 0", "note 77 if " + LEAST + "<0", "note 77 if " + LEAST + "-1>0",
        "note 77 if 0-1<0", "note 77 if 65536*65536*65536*65536=0");
    for (int law = 0; law < 4; law++) {
      due("LAW " + law, x.sounds(law, 0, 1, 0, 0), 77);
    }
  }

  /** Each TEST by a LAW of its own. */
  private static void test(String test, boolean holds) {
    RingingCoins x = Edge.minted("coin 5 5 5 5;counter 0 0", "note 77 if " + test);
    due("if " + test, x.sounds(0, 0, 1, 0, 0), holds ? 77 : 5);
  }

  static void notOfAFact() {
    Edge.says(11, "FACT: not FACT");
    test("not 1=1", false);
    test("not 1=2", true);
    test("not not 1=1", true);
    test("not not 1=2", false);
    test("not 1=1 or 1=2", false);
    test("not 1=2 and 1=1", true);
    for (String sign : "< <= = >= >".split(" ")) {
      test("not 1" + sign + "2", !sign.startsWith("<"));
      test("not [not 1" + sign + "2]", sign.startsWith("<"));
    }
  }

  static void factsWithinBrackets() {
    Edge.says(11, "[ TEST ] (these brackets are signs)");
    test("1=1 and [1=1]", true);
    test("1=1 and [1=2]", false);
    test("[1=1] and [1=1 and 1=1]", true);
    test("1=2 or [1=2 or 1=1]", true);
    test("1=2 or [1=2 or 1=2]", false);
    test("not [1=1 and 1=1]", false);
    test("not [1=1 or 1=2]", false);
    test("[[[1=1]]]", true);
  }

  static void threePartsAndThreeFacts() {
    Edge.says(11, "TEST: PART { or PART }. PART: FACT { and FACT }");
    for (int i = 0; i < 8; i++) {
      String a = "1=" + (i & 1) + " ";
      String b = " 1=" + (i >> 1 & 1) + " ";
      String c = " 1=" + (i >> 2);
      test(a + "or" + b + "or" + c, i != 0);
      test(a + "and" + b + "and" + c, i == 7);
      test(a + "or" + b + "and" + c, (i & 1) == 1 || i >= 6);
      test(a + "and" + b + "or" + c, (i & 3) == 3 || i >= 4);
    }
  }

  static void andOfEachSign() {
    Edge.says(11, "SIGN one of < <= = >= >");
    for (String sign : "< <= = >= >".split(" ")) {
      for (String other : "< <= = >= >".split(" ")) {
        boolean less = sign.startsWith("<");
        boolean same = other.contains("=");
        boolean more = other.startsWith(">");
        test("1" + sign + "2 and 2" + other + "2", less && same);
        test("1" + sign + "2 or 2" + other + "2", less || same);
        test("3" + other + "2 and 1" + sign + "2", less && more);
        test("not 3" + other + "2 and 1" + sign + "2", less && !more);
      }
    }
  }

  static void andBindsMoreThanOr() {
    Edge.says(11, "TEST: PART { or PART }. PART: FACT { and FACT }");
    RingingCoins x = Edge.minted("coin 5 5 5 5;counter 0 0", "note 77 if 1=1 or 1=1 and 1=2", "note 77 if 1=2 and 1=1 or 1=1",
        "note 77 if [1=1 or 1=1] and 1=2", "note 77 if not 1=2 and 1=2", "note 77 if not [1=2 and 1=2]", "note 77 if not not 1=1");
    int[] due = {77, 77, 5, 5, 77, 77};
    for (int law = 0; law < 6; law++) {
      due("LAW " + law, x.sounds(law, 0, 1, 0, 0), due[law]);
    }
  }

  static void theFirstClauseThatHolds() {
    Edge.says(11, "the SUM of the first CLAUSE of that word without a TEST, or whose TEST holds");
    RingingCoins x = Edge.minted("coin 5 5 5 5;coin 6 6 6 6;coin 7 7 7 7;counter 0 0",
        "strength 90 if coin=0;note 1 if coin=0;note 2 if coin<2;note 3;note 4;strength 80 if coin=1;note 5 if coin=2");
    due("its TEST holds", x.sounds(0, 0, 7, 0, 0), 1);
    due("the first does not hold", x.sounds(0, 0, 7, 1, 0), 2);
    due("without a TEST", x.sounds(0, 0, 7, 2, 0), 3);
    due("of the other word", x.sounds(0, 0, 7, 0, 1), 90);
    due("of the other word, behind others", x.sounds(0, 0, 7, 1, 1), 80);
  }

  static void withoutAClauseThatHolds() {
    Edge.says(11, "without one: note less down, strength less damp");
    RingingCoins x = Edge.minted("coin 5 6 5 5;counter 7 2;counter 1200 99", "note 1 if 1=2;strength 1 if 1=2", "note 3", "strength 3");
    due("note", x.sounds(0, 0, 1, 0, 0), -2);
    due("strength", x.sounds(0, 0, 1, 0, 1), 4);
    due("strength by a LAW of notes alone", x.sounds(1, 0, 1, 0, 1), 4);
    due("note by a LAW of strengths alone", x.sounds(2, 0, 1, 0, 0), -2);
    due("note far down", x.sounds(0, 1, 1, 0, 0), -1195);
    due("strength far down is held", x.sounds(0, 1, 1, 0, 1), 0);
  }

  // ---- promise 11: wrong inputs

  private static RingingCoins two() {
    return Edge.minted("coin 5 6 7 8;coin 9 10 11 12;counter 0 0;counter 1 1", "note note", "note 1");
  }

  static void soundsOfACoinNotOfTheSet() {
    Edge.says(11, "-20000 without these (it is not of the set)");
    RingingCoins x = two();
    due("COIN 0 of COIN 1", x.sounds(0, 0, 2, 0, 0), NO_SOUND);
    due("COIN 1 of COIN 0", x.sounds(0, 0, 1, 1, 1), NO_SOUND);
    due("COIN 0 of none", x.sounds(0, 0, 0, 0, 0), NO_SOUND);
    due("COIN 1 of both", x.sounds(0, 0, 3, 1, 0), 9);
  }

  static void soundsWithoutACoin() {
    Edge.says(11, "-20000 without these");
    RingingCoins x = two();
    for (int coin : new int[] {-1, 2, 12, 31, 32, 33, Integer.MIN_VALUE, Integer.MAX_VALUE}) {
      due("COIN " + coin, x.sounds(0, 0, 3, coin, 0), NO_SOUND);
    }
  }

  static void soundsWithoutALaw() {
    Edge.says(11, "-20000 without these");
    RingingCoins x = two();
    for (int law : new int[] {-1, 2, 6, Integer.MIN_VALUE, Integer.MAX_VALUE}) {
      due("LAW " + law, x.sounds(law, 0, 3, 0, 0), NO_SOUND);
    }
    due("LAW 1", x.sounds(1, 0, 3, 0, 0), 1);
  }

  static void soundsWithoutACounter() {
    Edge.says(11, "-20000 without these");
    RingingCoins x = two();
    for (int counter : new int[] {-1, 2, 4, Integer.MIN_VALUE, Integer.MAX_VALUE}) {
      due("COUNTER " + counter, x.sounds(0, counter, 3, 0, 0), NO_SOUND);
    }
    due("COUNTER 1", x.sounds(0, 1, 3, 0, 1), 5);
  }

  static void soundsWithoutASet() {
    Edge.says(11, "-20000 without these");
    RingingCoins x = two();
    for (int set : new int[] {-1, 4, 5, 4096, Integer.MIN_VALUE, Integer.MAX_VALUE}) {
      due("set " + set, x.sounds(0, 0, set, 0, 0), NO_SOUND);
    }
  }

  static void soundsWithoutAWhat() {
    Edge.says(11, "what 0: note, 1: strength");
    RingingCoins x = two();
    due("what -1", x.sounds(0, 0, 3, 0, -1), NO_SOUND);
    due("what 2", x.sounds(0, 0, 3, 0, 2), NO_SOUND);
    due("what 0", x.sounds(0, 0, 3, 0, 0), 5);
    due("what 1", x.sounds(0, 0, 3, 0, 1), 6);
  }

  static void soundsWithoutAMint() {
    Edge.says(11, "-20000 without these");
    RingingCoins x = new RingingCoins();
    due("LAW", Check.law(x, "note 1"), 0);
    due("sounds", x.sounds(0, 0, 1, 0, 0), NO_SOUND);
  }
}
