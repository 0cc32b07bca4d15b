/** Edges of CHORDS, of what is HEARD, and of what FITS and is MISTAKEN: promises 12 to 17. */
final class ChordEdges {
  private static final int NONE = Edge.NONE;
  private static final int CANNOT = Edge.CANNOT;
  private static final int NO_SOUND = Edge.NO_SOUND;
  private static final int[] NO_LAWS = {-1, 2, 6, Integer.MIN_VALUE, Integer.MAX_VALUE};
  private static final int[] NO_COUNTERS = {-1, 2, 4, Integer.MIN_VALUE, Integer.MAX_VALUE};
  private static final int[] NO_SETS = {-1, 8, 9, 4096, Integer.MIN_VALUE, Integer.MAX_VALUE};

  private ChordEdges() {
  }

  private static void due(String call, long got, long want) {
    Edge.due(call, got, want);
  }

  /** On COUNTER 1 COIN 0 is not heard. */
  private static RingingCoins three() {
    return Edge.minted("coin 100 5 1 1;coin 200 20 2 1;coin 300 30 4 1;counter 0 0;counter 50 5", "note note", "note 7");
  }

  private static RingingCoins lawWithoutMint() {
    RingingCoins x = new RingingCoins();
    due("a LAW", Check.law(x, "note 1"), 0);
    return x;
  }

  // ---- promises 12 and 13: CHORDS

  static void strengthAbove0() {
    Edge.says(12, "of those whose strength is above 0");
    RingingCoins x = Edge.minted("coin 10 1 0 1;coin 20 2 0 1;counter 0 0;counter 0 1;counter 0 2", "note note");
    due("1 and 2", x.tones(0, 0, 3), 2);
    due("0 and 1", x.tones(0, 1, 3), 1);
    due("that of 1", x.tone(0, 1, 3, 0, 0), 20);
    due("0 and 0", x.tones(0, 2, 3), 0);
    due("strength 0 is not heard with deaf 0", Edge.minted("coin 10 1 0 1;counter 0 1;deaf 0", "note 1").tones(0, 0, 1), 0);
  }

  static void notBelowDeaf() {
    Edge.says(12, "and not below deaf");
    RingingCoins x = Edge.minted("coin 10 4 0 1;coin 20 5 0 1;coin 30 6 0 1;counter 0 0;deaf 5", "note note");
    due("all", x.tones(0, 0, 7), 2);
    due("below", x.tones(0, 0, 1), 0);
    due("at deaf", x.tones(0, 0, 2), 1);
    due("above", x.tones(0, 0, 4), 1);
    due("at 99", Edge.minted("coin 10 99 0 1;counter 0 0;counter 0 1;deaf 99", "note 1").tones(0, 0, 1), 1);
    due("below 99", Edge.minted("coin 10 99 0 1;counter 0 0;counter 0 1;deaf 99", "note 1").tones(0, 1, 1), 0);
  }

  static void deafIsNotAskedOfStrengthsTogether() {
    Edge.says(12, "and not below deaf");
    RingingCoins x = Edge.minted("coin 10 4 0 1;coin 10 4 0 1;counter 0 0;deaf 5", "note note");
    due("two of 4", x.tones(0, 0, 3), 0);
  }

  static void lessThanBlurAbove() {
    Edge.says(12, "if its note is less than blur above that with which the TONE began");
    RingingCoins x = Edge.minted("coin 100 5 0 1;coin 119 6 0 1;coin 120 7 0 1;counter 0 0;blur 20", "note note");
    due("19 above", x.tones(0, 0, 3), 1);
    due("20 above", x.tones(0, 0, 5), 2);
    due("1 above", x.tones(0, 0, 6), 1);
  }

  static void fromWhereTheToneBegan() {
    Edge.says(12, "above that with which the TONE began");
    RingingCoins x = Edge.minted("coin 100 1 0 1;coin 115 2 0 1;coin 130 4 0 1;coin 145 8 0 1;counter 0 0;blur 20", "note note");
    due("TONES", x.tones(0, 0, 15), 2);
    due("the first", x.tone(0, 0, 15, 0, 0), 100);
    due("its strength", x.tone(0, 0, 15, 0, 1), 3);
    due("the second", x.tone(0, 0, 15, 1, 0), 130);
    due("its strength", x.tone(0, 0, 15, 1, 1), 12);
  }

  static void theSameNoteWithoutBlur() {
    Edge.says(12, "or the same, is of this TONE");
    RingingCoins x = Edge.minted("coin 100 1 0 1;coin 100 2 0 1;coin 101 4 0 1;counter 0 0", "note note");
    due("TONES", x.tones(0, 0, 7), 2);
    due("strength", x.tone(0, 0, 7, 0, 1), 3);
    RingingCoins y = Edge.minted("coin 100 1 0 1;coin 100 2 0 1;coin 101 4 0 1;counter 0 0;blur 1", "note note");
    due("TONES with blur 1", y.tones(0, 0, 7), 2);
    RingingCoins z = Edge.minted("coin 100 1 0 1;coin 100 2 0 1;coin 101 4 0 1;counter 0 0;blur 2", "note note");
    due("TONES with blur 2", z.tones(0, 0, 7), 1);
  }

  static void notesFromBelow() {
    Edge.says(12, "by their notes from below");
    RingingCoins x = Edge.minted("coin 300 1 0 1;coin 100 2 0 1;coin 200 4 0 1;counter 0 0", "note note", "note 0-note");
    int[] up = {100, 200, 300};
    int[] down = {-300, -200, -100};
    for (int k = 0; k < 3; k++) {
      due("TONE " + k, x.tone(0, 0, 7, k, 0), up[k]);
      due("TONE " + k + " below 0", x.tone(1, 0, 7, k, 0), down[k]);
    }
  }

  static void theGreatestBlurAndTheFurthestNotes() {
    Edge.says(12, "less than blur above");
    RingingCoins x = Edge.minted("coin 0 1 0 1;coin 998 1 0 1;coin 999 1 0 1;counter 0 0;blur 999", "note note",
        "note 0-9999 if coin=0;note 9999");
    due("998 above", x.tones(0, 0, 3), 1);
    due("999 above", x.tones(0, 0, 5), 2);
    due("-9999 and 9999", x.tones(1, 0, 7), 2);
  }

  static void strengthsTogetherAreNotHeld() {
    Edge.says(12, "A TONE has the note with which it began, and the strengths of all of it together");
    RingingCoins x = Edge.minted(Edge.twelve(1) + "counter 0 0", "note 1;strength 99999");
    due("twelve of 9999", x.tone(0, 0, 4095, 0, 1), 119988);
  }

  static void ledByTheLeastCoin() {
    Edge.says(12, "LED: for the k-th TONE of a CHORD the least COIN that sounds in it");
    RingingCoins x = Edge.minted("coin 119 5 0 1;coin 100 5 0 1;coin 110 1 0 1;coin 400 5 0 1;counter 0 0;blur 20", "note note");
    due("not the one with which it began", x.tone(0, 0, 15, 0, 2), 0);
    due("the second TONE", x.tone(0, 0, 15, 1, 2), 3);
    due("without COIN 0", x.tone(0, 0, 6, 0, 2), 1);
    RingingCoins y = Edge.minted("coin 100 1 0 1;coin 100 5 0 1;counter 0 1", "note note");
    due("COIN 0 is not heard", y.tone(0, 0, 3, 0, 2), 1);
  }

  static void toneBeyondTheLast() {
    Edge.says(12, "or if it has not so many");
    RingingCoins x = three();
    due("TONE 2", x.tone(0, 0, 7, 2, 0), 300);
    for (int k : new int[] {3, 12, -1, Integer.MIN_VALUE, Integer.MAX_VALUE}) {
      for (int what = 0; what < 3; what++) {
        due("TONE " + k + ", what " + what, x.tone(0, 0, 7, k, what), NO_SOUND);
      }
    }
    due("TONE 1 of one, behind more", x.tone(0, 0, 1, 1, 0), NO_SOUND);
    due("TONE 0 of the empty set", x.tone(0, 0, 0, 0, 0), NO_SOUND);
  }

  static void toneOfWhatIsNotHeard() {
    Edge.says(12, "or if it has not so many");
    RingingCoins x = Edge.minted("coin 100 5 1 1;counter 0 5", "note note");
    due("tones", x.tones(0, 0, 1), 0);
    due("TONE 0", x.tone(0, 0, 1, 0, 0), NO_SOUND);
  }

  static void twelveTones() {
    Edge.says(12, "its k-th TONE from below (from 0 on)");
    RingingCoins x = Edge.minted(Edge.twelve(1) + "counter 0 0", "note note");
    due("TONE 0", x.tone(0, 0, 4095, 0, 0), 100);
    due("TONE 11", x.tone(0, 0, 4095, 11, 0), 1200);
    due("TONE 11 is LED", x.tone(0, 0, 4095, 11, 2), 11);
    due("TONE 12", x.tone(0, 0, 4095, 12, 0), NO_SOUND);
  }

  static void toneWithoutAWhat() {
    Edge.says(12, "what 0: note, 1: strength, 2: LED");
    RingingCoins x = three();
    int[] due = {300, 30, 2};
    for (int what = 0; what < 3; what++) {
      due("what " + what, x.tone(0, 0, 7, 2, what), due[what]);
    }
    due("what 3", x.tone(0, 0, 7, 2, 3), NO_SOUND);
    due("what -1", x.tone(0, 0, 7, 2, -1), NO_SOUND);
  }

  static void toneWithoutLawCounterOrSet() {
    Edge.says(12, "-20000 without these");
    RingingCoins x = three();
    for (int law : NO_LAWS) {
      due("LAW " + law, x.tone(law, 0, 7, 0, 0), NO_SOUND);
    }
    for (int counter : NO_COUNTERS) {
      due("COUNTER " + counter, x.tone(0, counter, 7, 0, 0), NO_SOUND);
    }
    for (int set : NO_SETS) {
      due("set " + set, x.tone(0, 0, set, 0, 0), NO_SOUND);
    }
    due("no MINT", lawWithoutMint().tone(0, 0, 0, 0, 0), NO_SOUND);
  }

  static void tonesOfNoneAndOfTwelve() {
    Edge.says(13, "How many TONES a CHORD has");
    RingingCoins x = Edge.minted(Edge.twelve(1) + "counter 0 0", "note note", "note 1", "strength 0");
    due("the empty set", x.tones(0, 0, 0), 0);
    due("twelve", x.tones(0, 0, 4095), 12);
    due("twelve in one", x.tones(1, 0, 4095), 1);
    due("twelve that are not heard", x.tones(2, 0, 4095), 0);
    due("a MINT without COINS", Edge.minted("counter 0 0", "note 1").tones(0, 0, 0), 0);
  }

  static void tonesWithoutLawCounterOrSet() {
    Edge.says(13, "NONE without these");
    RingingCoins x = three();
    for (int law : NO_LAWS) {
      due("LAW " + law, x.tones(law, 0, 0), NONE);
    }
    for (int counter : NO_COUNTERS) {
      due("COUNTER " + counter, x.tones(0, counter, 0), NONE);
    }
    for (int set : NO_SETS) {
      due("set " + set, x.tones(0, 0, set), NONE);
    }
    due("no MINT", lawWithoutMint().tones(0, 0, 0), NONE);
  }

  static void tonesGoWithFallsAndNotes() {
    Edge.says(13, "How many TONES a CHORD has");
    RingingCoins x = Edge.minted("coin 100 5 1 1;coin 200 5 1 1;counter 0 0", "strength strength-cracks*3");
    due("before", x.tones(0, 0, 3), 2);
    x.fall(1);
    due("cracked once", x.tones(0, 0, 3), 2);
    x.fall(1);
    due("cracked twice", x.tones(0, 0, 3), 1);
    x.retune(0, 200);
    due("retuned", x.tone(0, 0, 3, 0, 2), 1);
  }

  // ---- promise 14

  static void alikeWithoutAnyTone() {
    Edge.says(14, "both without any, too");
    RingingCoins x = Edge.minted("coin 100 5 1 1;coin 200 5 1 1;coin 300 9 1 1;counter 0 5", "note note");
    due("two that are not heard", x.alike(0, 0, 1, 2), 1);
    due("one that is not heard and none", x.alike(0, 0, 1, 0), 1);
    due("none and none", x.alike(0, 0, 0, 0), 1);
    due("one that is heard and none", x.alike(0, 0, 4, 0), 0);
    due("with one that is not heard", x.alike(0, 0, 4, 7), 1);
  }

  static void strengthsAreNotAsked() {
    Edge.says(14, "their strengths are not asked");
    RingingCoins x = Edge.minted("coin 100 5 1 1;coin 100 90 1 1;counter 0 0", "note note");
    due("unlike strengths", x.alike(0, 0, 1, 2), 1);
    due("one and both", x.alike(0, 0, 1, 3), 1);
  }

  static void notesOfTonesAreAsked() {
    Edge.says(14, "CHORDS are ALIKE if they have the same notes of TONES");
    RingingCoins x = Edge.minted("coin 100 5 1 1;coin 101 5 1 1;coin 500 5 1 1;counter 0 0;blur 9", "note note");
    due("one apart", x.alike(0, 0, 1, 2), 0);
    due("the one above is of the TONE", x.alike(0, 0, 1, 3), 1);
    due("the one below begins the TONE", x.alike(0, 0, 2, 3), 0);
    due("one more TONE behind", x.alike(0, 0, 1, 5), 0);
    due("one more TONE before", x.alike(0, 0, 5, 4), 0);
    due("the same set", x.alike(0, 0, 5, 5), 1);
  }

  static void alikeWithoutLawCounterOrSet() {
    Edge.says(14, "NONE without these");
    RingingCoins x = three();
    for (int law : NO_LAWS) {
      due("LAW " + law, x.alike(law, 0, 0, 0), NONE);
    }
    for (int counter : NO_COUNTERS) {
      due("COUNTER " + counter, x.alike(0, counter, 0, 0), NONE);
    }
    for (int set : NO_SETS) {
      due("one " + set, x.alike(0, 0, set, 0), NONE);
      due("other " + set, x.alike(0, 0, 0, set), NONE);
    }
    due("no MINT", lawWithoutMint().alike(0, 0, 0, 0), NONE);
  }

  // ---- promise 15

  static void hearTheLeastAndTheGreatest() {
    Edge.says(15, "A note is HEARD (-9999 to 9999");
    RingingCoins x = new RingingCoins();
    due("hear(-9999)", x.hear(-9999), 1);
    due("hear(9999)", x.hear(9999), 2);
    due("hear(0)", x.hear(0), 3);
  }

  static void hearNothing() {
    Edge.says(15, "-20000: nothing is HEARD then");
    RingingCoins x = new RingingCoins();
    due("before", x.hear(-20000), 0);
    x.hear(5);
    x.hear(6);
    due("behind", x.hear(-20000), 0);
    due("HEARD", x.count(6), 0);
    due("hear(5) again", x.hear(5), 1);
  }

  static void hearIsRefusedOutside() {
    Edge.says(15, "-2, and nothing happens, for others");
    RingingCoins x = new RingingCoins();
    x.hear(5);
    for (int note : new int[] {-10000, 10000, -19999, -20001, 20000, Integer.MIN_VALUE, Integer.MAX_VALUE}) {
      due("hear(" + note + ")", x.hear(note), CANNOT);
    }
    due("HEARD", x.count(6), 1);
    due("hear(5)", x.hear(5), CANNOT);
  }

  static void hearIsRefusedTwice() {
    Edge.says(15, "one that is HEARD already");
    RingingCoins x = new RingingCoins();
    int[] notes = {30, 10, 20};
    for (int note : notes) {
      x.hear(note);
    }
    for (int note : notes) {
      due("hear(" + note + ") again", x.hear(note), CANNOT);
    }
    due("HEARD", x.count(6), 3);
    due("one beside", x.hear(21), 4);
  }

  static void twelveNotesAreHeard() {
    Edge.says(15, "HEARD: notes told one by one (12 at most)");
    RingingCoins x = Edge.minted(Edge.twelve(1) + "counter 0 0", "note note");
    for (int i = 0; i < 12; i++) {
      due("hear " + i, x.hear(100 + 500 * i % 1200), i + 1);
    }
    due("all twelve FIT", x.fits(0, 0, 4095, 1), 4095);
  }

  static void hearIsRefusedByTwelve() {
    Edge.says(15, "or if there are 12");
    RingingCoins x = new RingingCoins();
    for (int i = 1; i <= 12; i++) {
      due("hear " + i, x.hear(i * 7 % 13), i);
    }
    due("a thirteenth", x.hear(100), CANNOT);
    due("a thirteenth below", x.hear(-100), CANNOT);
    due("HEARD", x.count(6), 12);
    due("nothing is HEARD then", x.hear(-20000), 0);
    due("the thirteenth now", x.hear(100), 1);
  }

  static void aRefusedNoteIsNotHeard() {
    Edge.says(15, "-2, and nothing happens");
    RingingCoins x = three();
    x.hear(100);
    x.hear(100);
    x.hear(10000);
    due("what FITS", x.fits(0, 0, 7, 1), 1);
  }

  // ---- promise 16

  static void notesHeardAreAChord() {
    Edge.says(16, "as a CHORD of these notes (each one once, from below)");
    RingingCoins x = Edge.minted(Edge.twelve(1) + "counter 0 0", "note note");
    for (int i = 12; i >= 1; i--) {
      x.hear(100 * i);
    }
    due("twelve from above: how many", x.fits(0, 0, 4095, 0), 1);
    due("the first", x.fits(0, 0, 4095, 1), 4095);
    due("eleven of them", x.fits(0, 0, 2047, 0), 0);
  }

  static void theEmptySetFits() {
    Edge.says(16, "of a told set, the empty one too");
    RingingCoins x = three();
    due("how many", x.fits(0, 0, 7, 0), 1);
    for (int what = 1; what <= 4; what++) {
      due("what " + what, x.fits(0, 0, 7, what), 0);
    }
    due("of the empty set", x.fits(0, 0, 0, 0), 1);
    due("of the empty set: the first", x.fits(0, 0, 0, 1), 0);
    x.hear(100);
    due("of the empty set with a note HEARD", x.fits(0, 0, 0, 0), 0);
    due("of the empty set with a note HEARD: the first", x.fits(0, 0, 0, 1), CANNOT);
  }

  static void whatIsNotHeardFitsWithTheEmptySet() {
    Edge.says(16, "whose CHORD is ALIKE to what is HEARD");
    RingingCoins x = Edge.minted("coin 100 5 1 1;coin 200 20 2 1;coin 300 5 4 1;counter 0 5", "note note");
    due("how many", x.fits(0, 0, 7, 0), 4);
    due("the greatest WORTH", x.fits(0, 0, 7, 3), 5);
    x.hear(200);
    due("how many with 200", x.fits(0, 0, 7, 0), 4);
    due("the least WORTH", x.fits(0, 0, 7, 2), 2);
    due("the greatest WORTH", x.fits(0, 0, 7, 3), 7);
  }

  static void onlySetsOfTheToldOneFit() {
    Edge.says(16, "sets of COINS (of a told set");
    RingingCoins x = Edge.minted("coin 100 5 1 1;coin 100 5 2 1;coin 100 5 4 1;counter 0 0", "note note");
    x.hear(100);
    due("of all", x.fits(0, 0, 7, 0), 7);
    due("of two", x.fits(0, 0, 6, 0), 3);
    due("of two: the first", x.fits(0, 0, 6, 1), 2);
    due("of two: the least", x.fits(0, 0, 6, 2), 2);
    due("of two: the greatest", x.fits(0, 0, 6, 3), 6);
  }

  static void theFirstIsTheLeastAsBits() {
    Edge.says(16, "1: the first (least as bits)");
    RingingCoins x = Edge.minted("coin 100 5 9 1;coin 100 5 8 1;coin 100 5 7 1;counter 0 0", "note note");
    x.hear(100);
    due("the first", x.fits(0, 0, 7, 1), 1);
    due("the least WORTH is another one's", x.fits(0, 0, 7, 2), 7);
  }

  static void theFewestCoinsOfSeveralTheLeast() {
    Edge.says(16, "4: the WORTH of the set of the fewest COINS (of several the least as bits)");
    RingingCoins x = Edge.minted("coin 100 5 1 1;coin 100 5 2 1;coin 100 5 9 1;coin 100 5 8 1;counter 0 0",
        "strength 0 if many=1 and coin<2", "note note");
    x.hear(100);
    due("the first has two COINS", x.fits(0, 0, 15, 1), 3);
    due("the fewest is a later one, of two the first", x.fits(0, 0, 15, 4), 9);
    due("the first", x.fits(1, 0, 15, 4), 1);
  }

  static void noneFits() {
    Edge.says(16, "-2 for 1 to 4: there is none");
    RingingCoins x = three();
    x.hear(101);
    due("how many", x.fits(0, 0, 7, 0), 0);
    for (int what = 1; what <= 4; what++) {
      due("what " + what, x.fits(0, 0, 7, what), CANNOT);
    }
  }

  static void aPartOfWhatIsHeardDoesNotFit() {
    Edge.says(16, "whose CHORD is ALIKE to what is HEARD");
    RingingCoins x = three();
    x.hear(100);
    x.hear(200);
    due("both", x.fits(0, 0, 7, 0), 1);
    x.hear(250);
    due("and one that none sounds", x.fits(0, 0, 7, 0), 0);
  }

  static void fitsWithoutAWhat() {
    Edge.says(16, "NONE without these");
    RingingCoins x = three();
    due("what 5", x.fits(0, 0, 7, 5), NONE);
    due("what -1", x.fits(0, 0, 7, -1), NONE);
    x.hear(101);
    due("what 5, and none FITS", x.fits(0, 0, 7, 5), NONE);
  }

  static void fitsWithoutLawCounterOrSet() {
    Edge.says(16, "NONE without these");
    RingingCoins x = three();
    for (int law : NO_LAWS) {
      due("LAW " + law, x.fits(law, 0, 7, 0), NONE);
    }
    for (int counter : NO_COUNTERS) {
      due("COUNTER " + counter, x.fits(0, counter, 7, 0), NONE);
    }
    for (int set : NO_SETS) {
      due("set " + set, x.fits(0, 0, set, 0), NONE);
    }
    due("no MINT", lawWithoutMint().fits(0, 0, 0, 0), NONE);
  }

  // ---- promise 17

  static void mistakenOfNoCoins() {
    Edge.says(17, "of at most k COINS each");
    RingingCoins x = three();
    due("k 0: the one", x.mistaken(1, 0, 7, 0, 0), CANNOT);
    due("k 0: the other", x.mistaken(1, 0, 7, 0, 1), CANNOT);
    due("k 0: CHORDS", x.mistaken(1, 0, 7, 0, 2), 1);
    due("of the empty set: CHORDS", x.mistaken(1, 0, 0, 12, 2), 1);
    due("of the empty set: the one", x.mistaken(1, 0, 0, 12, 0), CANNOT);
  }

  static void mistakenOfJustKCoins() {
    Edge.says(17, "of at most k COINS each");
    // Only both together sound like the third one.
    RingingCoins x = Edge.minted("coin 100 5 1 1;coin 200 5 2 1;coin 300 5 9 1;counter 0 0", "note 300 if many=2 and coin<2");
    due("k 1", x.mistaken(0, 0, 7, 1, 0), CANNOT);
    due("k 2: the one", x.mistaken(0, 0, 7, 2, 0), 3);
    due("k 2: the other", x.mistaken(0, 0, 7, 2, 1), 4);
  }

  static void mistakenOfAllTwelve() {
    Edge.says(17, "MISTAKEN (k 0 to 12)");
    // Only all twelve sound like none.
    RingingCoins x = Edge.minted(Edge.twelve(1) + "counter 0 0", "strength 0 if many=12");
    due("k 11", x.mistaken(0, 0, 4095, 11, 0), CANNOT);
    due("k 11: CHORDS", x.mistaken(0, 0, 4095, 11, 2), 4095);
    due("k 12: the one", x.mistaken(0, 0, 4095, 12, 0), 0);
    due("k 12: the other", x.mistaken(0, 0, 4095, 12, 1), 4095);
    due("k 12: CHORDS", x.mistaken(0, 0, 4095, 12, 2), 4095);
  }

  static void mistakenWithoutAK() {
    Edge.says(17, "MISTAKEN (k 0 to 12)");
    RingingCoins x = three();
    for (int k : new int[] {-1, 13, Integer.MIN_VALUE, Integer.MAX_VALUE}) {
      for (int what = 0; what < 3; what++) {
        due("k " + k + ", what " + what, x.mistaken(0, 0, 7, k, what), NONE);
      }
    }
    due("k 12", x.mistaken(0, 0, 7, 12, 2), 8);
  }

  static void noneAreMistaken() {
    Edge.says(17, "(-2: there are none)");
    RingingCoins x = three();
    due("the one", x.mistaken(0, 0, 7, 12, 0), CANNOT);
    due("the other", x.mistaken(0, 0, 7, 12, 1), CANNOT);
    due("CHORDS", x.mistaken(0, 0, 7, 12, 2), 8);
  }

  static void oneWorthIsNotMistaken() {
    Edge.says(17, "with ALIKE CHORDS and unlike WORTH together");
    RingingCoins x = Edge.minted("coin 100 5 3 1;coin 100 5 3 1;coin 200 1 0 1;counter 0 1", "note note");
    due("of one WORTH", x.mistaken(0, 0, 3, 1, 0), CANNOT);
    due("not heard and WORTH nothing", x.mistaken(0, 0, 5, 12, 0), CANNOT);
    due("both and one of them", x.mistaken(0, 0, 3, 2, 0), 1);
    due("both and one of them: the other", x.mistaken(0, 0, 3, 2, 1), 3);
  }

  static void theFirstTwo() {
    Edge.says(17, "the first two (the lesser as bits, then the other one)");
    // 2 and 4 are found before 1 and 8, and 1 is the lesser; 1 and 16 come later.
    RingingCoins x = Edge.minted("coin 5 5 1 1;coin 9 5 2 1;coin 9 5 4 1;coin 5 5 8 1;coin 5 5 9 1;counter 0 0", "note note");
    due("the one", x.mistaken(0, 0, 31, 1, 0), 1);
    due("the other", x.mistaken(0, 0, 31, 1, 1), 8);
    due("without COIN 3: the other", x.mistaken(0, 0, 23, 1, 1), 16);
    due("without COIN 0: the one", x.mistaken(0, 0, 30, 1, 0), 2);
  }

  static void chordsNotAlike() {
    Edge.says(17, "CHORDS of such sets: how many that are not ALIKE");
    RingingCoins x = three();
    due("all in one note", x.mistaken(1, 0, 7, 12, 2), 2);
    due("of one at most", x.mistaken(0, 0, 7, 1, 2), 4);
    due("of two at most", x.mistaken(0, 0, 7, 2, 2), 7);
    due("of two COINS", x.mistaken(0, 0, 6, 12, 2), 4);
  }

  static void chordsOfTwelveNotAlike() {
    Edge.says(17, "CHORDS of such sets: how many that are not ALIKE");
    RingingCoins x = Edge.minted(Edge.twelve(1) + "counter 0 0", "note note", "note note-100 if coin=11", "note 100*coin/300",
        "note 5*coin*coin*coin%97");
    due("all unlike", x.mistaken(0, 0, 4095, 12, 2), 4096);
    due("two in one note", x.mistaken(1, 0, 4095, 12, 2), 2048);
    due("each three in one note", x.mistaken(2, 0, 4095, 12, 2), 16);
    due("the first two: the one", x.mistaken(1, 0, 4095, 12, 0), 1024);
    due("the first two: the other", x.mistaken(1, 0, 4095, 12, 1), 3072);
    due("as a slow way counts them", x.mistaken(3, 0, 4095, 12, 2), 1 << notesOfCubes());
  }

  /** Without blur, and where a note does not hang on the others, each note is there or not. */
  private static int notesOfCubes() {
    java.util.Set<Integer> notes = new java.util.HashSet<>();
    for (int coin = 0; coin < 12; coin++) {
      notes.add(5 * coin * coin * coin % 97);
    }
    return notes.size();
  }

  static void mistakenWithoutAWhat() {
    Edge.says(17, "NONE without these");
    RingingCoins x = three();
    due("what 3", x.mistaken(0, 0, 7, 1, 3), NONE);
    due("what -1", x.mistaken(0, 0, 7, 1, -1), NONE);
  }

  static void mistakenWithoutLawCounterOrSet() {
    Edge.says(17, "NONE without these");
    RingingCoins x = three();
    for (int law : NO_LAWS) {
      due("LAW " + law, x.mistaken(law, 0, 7, 1, 2), NONE);
    }
    for (int counter : NO_COUNTERS) {
      due("COUNTER " + counter, x.mistaken(0, counter, 7, 1, 2), NONE);
    }
    for (int set : NO_SETS) {
      due("set " + set, x.mistaken(0, 0, set, 1, 2), NONE);
    }
    due("no MINT", lawWithoutMint().mistaken(0, 0, 0, 0, 2), NONE);
  }
}
