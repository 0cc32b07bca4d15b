/** Money that rings. The document's numbered promises say what each call answers. */
public final class RingingCoins {
  public static final int NONE = -1;

  private static final int CANNOT = -2;
  private static final int NO_SOUND = -20000;
  private static final int MOST_BYTES = 400;
  private static final int FED_BYTES = 20;
  private static final int MOST_COINS = 12;
  private static final int MOST_COUNTERS = 4;
  private static final int SETS = 1 << MOST_COINS;
  private static final int PEOPLE = 6;
  private static final int MOST_FALLS = 9999;
  private static final int MOST_NOTE = 2400;
  private static final int FURTHEST_NOTE = 9999;
  private static final int GREATEST_STRENGTH = 9999;
  private static final int MOST_LAWS = 6;
  private static final int MOST_HEARD = 12;
  private static final int MOST_PAYMENTS = 10;
  private static final int MOST_PRICE = 9999;
  private static final int MOST_PRICES = 999;
  private static final int MOST_LAND_PRICE = 200;
  private static final int MOST_LAND_SET = 4;
  private static final int MOST_FORGED = 200;
  private static final int LONGEST_YEAR = 500;
  private static final int IMAGES = 4;

  private final byte[] tape = new byte[MOST_BYTES];
  private int tapeBytes;
  private final Text text = new Text();
  private final MintReader mintReader = new MintReader(text);
  private final LawReader lawReader = new LawReader(text);
  private final Law[] laws = new Law[MOST_LAWS];
  private int lawCount;
  private final State now = new State();
  private final State[] images = new State[IMAGES];
  private final Mint yearMint = new Mint();
  private final Chords chords;
  private final Till till;
  private final Judge judge;

  public RingingCoins() {
    for (int i = 0; i < MOST_LAWS; i++) {
      laws[i] = new Law();
    }
    for (int i = 0; i < IMAGES; i++) {
      images[i] = new State();
    }
    chords = new Chords(now.mint, laws[0]);
    till = new Till(now.mint, chords);
    judge = new Judge(now, chords);
  }

  public int feed(int a, int b, int c, int d, int e) {
    if (tapeBytes + FED_BYTES > MOST_BYTES) {
      return NONE;
    }
    appendBytes(a);
    appendBytes(b);
    appendBytes(c);
    appendBytes(d);
    appendBytes(e);
    return tapeBytes;
  }

  private void appendBytes(int four) {
    for (int shift = 24; shift >= 0 && tapeBytes < MOST_BYTES; shift -= 8) {
      tape[tapeBytes] = (byte) (four >>> shift);
      tapeBytes++;
    }
  }

  public int end(int n) {
    if (n < 0 || n > tapeBytes) {
      return NONE;
    }
    tapeBytes = n;
    return n;
  }

  public int mint() {
    text.split(tape, tapeBytes);
    tapeBytes = 0;
    int fault = mintReader.read();
    if (fault != 0) {
      return -2 - fault;
    }
    now.takeMint(mintReader.draft);
    chords.forget();
    return now.mint.coins;
  }

  public int law() {
    if (lawCount >= MOST_LAWS) {
      return NONE;
    }
    text.split(tape, tapeBytes);
    tapeBytes = 0;
    int fault = lawReader.read(laws[lawCount]);
    if (fault != 0) {
      return -2 - fault;
    }
    lawCount++;
    return lawCount - 1;
  }

  public int coin(int coin, int what) {
    if (!isCoin(coin)) {
      return NONE;
    }
    Mint m = now.mint;
    switch (what) {
      case 0: return m.note[coin];
      case 1: return m.strength[coin];
      case 2: return m.worth[coin];
      case 3: return m.tough[coin];
      case 4: return m.holder[coin];
      case 5: return m.falls[coin];
      case 6: return m.cracks(coin);
      default: return NONE;
    }
  }

  public int counter(int counter, int what) {
    if (!isCounter(counter)) {
      return NONE;
    }
    switch (what) {
      case 0: return now.mint.down[counter];
      case 1: return now.mint.damp[counter];
      default: return NONE;
    }
  }

  public int give(int coin, int person) {
    if (!isCoin(coin) || !isPerson(person)) {
      return NONE;
    }
    int before = now.mint.holder[coin];
    now.mint.holder[coin] = person;
    return before;
  }

  public int retune(int coin, int note) {
    if (!isCoin(coin) || note < 0 || note > MOST_NOTE) {
      return NONE;
    }
    int before = now.mint.note[coin];
    now.mint.note[coin] = note;
    chords.forget();
    return before;
  }

  public int fall(int coins) {
    if (!isSet(coins) || !now.mint.canDrop(coins)) {
      return NONE;
    }
    now.mint.drop(coins);
    chords.forget();
    return Integer.bitCount(coins);
  }

  public int sounds(int law, int counter, int coins, int coin, int what) {
    if (!isHearable(law, counter, coins) || !isCoin(coin) || (coins >> coin & 1) == 0) {
      return NO_SOUND;
    }
    chords.aim(laws[law], counter);
    Ear ear = chords.ear;
    ear.listen(coins);
    switch (what) {
      case 0: return ear.noteOf(coin);
      case 1: return ear.strengthOf(coin);
      default: return NO_SOUND;
    }
  }

  public int tone(int law, int counter, int coins, int k, int what) {
    if (!isHearable(law, counter, coins)) {
      return NO_SOUND;
    }
    chords.aim(laws[law], counter);
    Ear ear = chords.ear;
    ear.listen(coins);
    ear.gatherTones();
    if (k < 0 || k >= ear.toneCount) {
      return NO_SOUND;
    }
    switch (what) {
      case 0: return ear.toneNote[k];
      case 1: return ear.toneStrength[k];
      case 2: return ear.toneLed[k];
      default: return NO_SOUND;
    }
  }

  public int tones(int law, int counter, int coins) {
    if (!isHearable(law, counter, coins)) {
      return NONE;
    }
    chords.aim(laws[law], counter);
    chords.ear.listen(coins);
    chords.ear.gatherTones();
    return chords.ear.toneCount;
  }

  public int alike(int law, int counter, int one, int other) {
    if (!isHearable(law, counter, one) || !isSet(other)) {
      return NONE;
    }
    chords.aim(laws[law], counter);
    chords.learn(one);
    chords.learn(other);
    return chords.numberOf(one) == chords.numberOf(other) ? 1 : 0;
  }

  public int hear(int note) {
    if (note == NO_SOUND) {
      now.heardCount = 0;
      return 0;
    }
    if (note < -FURTHEST_NOTE || note > FURTHEST_NOTE || !now.addHeard(note)) {
      return CANNOT;
    }
    return now.heardCount;
  }

  public int fits(int law, int counter, int coins, int what) {
    if (!isHearable(law, counter, coins) || what < 0 || what > 4) {
      return NONE;
    }
    chords.aim(laws[law], counter);
    return judge.fitting(coins, what);
  }

  public int mistaken(int law, int counter, int coins, int k, int what) {
    if (!isHearable(law, counter, coins) || k < 0 || k > MOST_COINS) {
      return NONE;
    }
    if (what < 0 || what > 2) {
      return NONE;
    }
    chords.aim(laws[law], counter);
    return judge.mistakes(coins, k, what);
  }

  public int pay(int law, int counter, int one, int other, int price, int what) {
    if (!canDeal(law, one, other) || !isCounter(counter) || !isPrice(price)) {
      return NONE;
    }
    if (what < 0 || what > 2) {
      return NONE;
    }
    chords.aim(laws[law], counter);
    if (!till.findPayment(one, other, price)) {
      return CANNOT;
    }
    switch (what) {
      case 0: return till.coinsTogether();
      case 1: return till.first;
      default: return till.second;
    }
  }

  public int done(int law, int counter, int one, int other, int price) {
    if (!canDeal(law, one, other) || !isCounter(counter) || !isPrice(price)) {
      return NONE;
    }
    chords.aim(laws[law], counter);
    if (!till.findPayment(one, other, price)) {
      return CANNOT;
    }
    if (!now.mint.canDrop(till.first | till.second)) {
      return CANNOT;
    }
    now.mint.drop(till.first | till.second);
    now.mint.hand(till.first, other);
    now.mint.hand(till.second, one);
    chords.forget();
    return till.coinsTogether();
  }

  public int prices(int law, int counter, int one, int other, int p) {
    if (!canDeal(law, one, other) || !isCounter(counter) || p < 0 || p > MOST_PRICES) {
      return NONE;
    }
    chords.aim(laws[law], counter);
    return till.payablePrices(one, other, p);
  }

  public int bestCounter(int law, int one, int other, int p) {
    if (!canDeal(law, one, other) || p < 0 || p > MOST_PRICES) {
      return NONE;
    }
    int best = NONE;
    int most = -1;
    for (int counter = 0; counter < now.mint.counters; counter++) {
      chords.aim(laws[law], counter);
      int payable = till.payablePrices(one, other, p);
      if (payable > most) {
        most = payable;
        best = counter;
      }
    }
    return best;
  }

  public int payment(int counter, int coins) {
    if (counter == NONE) {
      now.payments = 0;
      return 0;
    }
    if (!isCounter(counter) || !isSet(coins) || coins == 0 || now.payments >= MOST_PAYMENTS) {
      return CANNOT;
    }
    now.payCounter[now.payments] = counter;
    now.payCoins[now.payments] = coins;
    now.payments++;
    return now.payments;
  }

  public int rounds(int law, int what) {
    if (!isLaw(law) || what < 0 || what > 1) {
      return NONE;
    }
    int clashes = 0;
    judge.forgetClashes();
    for (int counter = 0; counter < now.mint.counters; counter++) {
      chords.aim(laws[law], counter);
      clashes += judge.findClashes(counter);
    }
    return what == 1 ? clashes : judge.fewestRounds();
  }

  public int land(int law, int counter, int p, int k) {
    if (!isLaw(law) || !isCounter(counter) || p < 0 || p > MOST_LAND_PRICE) {
      return NONE;
    }
    if (k < 1 || k > MOST_LAND_SET) {
      return NONE;
    }
    chords.aim(laws[law], counter);
    return judge.smallestLand(p, k);
  }

  public int forger(int n, int g) {
    if (n < 1 || n > MOST_FORGED || g < 1 || g > MOST_FORGED) {
      return NONE;
    }
    // More COINS never take fewer falls, so the worst is always the larger part;
    // it is least if as near to one half falls as g lets.
    int falls = 0;
    for (int left = n; left > 1; left -= Math.min(g, left / 2)) {
      falls++;
    }
    return falls;
  }

  public int seed(int x) {
    if (x < 0) {
      return NONE;
    }
    int before = now.x;
    now.x = x;
    return before;
  }

  public int year(int m, int what) {
    int coins = now.mint.coins;
    if (coins < 1 || m < 1 || m > LONGEST_YEAR || what < 0 || what > 2) {
      return NONE;
    }
    yearMint.copyFrom(now.mint);
    int x = now.x;
    for (int i = 0; i < m; i++) {
      x = drawn(x);
      int fallen = 1 << x / 65536 % coins;
      x = drawn(x);
      yearMint.drop(fallen);
      yearMint.hand(fallen, x / 65536 % PEOPLE);
    }
    int richest = yearMint.richest();
    switch (what) {
      case 0: return richest;
      case 1: return yearMint.worthHeld(richest);
      default: return yearMint.cracksOfAll();
    }
  }

  private static int drawn(int x) {
    return (int) ((x * 1103515245L + 12345L) % 2147483648L);
  }

  public int count(int what) {
    switch (what) {
      case 0: return now.mint.coins;
      case 1: return now.mint.counters;
      case 2: return now.mint.blur;
      case 3: return now.mint.deaf;
      case 4: return lawCount;
      case 5: return now.payments;
      case 6: return now.heardCount;
      case 7: return now.x;
      case 8: return tapeBytes;
      case 9: return now.mint.worthOf((1 << now.mint.coins) - 1);
      default: return isPerson(what - 10) && what >= 10 ? now.mint.worthHeld(what - 10) : NONE;
    }
  }

  public int image(int k) {
    if (k < 0 || k >= IMAGES) {
      return NONE;
    }
    images[k].copyFrom(now);
    images[k].made = true;
    return now.mint.coins;
  }

  public int back(int k) {
    if (k < 0 || k >= IMAGES || !images[k].made) {
      return NONE;
    }
    now.copyFrom(images[k]);
    chords.forget();
    return now.mint.coins;
  }

  private boolean isLaw(int law) {
    return law >= 0 && law < lawCount;
  }

  private boolean isCoin(int coin) {
    return coin >= 0 && coin < now.mint.coins;
  }

  private boolean isCounter(int counter) {
    return counter >= 0 && counter < now.mint.counters;
  }

  private static boolean isPerson(int person) {
    return person >= 0 && person < PEOPLE;
  }

  private static boolean isPrice(int price) {
    return price >= 0 && price <= MOST_PRICE;
  }

  /** Only a MINT has a COUNTER, so without one not even the empty set is there. */
  private boolean isSet(int coins) {
    return now.mint.counters > 0 && coins >= 0 && coins < 1 << now.mint.coins;
  }

  private boolean isHearable(int law, int counter, int coins) {
    return isLaw(law) && isCounter(counter) && isSet(coins);
  }

  private boolean canDeal(int law, int one, int other) {
    return isLaw(law) && isPerson(one) && isPerson(other) && one != other;
  }

  /** Sets within a set come in the order of their bits, the empty one first. */
  private static int nextWithin(int set, int whole) {
    return set - whole & whole;
  }

  /** A text cut into words, numbers and signs, and how far it has been read. */
  private static final class Text {
    static final int END = 0;
    static final int STRANGE = 1;
    static final int NUMBER = 2;
    static final int SEMICOLON = 3;
    static final int OPEN = 4;
    static final int CLOSE = 5;
    static final int PLUS = 6;
    static final int MINUS = 7;
    static final int TIMES = 8;
    static final int DIVIDED = 9;
    static final int REST = 10;
    static final int LESS = 11;
    static final int AT_MOST = 12;
    static final int SAME = 13;
    static final int AT_LEAST = 14;
    static final int MORE = 15;
    // The words follow in the order in which WORDS has them, those of a VALUE first.
    static final int NOTE = 16;
    static final int STRENGTH = 17;
    static final int COIN = 21;
    static final int LAST_VALUE_WORD = 25;
    static final int COUNTER = 26;
    static final int BLUR = 27;
    static final int DEAF = 28;
    static final int IF = 29;
    static final int NOT = 30;
    static final int AND = 31;
    static final int OR = 32;
    static final String WORDS =
        "note strength worth falls cracks coin down damp many loudest counter blur deaf if not and or ";

    static final int MISPLACED = 0;
    static final int WRONG_NUMBER = 1;
    static final int TOO_DEEP = 2;
    static final int TOO_LONG = 3;
    static final int TOO_MANY = 4;

    private static final int MOST_DIGITS = 5;

    private final int[] kinds = new int[MOST_BYTES + 1];
    private final int[] places = new int[MOST_BYTES + 1];
    private final int[] numbers = new int[MOST_BYTES + 1];
    private int size;
    private int at;
    int fault;

    void split(byte[] bytes, int length) {
      size = 0;
      at = 0;
      fault = 0;
      int behind;
      for (int place = 0; place < length; place = behind) {
        behind = place + 1;
        if (bytes[place] != ' ') {
          behind = Math.max(behind, pieceEnd(bytes, place, length));
          addPiece(bytes, place, behind);
        }
      }
      append(END, length, 0);
    }

    /** Behind the small letters, the digits or the sign that begin at a place. */
    private static int pieceEnd(byte[] bytes, int place, int length) {
      boolean letters = isLetter(bytes[place]);
      boolean digits = isDigit(bytes[place]);
      boolean maybeTwo = bytes[place] == '<' || bytes[place] == '>';
      int behind = place + 1;
      if (maybeTwo && behind < length && bytes[behind] == '=') {
        return behind + 1;
      }
      while (behind < length && (letters && isLetter(bytes[behind]) || digits && isDigit(bytes[behind]))) {
        behind++;
      }
      return behind;
    }

    private void addPiece(byte[] bytes, int from, int behind) {
      if (isDigit(bytes[from])) {
        append(NUMBER, from, numberAt(bytes, from, behind));
      } else if (isLetter(bytes[from])) {
        append(wordAt(bytes, from, behind), from, 0);
      } else {
        append(signOf(bytes[from], behind - from == 2), from, 0);
      }
    }

    private void append(int kind, int place, int number) {
      if (size < kinds.length) {
        kinds[size] = kind;
        places[size] = place;
        numbers[size] = number;
        size++;
      }
    }

    private static boolean isDigit(int sign) {
      return sign >= '0' && sign <= '9';
    }

    private static boolean isLetter(int sign) {
      return sign >= 'a' && sign <= 'z';
    }

    /** NONE with too many digits: below every number that can be told. */
    private static int numberAt(byte[] bytes, int from, int behind) {
      if (behind - from > MOST_DIGITS) {
        return NONE;
      }
      int number = 0;
      for (int i = from; i < behind; i++) {
        number = number * 10 + bytes[i] - '0';
      }
      return number;
    }

    private static int wordAt(byte[] bytes, int from, int behind) {
      int kind = NOTE;
      int start = 0;
      for (int i = 0; i < WORDS.length(); i++) {
        if (WORDS.charAt(i) == ' ') {
          if (i - start == behind - from && isWord(bytes, from, start, i)) {
            return kind;
          }
          kind++;
          start = i + 1;
        }
      }
      return STRANGE;
    }

    private static boolean isWord(byte[] bytes, int from, int start, int behind) {
      for (int i = start; i < behind; i++) {
        if (WORDS.charAt(i) != bytes[from + i - start]) {
          return false;
        }
      }
      return true;
    }

    private static int signOf(int sign, boolean withEqual) {
      switch (sign) {
        case ';': return SEMICOLON;
        case '[': return OPEN;
        case ']': return CLOSE;
        case '+': return PLUS;
        case '-': return MINUS;
        case '*': return TIMES;
        case '/': return DIVIDED;
        case '%': return REST;
        case '<': return withEqual ? AT_MOST : LESS;
        case '=': return SAME;
        case '>': return withEqual ? AT_LEAST : MORE;
        default: return STRANGE;
      }
    }

    int kind() {
      return at < size ? kinds[at] : END;
    }

    int number() {
      return at < size ? numbers[at] : 0;
    }

    void step() {
      if (at < size - 1) {
        at++;
      }
    }

    /** The first FAULT stays: what is read behind it has no meaning. */
    void fail(int why) {
      if (fault == 0 && at < size) {
        fault = 1 + 8 * places[at] + why;
      }
    }
  }

  /** Reads a MINT into a draft, so that the one there is stays if the text has a FAULT. */
  private static final class MintReader {
    private static final int MOST_CLAUSES = 24;

    final Mint draft = new Mint();
    private final Text text;
    private boolean blurTold;
    private boolean deafTold;

    MintReader(Text text) {
      this.text = text;
    }

    int read() {
      draft.clear();
      blurTold = false;
      deafTold = false;
      // A 25th CLAUSE can't be reached: the 19th is one too many of its kind.
      for (int clause = 0; clause < MOST_CLAUSES && text.fault == 0; clause++) {
        readClause();
        if (text.kind() != Text.SEMICOLON) {
          break;
        }
        text.step();
      }
      if (text.kind() != Text.END || draft.counters == 0) {
        text.fail(Text.MISPLACED);
      }
      return text.fault;
    }

    private void readClause() {
      int word = text.kind();
      if (word != Text.COIN && word != Text.COUNTER && word != Text.BLUR && word != Text.DEAF) {
        text.fail(Text.MISPLACED);
      } else if (isTooMany(word)) {
        text.fail(Text.TOO_MANY);
      } else {
        text.step();
        readNumbers(word);
      }
    }

    private boolean isTooMany(int word) {
      switch (word) {
        case Text.COIN: return draft.coins >= MOST_COINS;
        case Text.COUNTER: return draft.counters >= MOST_COUNTERS;
        case Text.BLUR: return blurTold;
        default: return deafTold;
      }
    }

    private void readNumbers(int word) {
      if (word == Text.COIN) {
        int note = readNumber(0, MOST_NOTE);
        int strength = readNumber(1, 99);
        int worth = readNumber(0, 999);
        draft.addCoin(note, strength, worth, readNumber(1, 99));
      } else if (word == Text.COUNTER) {
        int down = readNumber(0, 1200);
        draft.addCounter(down, readNumber(0, 99));
      } else if (word == Text.BLUR) {
        draft.blur = readNumber(0, 999);
        blurTold = true;
      } else {
        draft.deaf = readNumber(0, 99);
        deafTold = true;
      }
    }

    private int readNumber(int least, int most) {
      int number = text.number();
      if (text.kind() != Text.NUMBER) {
        text.fail(Text.MISPLACED);
      } else if (number < least || number > most) {
        text.fail(Text.WRONG_NUMBER);
      } else if (text.fault == 0) {
        text.step();
      }
      return number;
    }
  }

  /** Reads a LAW and writes its SUMS and TESTS as code, each sign behind what it joins. */
  private static final class LawReader {
    private static final int DEEPEST = 10;
    private static final int MOST_VALUES = 60;

    private final Text text;
    private Law law;
    private int values;

    LawReader(Text text) {
      this.text = text;
      this.law = new Law();
    }

    int read(Law into) {
      law = into;
      law.clear();
      values = 0;
      for (int clause = 0; clause <= Law.MOST_CLAUSES && text.fault == 0; clause++) {
        readClause();
        if (text.kind() != Text.SEMICOLON) {
          break;
        }
        text.step();
      }
      if (text.kind() != Text.END) {
        text.fail(Text.MISPLACED);
      }
      return text.fault;
    }

    private void readClause() {
      int word = text.kind();
      if (word != Text.NOTE && word != Text.STRENGTH) {
        text.fail(Text.MISPLACED);
        return;
      }
      if (law.isFull()) {
        text.fail(Text.TOO_MANY);
        return;
      }
      text.step();
      int sumFrom = law.length;
      readSum();
      int testFrom = law.length;
      if (text.fault == 0 && text.kind() == Text.IF) {
        text.step();
        readTest(0);
      }
      law.addClause(word, sumFrom, testFrom);
    }

    /** A sign + or - waits until the TERM at its right is whole. */
    private void readSum() {
      int waiting = 0;
      readValue();
      for (int i = 0; i < MOST_BYTES && text.fault == 0; i++) {
        int sign = text.kind();
        if (sign < Text.PLUS || sign > Text.REST) {
          break;
        }
        text.step();
        if (sign == Text.PLUS || sign == Text.MINUS) {
          law.addSign(waiting);
          waiting = sign;
          readValue();
        } else {
          readValue();
          law.addSign(sign);
        }
      }
      law.addSign(waiting);
    }

    private void readValue() {
      int kind = text.kind();
      boolean isNumber = kind == Text.NUMBER;
      if (!isNumber && (kind < Text.NOTE || kind > Text.LAST_VALUE_WORD)) {
        text.fail(Text.MISPLACED);
      } else if (isNumber && text.number() < 0) {
        text.fail(Text.WRONG_NUMBER);
      } else if (values >= MOST_VALUES) {
        text.fail(Text.TOO_LONG);
      } else {
        values++;
        if (isNumber) {
          law.addNumber(text.number());
        } else {
          law.addSign(kind);
        }
        text.step();
      }
    }

    /** An or waits until the PART at its right is whole. */
    private void readTest(int depth) {
      int waiting = 0;
      readFact(depth);
      for (int i = 0; i < MOST_BYTES && text.fault == 0; i++) {
        int word = text.kind();
        if (word != Text.AND && word != Text.OR) {
          break;
        }
        text.step();
        if (word == Text.OR) {
          law.addSign(waiting);
          waiting = word;
          readFact(depth);
        } else {
          readFact(depth);
          law.addSign(word);
        }
      }
      law.addSign(waiting);
    }

    private void readFact(int depth) {
      int kind = text.kind();
      if (kind != Text.NOT && kind != Text.OPEN) {
        readSum();
        int sign = takeSign();
        if (sign != 0) {
          readSum();
          law.addSign(sign);
        }
      } else if (depth >= DEEPEST) {
        text.fail(Text.TOO_DEEP);
      } else if (kind == Text.NOT) {
        text.step();
        readFact(depth + 1);
        law.addSign(Text.NOT);
      } else {
        text.step();
        readTest(depth + 1);
        if (text.kind() != Text.CLOSE) {
          text.fail(Text.MISPLACED);
        }
        text.step();
      }
    }

    /** 0 where there is none, or one too many. */
    private int takeSign() {
      int sign = text.kind();
      if (sign < Text.LESS || sign > Text.MORE) {
        text.fail(Text.MISPLACED);
      } else if (values >= MOST_VALUES) {
        text.fail(Text.TOO_LONG);
      }
      if (text.fault != 0) {
        return 0;
      }
      values++;
      text.step();
      return sign;
    }
  }

  /** CLAUSES as code: a number is itself, a word or sign its kind below 0. */
  private static final class Law {
    static final int MOST_CLAUSES = 12;
    // No code puts down more than its 60 VALUES.
    static final int DEEPEST_STACK = 64;

    private final int[] code = new int[MOST_BYTES];
    int length;
    private final int[] clauseWord = new int[MOST_CLAUSES];
    private final int[] sumFrom = new int[MOST_CLAUSES];
    private final int[] testFrom = new int[MOST_CLAUSES];
    private final int[] clauseEnd = new int[MOST_CLAUSES];
    private int clauses;

    void clear() {
      length = 0;
      clauses = 0;
    }

    boolean isFull() {
      return clauses >= MOST_CLAUSES;
    }

    void addNumber(int number) {
      if (length < code.length) {
        code[length] = number;
        length++;
      }
    }

    /** 0 is no sign: nothing waited. */
    void addSign(int kind) {
      if (kind != 0 && length < code.length) {
        code[length] = -kind;
        length++;
      }
    }

    void addClause(int word, int sum, int test) {
      if (clauses < MOST_CLAUSES) {
        clauseWord[clauses] = word;
        sumFrom[clauses] = sum;
        testFrom[clauses] = test;
        clauseEnd[clauses] = length;
        clauses++;
      }
    }

    /** What the first CLAUSE of a word that holds says, else what sounds without one. */
    long told(int word, long[] words, long[] stack, long without) {
      for (int i = 0; i < clauses; i++) {
        if (clauseWord[i] == word) {
          boolean untested = testFrom[i] == clauseEnd[i];
          if (untested || valueOf(testFrom[i], clauseEnd[i], words, stack) != 0) {
            return valueOf(sumFrom[i], testFrom[i], words, stack);
          }
        }
      }
      return without;
    }

    private long valueOf(int from, int behind, long[] words, long[] stack) {
      int top = 0;
      for (int i = from; i < behind; i++) {
        int kind = -code[i];
        if (kind <= 0) {
          top = put(stack, top, code[i]);
        } else if (kind >= Text.NOTE && kind <= Text.LAST_VALUE_WORD) {
          top = put(stack, top, words[kind - Text.NOTE]);
        } else if (kind == Text.NOT && top >= 1) {
          stack[top - 1] = 1 - stack[top - 1];
        } else if (top >= 2) {
          top--;
          stack[top - 1] = joined(kind, stack[top - 1], stack[top]);
        }
      }
      return top >= 1 ? stack[0] : 0;
    }

    private static int put(long[] stack, int top, long value) {
      if (top >= stack.length) {
        return top;
      }
      stack[top] = value;
      return top + 1;
    }

    private static long joined(int kind, long a, long b) {
      switch (kind) {
        case Text.PLUS: return a + b;
        case Text.MINUS: return a - b;
        case Text.TIMES: return a * b;
        case Text.DIVIDED: return b == 0 ? 0 : a / b;
        case Text.REST: return b == 0 ? 0 : a % b;
        case Text.LESS: return a < b ? 1 : 0;
        case Text.AT_MOST: return a <= b ? 1 : 0;
        case Text.SAME: return a == b ? 1 : 0;
        case Text.AT_LEAST: return a >= b ? 1 : 0;
        case Text.MORE: return a > b ? 1 : 0;
        case Text.AND: return a & b;
        case Text.OR: return a | b;
        default: return 0;
      }
    }
  }

  /** COINS and COUNTERS as told, and what has happened to the COINS since. */
  private static final class Mint {
    int coins;
    final int[] note = new int[MOST_COINS];
    final int[] strength = new int[MOST_COINS];
    final int[] worth = new int[MOST_COINS];
    final int[] tough = new int[MOST_COINS];
    final int[] holder = new int[MOST_COINS];
    final int[] falls = new int[MOST_COINS];
    int counters;
    final int[] down = new int[MOST_COUNTERS];
    final int[] damp = new int[MOST_COUNTERS];
    int blur;
    int deaf;

    void clear() {
      coins = 0;
      counters = 0;
      blur = 0;
      deaf = 0;
    }

    void addCoin(int itsNote, int itsStrength, int itsWorth, int itsTough) {
      if (coins < MOST_COINS) {
        note[coins] = itsNote;
        strength[coins] = itsStrength;
        worth[coins] = itsWorth;
        tough[coins] = itsTough;
        holder[coins] = 0;
        falls[coins] = 0;
        coins++;
      }
    }

    void addCounter(int itsDown, int itsDamp) {
      if (counters < MOST_COUNTERS) {
        down[counters] = itsDown;
        damp[counters] = itsDamp;
        counters++;
      }
    }

    void copyFrom(Mint other) {
      coins = other.coins;
      System.arraycopy(other.note, 0, note, 0, MOST_COINS);
      System.arraycopy(other.strength, 0, strength, 0, MOST_COINS);
      System.arraycopy(other.worth, 0, worth, 0, MOST_COINS);
      System.arraycopy(other.tough, 0, tough, 0, MOST_COINS);
      System.arraycopy(other.holder, 0, holder, 0, MOST_COINS);
      System.arraycopy(other.falls, 0, falls, 0, MOST_COINS);
      counters = other.counters;
      System.arraycopy(other.down, 0, down, 0, MOST_COUNTERS);
      System.arraycopy(other.damp, 0, damp, 0, MOST_COUNTERS);
      blur = other.blur;
      deaf = other.deaf;
    }

    int cracks(int coin) {
      return tough[coin] > 0 ? falls[coin] / tough[coin] : 0;
    }

    int cracksOfAll() {
      int all = 0;
      for (int coin = 0; coin < coins; coin++) {
        all += cracks(coin);
      }
      return all;
    }

    int worthOf(int set) {
      int all = 0;
      for (int coin = 0; coin < coins; coin++) {
        all += (set >> coin & 1) * worth[coin];
      }
      return all;
    }

    int heldBy(int person) {
      int set = 0;
      for (int coin = 0; coin < coins; coin++) {
        if (holder[coin] == person) {
          set |= 1 << coin;
        }
      }
      return set;
    }

    int worthHeld(int person) {
      return worthOf(heldBy(person));
    }

    int richest() {
      int best = 0;
      for (int person = 1; person < PEOPLE; person++) {
        if (worthHeld(person) > worthHeld(best)) {
          best = person;
        }
      }
      return best;
    }

    boolean canDrop(int set) {
      for (int coin = 0; coin < coins; coin++) {
        if ((set >> coin & 1) == 1 && falls[coin] >= MOST_FALLS) {
          return false;
        }
      }
      return true;
    }

    void drop(int set) {
      for (int coin = 0; coin < coins; coin++) {
        falls[coin] += set >> coin & 1;
      }
    }

    void hand(int set, int person) {
      for (int coin = 0; coin < coins; coin++) {
        if ((set >> coin & 1) == 1) {
          holder[coin] = person;
        }
      }
    }
  }

  /** All that an IMAGE keeps. */
  private static final class State {
    final Mint mint = new Mint();
    final int[] heard = new int[MOST_HEARD];
    int heardCount;
    final int[] payCounter = new int[MOST_PAYMENTS];
    final int[] payCoins = new int[MOST_PAYMENTS];
    int payments;
    int x;
    boolean made;

    void takeMint(Mint other) {
      mint.copyFrom(other);
      heardCount = 0;
      payments = 0;
    }

    void copyFrom(State other) {
      mint.copyFrom(other.mint);
      System.arraycopy(other.heard, 0, heard, 0, MOST_HEARD);
      heardCount = other.heardCount;
      System.arraycopy(other.payCounter, 0, payCounter, 0, MOST_PAYMENTS);
      System.arraycopy(other.payCoins, 0, payCoins, 0, MOST_PAYMENTS);
      payments = other.payments;
      x = other.x;
    }

    /** Keeps the notes from below, as a CHORD has them. */
    boolean addHeard(int note) {
      if (heardCount >= MOST_HEARD) {
        return false;
      }
      int place = 0;
      while (place < heardCount && heard[place] < note) {
        place++;
      }
      if (place < heardCount && heard[place] == note) {
        return false;
      }
      for (int i = heardCount; i > place; i--) {
        heard[i] = heard[i - 1];
      }
      heard[place] = note;
      heardCount++;
      return true;
    }
  }

  /** Hears one set of COINS fall: what each sounds by a LAW on a COUNTER, and their TONES. */
  private static final class Ear {
    private static final int VALUE_WORDS = Text.LAST_VALUE_WORD - Text.NOTE + 1;
    private static final int SOUNDS = MOST_COINS * MOST_COINS * MOST_COINS;

    private final Mint mint;
    private Law law;
    private int counter;
    // What a COIN sounds hangs on how many fall and which is the loudest, not on the whole set.
    private final int[] knownNote = new int[SOUNDS];
    private final int[] knownStrength = new int[SOUNDS];
    private final long[] words = new long[VALUE_WORDS];
    private final long[] stack = new long[Law.DEEPEST_STACK];
    private final int[] slotOf = new int[MOST_COINS];
    private final int[] order = new int[MOST_COINS];
    private int sounding;
    final int[] toneNote = new int[MOST_COINS];
    final int[] toneStrength = new int[MOST_COINS];
    final int[] toneLed = new int[MOST_COINS];
    int toneCount;

    Ear(Mint mint, Law law) {
      this.mint = mint;
      this.law = law;
    }

    void aim(Law toLaw, int toCounter) {
      law = toLaw;
      counter = toCounter;
      int sounds = mint.coins * mint.coins * mint.coins;
      for (int i = 0; i < sounds; i++) {
        knownNote[i] = NO_SOUND;
      }
    }

    int noteOf(int coin) {
      return knownNote[slotOf[coin]];
    }

    int strengthOf(int coin) {
      return knownStrength[slotOf[coin]];
    }

    /** Puts those that can be heard in order, by their notes from below. */
    void listen(int set) {
      int loudest = loudestOf(set);
      int others = Integer.bitCount(set) - 1;
      sounding = 0;
      for (int coin = 0; coin < mint.coins; coin++) {
        if ((set >> coin & 1) == 1) {
          int slot = (others * mint.coins + loudest) * mint.coins + coin;
          if (knownNote[slot] == NO_SOUND) {
            tellWords(coin, others + 1, mint.strength[loudest]);
            knownNote[slot] = heldNote(law.told(Text.NOTE, words, stack, words[0] - words[6]));
            knownStrength[slot] = heldStrength(law.told(Text.STRENGTH, words, stack, words[1] - words[7]));
          }
          slotOf[coin] = slot;
          if (knownStrength[slot] > 0 && knownStrength[slot] >= mint.deaf) {
            putInOrder(coin);
          }
        }
      }
    }

    private static int heldNote(long note) {
      return (int) Math.max(-FURTHEST_NOTE, Math.min(FURTHEST_NOTE, note));
    }

    private static int heldStrength(long strength) {
      return (int) Math.max(0, Math.min(GREATEST_STRENGTH, strength));
    }

    private int loudestOf(int set) {
      int loudest = -1;
      for (int coin = 0; coin < mint.coins; coin++) {
        boolean falls = (set >> coin & 1) == 1;
        if (falls && (loudest < 0 || mint.strength[coin] > mint.strength[loudest])) {
          loudest = coin;
        }
      }
      return Math.max(loudest, 0);
    }

    private void tellWords(int coin, int many, int loudest) {
      words[0] = mint.note[coin];
      words[1] = mint.strength[coin];
      words[2] = mint.worth[coin];
      words[3] = mint.falls[coin];
      words[4] = mint.cracks(coin);
      words[5] = coin;
      words[6] = mint.down[counter];
      words[7] = mint.damp[counter];
      words[8] = many;
      words[9] = loudest;
    }

    /** COINS come by their numbers, so one goes behind all those of the same note. */
    private void putInOrder(int coin) {
      int place = sounding;
      while (place > 0 && noteOf(order[place - 1]) > noteOf(coin)) {
        order[place] = order[place - 1];
        place--;
      }
      order[place] = coin;
      sounding++;
    }

    void gatherTones() {
      toneCount = 0;
      for (int i = 0; i < sounding; i++) {
        int coin = order[i];
        int last = toneCount - 1;
        if (last >= 0 && isWithin(noteOf(coin) - toneNote[last])) {
          toneStrength[last] += strengthOf(coin);
          toneLed[last] = Math.min(toneLed[last], coin);
        } else {
          toneNote[toneCount] = noteOf(coin);
          toneStrength[toneCount] = strengthOf(coin);
          toneLed[toneCount] = coin;
          toneCount++;
        }
      }
    }

    private boolean isWithin(int above) {
      return above < mint.blur || above == 0;
    }
  }

  /** Gives ALIKE CHORDS of sets one number, from 1 on, and groups sets by it. */
  private static final class Chords {
    // Each COIN is in half of all sets.
    private static final int TONES_OF_ALL = MOST_COINS * SETS / 2;

    final Ear ear;
    private final Mint mint;
    private Law law;
    private int counter = NONE;
    private final int[] number = new int[SETS];
    private final int[] worth = new int[SETS];
    private int chordCount;
    private final int[] start = new int[SETS + 2];
    private final int[] notes = new int[TONES_OF_ALL];
    private final int[] bucket = new int[SETS];
    private final int[] nextInBucket = new int[SETS + 1];
    private int grouping;
    private final int[] groupedIn = new int[SETS + 1];
    private final int[] mixedIn = new int[SETS + 1];
    private final int[] leader = new int[SETS + 1];

    Chords(Mint mint, Law law) {
      this.mint = mint;
      this.law = law;
      this.ear = new Ear(mint, law);
    }

    /** What COINS sound has changed, so nothing that was learnt is to be kept. */
    void forget() {
      counter = NONE;
    }

    void aim(Law toLaw, int toCounter) {
      if (toLaw == law && toCounter == counter) {
        return;
      }
      law = toLaw;
      counter = toCounter;
      ear.aim(toLaw, toCounter);
      chordCount = 0;
      for (int set = 0; set < 1 << mint.coins; set++) {
        number[set] = 0;
        bucket[set] = 0;
      }
    }

    /** The sets of at most so many COINS within a whole one: only what is learnt can be asked. */
    void learnWithin(int whole, int most) {
      int sets = 1 << Integer.bitCount(whole);
      int set = 0;
      for (int i = 0; i < sets; i++) {
        if (Integer.bitCount(set) <= most) {
          learn(set);
        }
        set = nextWithin(set, whole);
      }
    }

    void learn(int set) {
      if (number[set] == 0) {
        ear.listen(set);
        ear.gatherTones();
        worth[set] = mint.worthOf(set);
        number[set] = numberOfTones();
      }
    }

    private int numberOfTones() {
      int hash = 0;
      for (int i = 0; i < ear.toneCount; i++) {
        hash = hash * 31 + ear.toneNote[i] + 1;
      }
      int place = (hash ^ hash >>> 12) & (1 << mint.coins) - 1;
      int chord = bucket[place];
      for (int i = 0; i < SETS && chord != 0; i++) {
        if (isSame(chord, ear.toneNote, ear.toneCount)) {
          return chord;
        }
        chord = nextInBucket[chord];
      }
      addChord();
      nextInBucket[chordCount] = bucket[place];
      bucket[place] = chordCount;
      return chordCount;
    }

    private void addChord() {
      chordCount++;
      int from = start[chordCount];
      for (int i = 0; i < ear.toneCount; i++) {
        notes[from + i] = ear.toneNote[i];
      }
      start[chordCount + 1] = from + ear.toneCount;
    }

    boolean isSame(int chord, int[] asked, int askedCount) {
      int from = start[chord];
      if (start[chord + 1] - from != askedCount) {
        return false;
      }
      for (int i = 0; i < askedCount; i++) {
        if (notes[from + i] != asked[i]) {
          return false;
        }
      }
      return true;
    }

    int numberOf(int set) {
      return number[set];
    }

    int worthOf(int set) {
      return worth[set];
    }

    void beginGroups() {
      grouping++;
    }

    /** The first set since the groups began whose CHORD is ALIKE; this one if it is the first. */
    int leaderOf(int set) {
      int chord = number[set];
      if (groupedIn[chord] != grouping) {
        groupedIn[chord] = grouping;
        leader[chord] = set;
      }
      return leader[chord];
    }

    /** One set of another WORTH makes its whole group unsafe. */
    void putInGroup(int set) {
      if (worth[leaderOf(set)] != worth[set]) {
        mixedIn[number[set]] = grouping;
      }
    }

    boolean isMixed(int set) {
      return mixedIn[number[set]] == grouping;
    }
  }

  /** Finds payments with change that nobody can mishear. */
  private static final class Till {
    private final Mint mint;
    private final Chords chords;
    private final int[] ones = new int[SETS];
    private final int[] others = new int[SETS];
    private final boolean[] payable = new boolean[MOST_PRICES + 1];
    int first;
    int second;

    Till(Mint mint, Chords chords) {
      this.mint = mint;
      this.chords = chords;
    }

    int coinsTogether() {
      return Integer.bitCount(first) + Integer.bitCount(second);
    }

    boolean findPayment(int one, int other, int price) {
      chords.learnWithin(mint.heldBy(one), MOST_COINS);
      chords.learnWithin(mint.heldBy(other), MOST_COINS);
      int oneCount = collectSafe(mint.heldBy(one), ones);
      int otherCount = collectSafe(mint.heldBy(other), others);
      int fewest = MOST_COINS + 1;
      for (int i = 0; i < oneCount; i++) {
        for (int j = 0; j < otherCount; j++) {
          int together = Integer.bitCount(ones[i]) + Integer.bitCount(others[j]);
          if (together < fewest && chords.worthOf(ones[i]) - chords.worthOf(others[j]) == price) {
            fewest = together;
            first = ones[i];
            second = others[j];
          }
        }
      }
      return fewest <= MOST_COINS;
    }

    int payablePrices(int one, int other, int p) {
      chords.learnWithin(mint.heldBy(one), MOST_COINS);
      chords.learnWithin(mint.heldBy(other), MOST_COINS);
      int oneCount = collectSafe(mint.heldBy(one), ones);
      int otherCount = collectSafe(mint.heldBy(other), others);
      for (int price = 0; price <= MOST_PRICES; price++) {
        payable[price] = false;
      }
      int found = 0;
      for (int i = 0; i < oneCount; i++) {
        for (int j = 0; j < otherCount; j++) {
          int price = chords.worthOf(ones[i]) - chords.worthOf(others[j]);
          if (price >= 1 && price <= p && price <= MOST_PRICES && !payable[price]) {
            payable[price] = true;
            found++;
          }
        }
      }
      return found;
    }

    private int collectSafe(int held, int[] into) {
      int sets = 1 << Integer.bitCount(held);
      chords.beginGroups();
      int set = 0;
      for (int i = 0; i < sets; i++) {
        chords.putInGroup(set);
        set = nextWithin(set, held);
      }
      int safe = 0;
      for (int i = 0; i < sets; i++) {
        if (!chords.isMixed(set)) {
          into[safe] = set;
          safe++;
        }
        set = nextWithin(set, held);
      }
      return safe;
    }
  }

  /** Judges which sets can be told from one another, and what follows for all. */
  private static final class Judge {
    private static final int PARTS = 1 << MOST_PAYMENTS;

    private final State now;
    private final Chords chords;
    private final int[] clashing = new int[MOST_PAYMENTS];
    private final boolean[] isQuiet = new boolean[PARTS];
    private final int[] roundsOf = new int[PARTS];
    private final boolean[] isUnsound = new boolean[SETS];
    private final boolean[] covered = new boolean[MOST_LAND_PRICE + 1];

    Judge(State now, Chords chords) {
      this.now = now;
      this.chords = chords;
    }

    int fitting(int coins, int what) {
      int found = 0;
      int first = CANNOT;
      int least = CANNOT;
      int greatest = CANNOT;
      int smallest = CANNOT;
      int sets = 1 << Integer.bitCount(coins);
      int set = 0;
      chords.learnWithin(coins, MOST_COINS);
      for (int i = 0; i < sets; i++) {
        if (chords.isSame(chords.numberOf(set), now.heard, now.heardCount)) {
          int worth = chords.worthOf(set);
          first = found == 0 ? set : first;
          least = found == 0 ? worth : Math.min(least, worth);
          greatest = Math.max(greatest, worth);
          boolean smaller = found == 0 || Integer.bitCount(set) < Integer.bitCount(smallest);
          smallest = smaller ? set : smallest;
          found++;
        }
        set = nextWithin(set, coins);
      }
      switch (what) {
        case 0: return found;
        case 1: return first;
        case 2: return least;
        case 3: return greatest;
        default: return found == 0 ? CANNOT : chords.worthOf(smallest);
      }
    }

    int mistakes(int coins, int k, int what) {
      int one = CANNOT;
      int other = CANNOT;
      int unlike = 0;
      int sets = 1 << Integer.bitCount(coins);
      int set = 0;
      chords.learnWithin(coins, k);
      chords.beginGroups();
      for (int i = 0; i < sets; i++) {
        if (Integer.bitCount(set) <= k) {
          int leader = chords.leaderOf(set);
          unlike += leader == set ? 1 : 0;
          boolean sooner = one == CANNOT || leader < one;
          if (sooner && chords.worthOf(leader) != chords.worthOf(set)) {
            one = leader;
            other = set;
          }
        }
        set = nextWithin(set, coins);
      }
      switch (what) {
        case 0: return one;
        case 1: return other;
        default: return unlike;
      }
    }

    void forgetClashes() {
      for (int i = 0; i < MOST_PAYMENTS; i++) {
        clashing[i] = 0;
      }
    }

    /** How many twos CLASH on a COUNTER; with which earlier ones each does is kept for the ROUNDS. */
    int findClashes(int counter) {
      int clashes = 0;
      for (int i = 0; i < now.payments; i++) {
        for (int j = 0; j < i; j++) {
          if (now.payCounter[i] == counter && now.payCounter[j] == counter) {
            chords.learnWithin(now.payCoins[i] | now.payCoins[j], MOST_COINS);
            if (isClash(now.payCoins[i], now.payCoins[j])) {
              clashing[i] |= 1 << j;
              clashes++;
            }
          }
        }
      }
      return clashes;
    }

    private boolean isClash(int one, int other) {
      int both = one | other;
      int sets = 1 << Integer.bitCount(both);
      int set = 0;
      boolean clash = (one & other) != 0;
      // The whole of both comes last and has no other WORTH than itself.
      for (int i = 0; i < sets && !clash; i++) {
        boolean alike = chords.numberOf(set) == chords.numberOf(both);
        clash = alike && chords.worthOf(set) != chords.worthOf(both);
        set = nextWithin(set, both);
      }
      return clash;
    }

    int fewestRounds() {
      isQuiet[0] = true;
      roundsOf[0] = 0;
      for (int part = 1; part < 1 << now.payments; part++) {
        int highest = 31 - Integer.numberOfLeadingZeros(part);
        int rest = part ^ 1 << highest;
        isQuiet[part] = isQuiet[rest] && (clashing[highest] & rest) == 0;
        roundsOf[part] = isQuiet[part] ? 1 : fewestSplit(part, rest);
      }
      return roundsOf[(1 << now.payments) - 1];
    }

    /** Some round has the highest PAYMENT: it goes with those of the rest that do not CLASH. */
    private int fewestSplit(int part, int rest) {
      int fewest = MOST_PAYMENTS;
      int sets = 1 << Integer.bitCount(rest);
      int later = 0;
      for (int i = 0; i < sets; i++) {
        if (isQuiet[part ^ later]) {
          fewest = Math.min(fewest, 1 + roundsOf[later]);
        }
        later = nextWithin(later, rest);
      }
      return fewest;
    }

    int smallestLand(int p, int k) {
      int best = CANNOT;
      int fewest = MOST_COINS + 1;
      chords.learnWithin((1 << now.mint.coins) - 1, k);
      for (int land = 0; land < 1 << now.mint.coins; land++) {
        isUnsound[land] = hasUnsoundPart(land);
        // Where it is not looked at, no greater one is either, so its mark is not asked for.
        if (!isUnsound[land] && Integer.bitCount(land) < fewest && isLand(land, p, k)) {
          best = land;
          fewest = Integer.bitCount(land);
        }
      }
      return best;
    }

    private boolean hasUnsoundPart(int land) {
      for (int coin = 0; coin < now.mint.coins; coin++) {
        if ((land >> coin & 1) == 1 && isUnsound[land ^ 1 << coin]) {
          return true;
        }
      }
      return false;
    }

    private boolean isLand(int land, int p, int k) {
      for (int price = 0; price <= p; price++) {
        covered[price] = false;
      }
      int missing = p;
      int sets = 1 << Integer.bitCount(land);
      int set = 0;
      chords.beginGroups();
      for (int i = 0; i < sets; i++) {
        if (Integer.bitCount(set) <= k) {
          int worth = chords.worthOf(set);
          if (chords.worthOf(chords.leaderOf(set)) != worth) {
            isUnsound[land] = true;
            return false;
          }
          if (worth >= 1 && worth <= p && !covered[worth]) {
            covered[worth] = true;
            missing--;
          }
        }
        set = nextWithin(set, land);
      }
      return missing == 0;
    }
  }
}
