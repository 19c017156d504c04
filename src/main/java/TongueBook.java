import java.util.Arrays;

/**
 * A tongue taken down: cards, pieces, sound rules, sayings, neighbours' words, shelves.
 * All rows are made in the constructor and used again: no call makes an object, but for what
 * element throws.
 */
public final class TongueBook {
  private static final int SOUNDS = 10;
  private static final int CLASSES = 4;
  private static final int CARDS = 40;
  private static final int CARD_SOUNDS = 8;
  private static final int MEANINGS = 1024;
  private static final int SPEAKERS = 8;
  private static final int HEARERS = 4;
  private static final int VILLAGES = 4;
  private static final int HOURS = 1000;
  private static final int RESTS = 100;
  private static final int NOTES = 16;
  private static final int NOTE_SOUNDS = 4;
  private static final int CHOSEN_NOTES = 10;
  private static final int RULES = 8;
  private static final int SAID = 20;
  private static final int PARTS = 4;
  private static final int ORDERS = 24;
  private static final int WORDS = 10;
  private static final int DEALT_WORDS = 7;
  private static final int UNKNOWN_NOTES = 10;
  private static final int SHELVES = 8;
  private static final int ELEMENTS = 80;
  private static final int SINGLE = 100;

  private static final int KEPT = 0;
  private static final int BARRED = 1;
  private static final int TAKEN_BACK = 2;

  private static final int BYTES = 0;
  private static final int SHORTS = 1;
  private static final int INTS = 2;

  private static final int NO_SUCH = -1;
  private static final int NO_ROOM = -2;
  private static final int CANNOT = -3;
  private static final int NONE = -4;
  private static final int NOTHING_HELD = -11;
  private static final int OTHER_KIND = -12;
  private static final int NO_PLACE = -13;
  private static final int BELOW_NOTHING = -14;
  private static final int NO_FAILURE = -15;
  private static final int FAULTY = -100;

  private final Book book = new Book();
  private final Book imaged = new Book();
  private boolean hasImage;
  private final Shelf[] shelves = new Shelf[SHELVES];
  private final Cutter cutter = new Cutter();
  private final Hearing hearing = new Hearing();
  private final Orders asking = new Orders();
  private final Laws laws = new Laws();
  private final Rule draft = new Rule();

  public TongueBook() {
    for (int d = 0; d < SHELVES; d++) {
      shelves[d] = new Shelf();
    }
  }

  // ---- cards, speakers, sounds

  public int card(int d, int meaning, int told, int hour) {
    if (!isIn(d, SHELVES) || !isIn(meaning, MEANINGS) || !isTold(told) || !isIn(hour, HOURS)) {
      return NO_SUCH;
    }
    if (book.cardCount >= CARDS) {
      return NO_ROOM;
    }
    int refusal = shelves[d].refusalOfSounds(1, CARD_SOUNDS);
    if (refusal != 0) {
      return refusal;
    }
    Card next = book.cards[book.cardCount];
    next.sounds.takeRow(shelves[d]);
    next.meaning = meaning;
    next.speaker = told / 100;
    next.hearer = told / 10 % 10;
    next.good = told % 10 == 1;
    next.hour = hour;
    next.standing = KEPT;
    book.cardCount++;
    return book.cardCount - 1;
  }

  public int about(int card, int what) {
    if (!isIn(card, book.cardCount)) {
      return NO_SUCH;
    }
    Card one = book.cards[card];
    switch (what) {
      case 0: return one.sounds.size;
      case 1: return one.meaning;
      case 2: return one.speaker;
      case 3: return one.hearer;
      case 4: return one.hour;
      case 5: return one.good ? 1 : 0;
      case 6: return one.standing;
      default: return NO_SUCH;
    }
  }

  public int sound(int card, int i) {
    if (!isIn(card, book.cardCount) || !isIn(i, book.cards[card].sounds.size)) {
      return NO_SUCH;
    }
    return book.cards[card].sounds.at[i];
  }

  public int classOf(int sound, int n) {
    if (!isIn(sound, SOUNDS) || !isIn(n, CLASSES)) {
      return NO_SUCH;
    }
    int was = book.classes[sound];
    book.classes[sound] = n;
    return was;
  }

  public int speaker(int speaker, int what, int n) {
    if (!isIn(speaker, SPEAKERS) || !isIn(what, 2) || !isIn(n, what == 0 ? VILLAGES : RESTS)) {
      return NO_SUCH;
    }
    int[] kind = what == 0 ? book.villages : book.rests;
    int was = kind[speaker];
    kind[speaker] = n;
    return was;
  }

  public int oneOrTwo(int a, int b) {
    if (!isIn(a, SOUNDS) || !isIn(b, SOUNDS) || a == b) {
      return NO_SUCH;
    }
    if (book.areTwo(a, b)) {
      return 2;
    }
    return book.doMeet(a, b) ? 1 : 0;
  }

  // ---- pieces

  public int note(int d, int kind) {
    if (!isIn(d, SHELVES) || !isIn(kind, Note.KINDS)) {
      return NO_SUCH;
    }
    if (book.noteCount >= NOTES) {
      return NO_ROOM;
    }
    int refusal = shelves[d].refusalOfSounds(1, NOTE_SOUNDS);
    if (refusal != 0) {
      return refusal;
    }
    int number = book.noteCount;
    book.notes[number].become(number, kind, shelves[d]);
    book.used |= 1 << number;
    book.noteCount++;
    return number;
  }

  public int use(int note, boolean is) {
    if (!isIn(note, book.noteCount)) {
      return NO_SUCH;
    }
    int was = book.used;
    book.used = is ? was | 1 << note : was & ~(1 << note);
    return book.used == was ? 0 : 1;
  }

  public int told(int note, int what) {
    if (!isIn(note, book.noteCount) || !isIn(what, 2)) {
      return NO_SUCH;
    }
    return what == 0 ? book.notes[note].lengthTold() : meaningOf(note);
  }

  public int cut(int card, int i) {
    if (!isIn(card, book.cardCount) || i < -1) {
      return NO_SUCH;
    }
    cutter.cutUp(book, book.cards[card]);
    if (i == -1) {
      return cutter.least[0];
    }
    return i < cutter.partCount ? cutter.parts[i] : NONE;
  }

  public int leastList(int what) {
    if (!isIn(what, 2)) {
      return NO_SUCH;
    }
    cutter.findLeastList(book);
    return what == 0 ? cutter.listSum : cutter.listSet;
  }

  // ---- sound rules

  public int fault(int d) {
    if (!isIn(d, SHELVES)) {
      return NO_SUCH;
    }
    int refusal = shelves[d].refusalOfBytes();
    if (refusal != 0) {
      return refusal;
    }
    return draft.isRead(shelves[d]) ? NONE : draft.next;
  }

  public int rule(int d) {
    if (!isIn(d, SHELVES)) {
      return NO_SUCH;
    }
    if (book.ruleCount >= RULES) {
      return NO_ROOM;
    }
    int refusal = shelves[d].refusalOfBytes();
    if (refusal != 0) {
      return refusal;
    }
    if (!draft.isRead(shelves[d])) {
      return FAULTY - draft.next;
    }
    book.rules[book.ruleCount].take(draft);
    book.ruleCount++;
    return book.ruleCount - 1;
  }

  public int heard(int d, int e) {
    if (!isIn(d, SHELVES) || !isIn(e, SHELVES)) {
      return NO_SUCH;
    }
    int refusal = shelves[d].refusalOfSounds(0, ELEMENTS);
    if (refusal != 0) {
      return refusal;
    }
    hearing.takeRow(shelves[d]);
    hearing.hear(book);
    hearing.giveRow(shelves[e]);
    return hearing.size;
  }

  public int deep(int card, int i) {
    if (!isIn(card, book.cardCount) || i < -1) {
      return NO_SUCH;
    }
    hearing.findDeep(book, book.cards[card].sounds);
    if (i == -1) {
      return hearing.foundCount > 0 ? hearing.foundCount : NONE;
    }
    return i < hearing.foundCount ? hearing.found[i] : NONE;
  }

  // ---- sayings

  public int said(int d, int speaker, int hour, boolean good) {
    if (!isIn(d, SHELVES) || !isIn(speaker, SPEAKERS) || !isIn(hour, HOURS)) {
      return NO_SUCH;
    }
    if (book.saidCount >= SAID) {
      return NO_ROOM;
    }
    int refusal = refusalOfSaying(shelves[d]);
    if (refusal != 0) {
      return refusal;
    }
    int fitting = asking.fitting(shelves[d].elements, shelves[d].size);
    Saying next = book.sayings[book.saidCount];
    next.leaves = good ? fitting : Orders.ALL & ~fitting;
    next.speaker = speaker;
    next.hour = hour;
    book.saidCount++;
    return book.saidCount - 1;
  }

  public int orders(int village, int i) {
    if (!isVillageOrAll(village) || i < -1) {
      return NO_SUCH;
    }
    int set = book.setOfOrders(village);
    if (i == -1) {
      return Integer.bitCount(set);
    }
    int seen = 0;
    for (int order = 0; order < ORDERS; order++) {
      if ((set >> order & 1) == 1) {
        if (seen == i) {
          return order;
        }
        seen++;
      }
    }
    return NONE;
  }

  public int fits(int d, int order) {
    if (!isIn(d, SHELVES) || !isIn(order, ORDERS)) {
      return NO_SUCH;
    }
    int refusal = refusalOfSaying(shelves[d]);
    if (refusal != 0) {
      return refusal;
    }
    return asking.fitting(shelves[d].elements, shelves[d].size) >> order & 1;
  }

  public int ask(int village, int what) {
    if (!isVillageOrAll(village) || !isIn(what, 2)) {
      return NO_SUCH;
    }
    int set = book.setOfOrders(village);
    if (Integer.bitCount(set) < 2) {
      return NONE;
    }
    asking.findAsk(set);
    return what == 0 ? asking.asked : asking.leftAtWorst;
  }

  public int who(int village, int hour) {
    if (!isIn(village, VILLAGES) || !isIn(hour, HOURS)) {
      return NO_SUCH;
    }
    int best = NONE;
    int fewest = SAID + 1;
    for (int one = 0; one < SPEAKERS; one++) {
      int often = book.saidBy(one);
      if (book.villages[one] == village && often < fewest && book.isRested(one, hour)) {
        best = one;
        fewest = often;
      }
    }
    return best;
  }

  public int none(int village) {
    if (!isVillageOrAll(village)) {
      return NO_SUCH;
    }
    // A SAYING of another VILLAGE leaves all ORDERS: a set that holds it is never the fewest.
    for (int many = 1; many <= 3; many++) {
      int bits = book.leastWithoutOrder(village, many);
      if (bits != 0) {
        return bits;
      }
    }
    return NONE;
  }

  // ---- readers, neighbours

  public int reader(int known, int most, int i) {
    if (!isIn(known, 1 << NOTES) || !isIn(most, UNKNOWN_NOTES) || i < 0) {
      return NO_SUCH;
    }
    for (int c = i; c < book.cardCount; c++) {
      if (book.cards[c].isCounted()) {
        cutter.cutUp(book, book.cards[c]);
        if (cutter.singles == 0 && Integer.bitCount(cutter.notesIn & ~known) <= most) {
          return c;
        }
      }
    }
    return NONE;
  }

  public int neighbour(int d, int card) {
    if (!isIn(d, SHELVES) || !isIn(card, book.cardCount)) {
      return NO_SUCH;
    }
    if (book.wordCount >= WORDS) {
      return NO_ROOM;
    }
    int refusal = shelves[d].refusalOfSounds(1, CARD_SOUNDS);
    if (refusal != 0) {
      return refusal;
    }
    book.words[book.wordCount].takeRow(shelves[d]);
    book.wordCards[book.wordCount] = card;
    book.wordCount++;
    return book.wordCount - 1;
  }

  public int law(int sound) {
    if (!isIn(sound, SOUNDS)) {
      return NO_SUCH;
    }
    laws.makeAsTold(book);
    return laws.laws[sound];
  }

  public int led(int what) {
    if (!isIn(what, 2)) {
      return NO_SUCH;
    }
    laws.makeAsTold(book);
    return what == 0 ? laws.ledPlaces : laws.ledPairs(book);
  }

  public int odds(int what) {
    if (!isIn(what, 2)) {
      return NO_SUCH;
    }
    if (book.wordCount > DEALT_WORDS) {
      return CANNOT;
    }
    int ways = Laws.waysToDeal(book.wordCount);
    return what == 0 ? laws.countOdds(book, ways) : ways;
  }

  // ---- rights, hearers

  public int bar(int speaker, boolean is) {
    if (!isIn(speaker, SPEAKERS)) {
      return NO_SUCH;
    }
    int from = is ? KEPT : BARRED;
    int changed = 0;
    for (int c = 0; c < book.cardCount; c++) {
      Card one = book.cards[c];
      if (one.speaker == speaker && one.standing == from) {
        one.standing = is ? BARRED : KEPT;
        changed++;
      }
    }
    return changed;
  }

  public int takeBack(int card) {
    if (!isIn(card, book.cardCount)) {
      return NO_SUCH;
    }
    if (book.cards[card].standing == TAKEN_BACK) {
      return 0;
    }
    book.cards[card].standing = TAKEN_BACK;
    return 1;
  }

  public int leaned(int card) {
    if (!isIn(card, book.cardCount)) {
      return NO_SUCH;
    }
    if (!book.cards[card].isCounted()) {
      return 0;
    }
    int elsewhere = 0;
    for (int c = 0; c < book.cardCount; c++) {
      if (c != card && book.cards[c].isCounted()) {
        cutter.cutUp(book, book.cards[c]);
        elsewhere |= cutter.notesIn;
      }
    }
    cutter.cutUp(book, book.cards[card]);
    return cutter.notesIn & ~elsewhere;
  }

  public int weight(int hearer, int what) {
    if (!isIn(hearer, HEARERS) || !isIn(what, 2)) {
      return NO_SUCH;
    }
    int sum = 0;
    for (int c = 0; c < book.cardCount; c++) {
      if (book.cards[c].hearer == hearer) {
        sum += pairsOf(book.cards[c], what == 0);
      }
    }
    return sum;
  }

  // ---- the image, what is told

  public int image() {
    imaged.take(book);
    hasImage = true;
    return book.cardCount;
  }

  public int restore() {
    if (!hasImage) {
      return CANNOT;
    }
    book.take(imaged);
    return book.cardCount;
  }

  public int count(int what) {
    switch (what) {
      case 0: return book.cardCount;
      case 1: return book.keptCards();
      case 2: return book.noteCount;
      case 3: return Integer.bitCount(book.used);
      case 4: return book.ruleCount;
      case 5: return book.saidCount;
      case 6: return book.wordCount;
      case 7: return cardsWithSingles();
      default: return NO_SUCH;
    }
  }

  // ---- shelves

  public int keep(int d, int what, int k) {
    if (!isIn(d, SHELVES) || !isIn(what, 2) || what == 1 && !isIn(k, book.noteCount)) {
      return NO_SUCH;
    }
    if (what == 0) {
      shelves[d].holdNothing();
    } else {
      shelves[d].holdNote(book.notes[k]);
    }
    return 0;
  }

  public int row(int d, int sort, int n) {
    if (!isIn(d, SHELVES) || !isIn(sort, INTS + 1) || n > ELEMENTS) {
      return NO_SUCH;
    }
    if (n < 0) {
      return BELOW_NOTHING;
    }
    shelves[d].holdRow(sort, n);
    return 0;
  }

  public int put(int d, int i, int v) {
    if (!isIn(d, SHELVES)) {
      return NO_SUCH;
    }
    int refusal = shelves[d].refusalOfRow();
    if (refusal != 0) {
      return refusal;
    }
    if (!isIn(i, shelves[d].size)) {
      return NO_PLACE;
    }
    shelves[d].set(i, v);
    return 0;
  }

  public long element(int d, int i) throws IllegalArgumentException, IllegalStateException {
    if (!isIn(d, SHELVES)) {
      throw new IllegalArgumentException("no such shelf");
    }
    if (shelves[d].refusalOfRow() != 0) {
      throw new IllegalStateException("no row");
    }
    if (!isIn(i, shelves[d].size)) {
      throw new IllegalStateException("no such place");
    }
    return shelves[d].elements[i];
  }

  public int copy(int d, int i, int e, int j, int n) {
    if (!isIn(d, SHELVES) || !isIn(e, SHELVES)) {
      return NO_SUCH;
    }
    Shelf from = shelves[d];
    Shelf to = shelves[e];
    if (from.holds == Shelf.NOTHING || to.holds == Shelf.NOTHING) {
      return NOTHING_HELD;
    }
    if (from.holds != Shelf.ROW || to.holds != Shelf.ROW || from.sort != to.sort) {
      return OTHER_KIND;
    }
    if (n < 0 || !from.hasPlaces(i, n) || !to.hasPlaces(j, n)) {
      return NO_PLACE;
    }
    System.arraycopy(from.elements, i, to.elements, j, n);
    return n;
  }

  public int length(int d) {
    if (!isIn(d, SHELVES)) {
      return NO_SUCH;
    }
    int refusal = shelves[d].refusalOfNote();
    return refusal != 0 ? refusal : shelves[d].note.lengthTold();
  }

  public int toss(int d) {
    if (!isIn(d, SHELVES)) {
      return NO_SUCH;
    }
    int refusal = shelves[d].refusalOfNote();
    return refusal != 0 ? refusal : shelves[d].note.failure();
  }

  private static boolean isIn(int n, int size) {
    return n >= 0 && n < size;
  }

  private static boolean isVillageOrAll(int village) {
    return village == Book.ALL_VILLAGES || isIn(village, VILLAGES);
  }

  private static boolean isTold(int told) {
    return isIn(told, 100 * SPEAKERS) && told / 10 % 10 < HEARERS && told % 10 < 2;
  }

  private static int refusalOfSaying(Shelf shelf) {
    int refusal = shelf.refusalOfBytes();
    if (refusal != 0) {
      return refusal;
    }
    return Orders.isSaying(shelf.elements, shelf.size) ? 0 : NO_PLACE;
  }

  private int meaningOf(int note) {
    int common = MEANINGS - 1;
    boolean any = false;
    for (int c = 0; c < book.cardCount; c++) {
      Card one = book.cards[c];
      if (one.isCounted() && one.meaning != 0) {
        cutter.cutUp(book, one);
        if ((cutter.notesIn >> note & 1) == 1) {
          common &= one.meaning;
          any = true;
        }
      }
    }
    return any ? common : NONE;
  }

  private int cardsWithSingles() {
    int many = 0;
    for (int c = 0; c < book.cardCount; c++) {
      if (book.cards[c].isCounted()) {
        cutter.cutUp(book, book.cards[c]);
        if (cutter.singles > 0) {
          many++;
        }
      }
    }
    return many;
  }

  private int pairsOf(Card mine, boolean alikeOnly) {
    int many = 0;
    for (int c = 0; c < book.cardCount; c++) {
      Card other = book.cards[c];
      if (mine.isOtherHearing(other) && (!alikeOnly || mine.sounds.isLike(other.sounds))) {
        many++;
      }
    }
    return many;
  }

  /** A row of up to eight SOUNDS. */
  private static final class Sounds {
    final int[] at = new int[CARD_SOUNDS];
    int size;

    void clear() {
      size = 0;
    }

    void add(int sound) {
      if (size < CARD_SOUNDS) {
        at[size] = sound;
        size++;
      }
    }

    void takeRow(Shelf shelf) {
      clear();
      for (int i = 0; i < shelf.size; i++) {
        add(shelf.elements[i]);
      }
    }

    void take(Sounds other) {
      size = other.size;
      System.arraycopy(other.at, 0, at, 0, CARD_SOUNDS);
    }

    boolean isLike(Sounds other) {
      return size == other.size && other.standsAt(0, this);
    }

    boolean standsAt(int place, Sounds row) {
      if (place + row.size > size) {
        return false;
      }
      for (int i = 0; i < row.size; i++) {
        if (at[place + i] != row.at[i]) {
          return false;
        }
      }
      return true;
    }

    int soundOrEdge(int i) {
      return i >= 0 && i < size ? at[i] : Rule.EDGE;
    }
  }

  private static final class Card {
    final Sounds sounds = new Sounds();
    int meaning;
    int speaker;
    int hearer;
    int hour;
    boolean good;
    int standing;

    boolean isCounted() {
      return good && standing == KEPT;
    }

    boolean isOtherHearing(Card other) {
      return standing == KEPT && other.standing == KEPT
          && speaker == other.speaker && hour == other.hour && hearer != other.hearer;
    }

    boolean differsOnlyBy(Card other, int a, int b) {
      if (sounds.size != other.sounds.size) {
        return false;
      }
      int unlike = 0;
      boolean asAsked = false;
      for (int i = 0; i < sounds.size; i++) {
        int mine = sounds.at[i];
        int theirs = other.sounds.at[i];
        if (mine != theirs) {
          unlike++;
          asAsked = mine == a && theirs == b;
        }
      }
      return unlike == 1 && asAsked;
    }

    void take(Card other) {
      sounds.take(other.sounds);
      meaning = other.meaning;
      speaker = other.speaker;
      hearer = other.hearer;
      hour = other.hour;
      good = other.good;
      standing = other.standing;
    }
  }

  private static final class Note {
    static final int KINDS = 5;
    static final int ROOT = 1;
    static final int END = 2;
    static final int DOUBLED = 3;
    static final int LOAN = 4;

    int number;
    int kind;
    final Sounds told = new Sounds();
    /** The SOUNDS as they stand in a CARD: those of a DOUBLED one twice. */
    final Sounds spoken = new Sounds();

    void become(int itsNumber, int itsKind, Shelf shelf) {
      number = itsNumber;
      kind = itsKind;
      told.takeRow(shelf);
      spoken.take(told);
      if (kind == DOUBLED) {
        for (int i = 0; i < told.size; i++) {
          spoken.add(told.at[i]);
        }
      }
    }

    void take(Note other) {
      number = other.number;
      kind = other.kind;
      told.take(other.told);
      spoken.take(other.spoken);
    }

    int lengthTold() {
      int piece = told.size + 1;
      switch (kind) {
        case ROOT: return piece + 2;
        case DOUBLED: return 2 * piece - 1;
        case LOAN: return piece + 2 + 3;
        default: return piece;
      }
    }

    int failure() {
      if (kind == END || told.size < 2) {
        return NO_FAILURE;
      }
      if (kind == DOUBLED) {
        return told.at[0];
      }
      return kind == LOAN ? number + 100 : number;
    }
  }

  /** A SOUND RULE; a place or a SOUND is told by its code: SOUNDS 0 .. 9, CLASSES from 10 on. */
  private static final class Rule {
    static final int CLASS = SOUNDS;
    static final int EDGE = SOUNDS + CLASSES;
    static final int ANYTHING = EDGE + 1;
    static final int FALLS = EDGE + 2;
    static final int UNREAD = -1;

    int what;
    int becomes;
    int ahead;
    int behind;
    /** While a text is read: the place of the next byte; behind that its FAULT. */
    int next;

    void take(Rule other) {
      what = other.what;
      becomes = other.becomes;
      ahead = other.ahead;
      behind = other.behind;
    }

    /** Whether the text is a RULE: it is read into this one as far as it goes. */
    boolean isRead(Shelf text) {
      next = 0;
      what = readSoundOrClass(text);
      if (what == UNREAD || !readSign(text, '>')) {
        return false;
      }
      becomes = readSign(text, '-') ? FALLS : readDigit(text, SOUNDS);
      if (becomes == UNREAD || !readSign(text, '/')) {
        return false;
      }
      ahead = readPlace(text);
      if (ahead == UNREAD || !readSign(text, '_')) {
        return false;
      }
      behind = readPlace(text);
      return behind != UNREAD && next == text.size;
    }

    private int readPlace(Shelf text) {
      if (readSign(text, '#')) {
        return EDGE;
      }
      return readSign(text, '.') ? ANYTHING : readSoundOrClass(text);
    }

    private int readSoundOrClass(Shelf text) {
      if (!readSign(text, 'C')) {
        return readDigit(text, SOUNDS);
      }
      int itsClass = readDigit(text, CLASSES);
      return itsClass == UNREAD ? UNREAD : CLASS + itsClass;
    }

    private int readDigit(Shelf text, int bound) {
      if (next >= text.size || !isIn(text.elements[next] - '0', bound)) {
        return UNREAD;
      }
      next++;
      return text.elements[next - 1] - '0';
    }

    private boolean readSign(Shelf text, char sign) {
      if (next >= text.size || text.elements[next] != sign) {
        return false;
      }
      next++;
      return true;
    }

    static boolean agrees(int code, int soundOrEdge, int[] classes) {
      if (code == ANYTHING || code == soundOrEdge) {
        return true;
      }
      return isIn(soundOrEdge, SOUNDS) && code == CLASS + classes[soundOrEdge];
    }
  }

  private static final class Saying {
    int speaker;
    int hour;
    /** The ORDERS that it leaves, as bits: those that it FITS, or the others if it was LAUGHED at. */
    int leaves;

    void take(Saying other) {
      speaker = other.speaker;
      hour = other.hour;
      leaves = other.leaves;
    }
  }

  /** All that there is but SHELVES: what THE IMAGE holds, too. */
  private static final class Book {
    static final int ALL_VILLAGES = -1;

    final int[] classes = new int[SOUNDS];
    final int[] villages = new int[SPEAKERS];
    final int[] rests = new int[SPEAKERS];
    final Card[] cards = new Card[CARDS];
    int cardCount;
    final Note[] notes = new Note[NOTES];
    int noteCount;
    int used;
    final Rule[] rules = new Rule[RULES];
    int ruleCount;
    final Saying[] sayings = new Saying[SAID];
    int saidCount;
    final Sounds[] words = new Sounds[WORDS];
    final int[] wordCards = new int[WORDS];
    int wordCount;

    Book() {
      for (int i = 0; i < CARDS; i++) {
        cards[i] = new Card();
      }
      for (int i = 0; i < NOTES; i++) {
        notes[i] = new Note();
      }
      for (int i = 0; i < RULES; i++) {
        rules[i] = new Rule();
      }
      for (int i = 0; i < SAID; i++) {
        sayings[i] = new Saying();
      }
      for (int i = 0; i < WORDS; i++) {
        words[i] = new Sounds();
      }
    }

    void take(Book other) {
      System.arraycopy(other.classes, 0, classes, 0, SOUNDS);
      System.arraycopy(other.villages, 0, villages, 0, SPEAKERS);
      System.arraycopy(other.rests, 0, rests, 0, SPEAKERS);
      System.arraycopy(other.wordCards, 0, wordCards, 0, WORDS);
      cardCount = other.cardCount;
      for (int i = 0; i < cardCount; i++) {
        cards[i].take(other.cards[i]);
      }
      used = other.used;
      noteCount = other.noteCount;
      for (int i = 0; i < noteCount; i++) {
        notes[i].take(other.notes[i]);
      }
      ruleCount = other.ruleCount;
      for (int i = 0; i < ruleCount; i++) {
        rules[i].take(other.rules[i]);
      }
      saidCount = other.saidCount;
      for (int i = 0; i < saidCount; i++) {
        sayings[i].take(other.sayings[i]);
      }
      wordCount = other.wordCount;
      for (int i = 0; i < wordCount; i++) {
        words[i].take(other.words[i]);
      }
    }

    int keptCards() {
      int many = 0;
      for (int c = 0; c < cardCount; c++) {
        if (cards[c].standing == KEPT) {
          many++;
        }
      }
      return many;
    }

    boolean areTwo(int a, int b) {
      for (int c = 0; c < cardCount; c++) {
        for (int e = 0; e < cardCount; e++) {
          if (isToldPair(cards[c], cards[e]) && cards[c].differsOnlyBy(cards[e], a, b)) {
            return true;
          }
        }
      }
      return false;
    }

    private static boolean isToldPair(Card one, Card other) {
      return one.isCounted() && other.isCounted()
          && one.meaning != 0 && other.meaning != 0 && one.meaning != other.meaning;
    }

    boolean doMeet(int a, int b) {
      for (int c = 0; c < cardCount; c++) {
        if (cards[c].isCounted() && meetsFrom(cards[c].sounds, a, b)) {
          return true;
        }
      }
      return false;
    }

    private boolean meetsFrom(Sounds sounds, int a, int b) {
      for (int i = 0; i < sounds.size; i++) {
        if (sounds.at[i] == a
            && isSaidBetween(b, sounds.soundOrEdge(i - 1), sounds.soundOrEdge(i + 1))) {
          return true;
        }
      }
      return false;
    }

    private boolean isSaidBetween(int sound, int ahead, int behind) {
      for (int c = 0; c < cardCount; c++) {
        Sounds sounds = cards[c].sounds;
        for (int i = 0; cards[c].isCounted() && i < sounds.size; i++) {
          if (sounds.at[i] == sound && sounds.soundOrEdge(i - 1) == ahead
              && sounds.soundOrEdge(i + 1) == behind) {
            return true;
          }
        }
      }
      return false;
    }

    int lengthsOf(int noteBits) {
      int sum = 0;
      for (int n = 0; n < noteCount; n++) {
        if ((noteBits >> n & 1) == 1) {
          sum += notes[n].lengthTold();
        }
      }
      return sum;
    }

    int setOfOrders(int village) {
      int set = Orders.ALL;
      for (int k = 0; k < saidCount; k++) {
        set &= leftBy(k, village);
      }
      return set;
    }

    /** The ORDERS that SAID k leaves in a VILLAGE: all, if its SPEAKER is of another one. */
    private int leftBy(int k, int village) {
      boolean counts = village == ALL_VILLAGES || villages[sayings[k].speaker] == village;
      return counts ? sayings[k].leaves : Orders.ALL;
    }

    /** The least set, as bits, of so many SAID (1 .. 3) that leave no ORDER; 0 if there is none. */
    int leastWithoutOrder(int village, int many) {
      for (int c = 0; c < saidCount; c++) {
        int left = leftBy(c, village);
        int others = many == 1 ? (left == 0 ? 0 : -1) : lowestBelow(c, left, village, many - 1);
        if (others >= 0) {
          return others | 1 << c;
        }
      }
      return 0;
    }

    /** The least set of one or two SAID below c that leave none of these ORDERS; -1: none. */
    private int lowestBelow(int c, int left, int village, int many) {
      for (int b = 0; b < c; b++) {
        int leftHere = left & leftBy(b, village);
        if (many == 1 && leftHere == 0) {
          return 1 << b;
        }
        for (int a = 0; many == 2 && a < b; a++) {
          if ((leftHere & leftBy(a, village)) == 0) {
            return 1 << b | 1 << a;
          }
        }
      }
      return -1;
    }

    int saidBy(int speaker) {
      int many = 0;
      for (int k = 0; k < saidCount; k++) {
        if (sayings[k].speaker == speaker) {
          many++;
        }
      }
      return many;
    }

    boolean isRested(int speaker, int hour) {
      for (int k = 0; k < saidCount; k++) {
        if (sayings[k].speaker == speaker && sayings[k].hour + rests[speaker] > hour) {
          return false;
        }
      }
      return true;
    }
  }

  private static final class Shelf {
    static final int NOTHING = 0;
    static final int NOTE = 1;
    static final int ROW = 2;

    int holds = NOTHING;
    /** A NOTE never changes, so a copy of it is as good: it outlives what is RESTORED. */
    final Note note = new Note();
    int sort;
    int size;
    final int[] elements = new int[ELEMENTS];

    void holdNothing() {
      holds = NOTHING;
    }

    void holdNote(Note one) {
      holds = NOTE;
      note.take(one);
    }

    void holdRow(int itsSort, int itsSize) {
      holds = ROW;
      sort = itsSort;
      size = itsSize;
      Arrays.fill(elements, 0);
    }

    void set(int i, int v) {
      if (sort == BYTES) {
        elements[i] = (byte) v;
      } else if (sort == SHORTS) {
        elements[i] = (short) v;
      } else {
        elements[i] = v;
      }
    }

    boolean hasPlaces(int from, int many) {
      return from >= 0 && from <= size && many <= size - from;
    }

    int refusalOfNote() {
      if (holds == NOTHING) {
        return NOTHING_HELD;
      }
      return holds == NOTE ? 0 : OTHER_KIND;
    }

    int refusalOfRow() {
      if (holds == NOTHING) {
        return NOTHING_HELD;
      }
      return holds == ROW ? 0 : OTHER_KIND;
    }

    int refusalOfBytes() {
      int refusal = refusalOfRow();
      if (refusal != 0) {
        return refusal;
      }
      return sort == BYTES ? 0 : OTHER_KIND;
    }

    int refusalOfSounds(int fewest, int most) {
      int refusal = refusalOfBytes();
      if (refusal != 0) {
        return refusal;
      }
      if (size < fewest || size > most) {
        return NO_PLACE;
      }
      for (int i = 0; i < size; i++) {
        if (!isIn(elements[i], SOUNDS)) {
          return NO_PLACE;
        }
      }
      return 0;
    }
  }

  /** Finds LEAST CUTS and THE LEAST LIST. */
  private static final class Cutter {
    static final int NOTE_COST = 2;
    static final int SINGLE_COST = 5;
    static final int SPANS = CARD_SOUNDS + 1;

    /** For each place and each span: NOTES of THE LIST, as bits, that stand there as long. */
    final int[] standing = new int[CARD_SOUNDS * SPANS];
    /** The least cost from each place on. */
    final int[] least = new int[SPANS];
    final int[] parts = new int[CARD_SOUNDS];
    int partCount;
    int notesIn;
    int singles;

    final int[] costs = new int[1 << CHOSEN_NOTES];
    final int[] sums = new int[1 << CHOSEN_NOTES];
    int listSum;
    int listSet;

    void cutUp(Book book, Card card) {
      findStanding(book, card.sounds);
      leastCost(card.sounds.size, book.used);
      chooseParts(card.sounds, book.used);
    }

    /** Answers all NOTES, as bits, that stand anywhere in the row. */
    private int findStanding(Book book, Sounds sounds) {
      Arrays.fill(standing, 0);
      int anywhere = 0;
      for (int n = 0; n < book.noteCount; n++) {
        Sounds spoken = book.notes[n].spoken;
        for (int place = 0; place < sounds.size; place++) {
          if (sounds.standsAt(place, spoken)) {
            standing[place * SPANS + spoken.size] |= 1 << n;
            anywhere |= 1 << n;
          }
        }
      }
      return anywhere;
    }

    private int leastCost(int size, int used) {
      least[size] = 0;
      for (int place = size - 1; place >= 0; place--) {
        int best = least[place + 1] + SINGLE_COST;
        for (int span = 1; place + span <= size; span++) {
          if ((standing[place * SPANS + span] & used) != 0) {
            best = Math.min(best, least[place + span] + NOTE_COST);
          }
        }
        least[place] = best;
      }
      return least[0];
    }

    private void chooseParts(Sounds sounds, int used) {
      partCount = 0;
      notesIn = 0;
      singles = 0;
      int place = 0;
      while (place < sounds.size) {
        int span = longestNote(place, sounds.size, used);
        if (span > 0) {
          int note = Integer.numberOfTrailingZeros(standing[place * SPANS + span] & used);
          parts[partCount] = note;
          notesIn |= 1 << note;
        } else {
          parts[partCount] = SINGLE + sounds.at[place];
          singles++;
        }
        partCount++;
        place += Math.max(span, 1);
      }
    }

    /** The longest span of a NOTE that a way of the least cost begins with; 0: none does. */
    private int longestNote(int place, int size, int used) {
      for (int span = size - place; span > 0; span--) {
        if ((standing[place * SPANS + span] & used) != 0
            && least[place] == least[place + span] + NOTE_COST) {
          return span;
        }
      }
      return 0;
    }

    void findLeastList(Book book) {
      int sets = 1 << Math.min(book.noteCount, CHOSEN_NOTES);
      int others = book.used & ~((1 << CHOSEN_NOTES) - 1);
      for (int set = 0; set < sets; set++) {
        sums[set] = book.lengthsOf(set | others);
      }
      for (int c = 0; c < book.cardCount; c++) {
        if (book.cards[c].isCounted()) {
          addCosts(book, book.cards[c].sounds, sets, others);
        }
      }
      listSet = 0;
      for (int set = 1; set < sets; set++) {
        if (sums[set] < sums[listSet]) {
          listSet = set;
        }
      }
      listSum = sums[listSet];
    }

    private void addCosts(Book book, Sounds sounds, int sets, int others) {
      int anywhere = findStanding(book, sounds);
      for (int set = 0; set < sets; set++) {
        // NOTES that stand nowhere in the CARD leave its cost: the set without them is done already.
        int telling = set & anywhere;
        costs[set] = telling == set ? leastCost(sounds.size, set | others) : costs[telling];
        sums[set] += costs[set];
      }
    }
  }

  /** Does SOUND RULES, and looks for what lies deep. */
  private static final class Hearing {
    static final int DEEPEST = 3;
    static final int NOTE_BITS = 4;
    static final int FALL = 1 << Rule.FALLS;

    final int[] row = new int[ELEMENTS];
    int size;
    final int[] found = new int[DEEPEST];
    int foundCount;
    /** For each SOUND: places of the CARD, as bits, that it could be heard at, and FALL. */
    final int[] chances = new int[SOUNDS];

    void takeRow(Shelf shelf) {
      size = shelf.size;
      System.arraycopy(shelf.elements, 0, row, 0, size);
    }

    void giveRow(Shelf shelf) {
      shelf.holdRow(BYTES, size);
      System.arraycopy(row, 0, shelf.elements, 0, size);
    }

    void hear(Book book) {
      for (int r = 0; r < book.ruleCount; r++) {
        apply(book.rules[r], book.classes);
      }
    }

    private void apply(Rule rule, int[] classes) {
      int kept = 0;
      int ahead = Rule.EDGE;
      for (int i = 0; i < size; i++) {
        int sound = row[i];
        int behind = i + 1 < size ? row[i + 1] : Rule.EDGE;
        boolean changes = Rule.agrees(rule.what, sound, classes)
            && Rule.agrees(rule.ahead, ahead, classes)
            && Rule.agrees(rule.behind, behind, classes);
        ahead = sound;
        if (!changes || rule.becomes != Rule.FALLS) {
          row[kept] = changes ? rule.becomes : sound;
          kept++;
        }
      }
      size = kept;
    }

    void findDeep(Book book, Sounds sounds) {
      findChances(book, sounds);
      for (int many = 1; many <= DEEPEST; many++) {
        for (int way = 0; way < 1 << NOTE_BITS * many; way++) {
          if (isSpelled(book, way, many) && hasChance(sounds.size)) {
            hear(book);
            if (isRowLike(sounds)) {
              foundCount = many;
              return;
            }
          }
        }
      }
      foundCount = 0;
    }

    /** Whether all NOTES of a way (four bits each, the first the highest) are USED: their row. */
    private boolean isSpelled(Book book, int way, int many) {
      size = 0;
      for (int k = 0; k < many; k++) {
        int note = way >> NOTE_BITS * (many - 1 - k) & NOTES - 1;
        if ((book.used >> note & 1) == 0) {
          return false;
        }
        found[k] = note;
        Sounds spoken = book.notes[note].spoken;
        System.arraycopy(spoken.at, 0, row, size, spoken.size);
        size += spoken.size;
      }
      return true;
    }

    private void findChances(Book book, Sounds sounds) {
      for (int sound = 0; sound < SOUNDS; sound++) {
        int outcomes = outcomesOf(sound, book);
        chances[sound] = outcomes & FALL;
        for (int place = 0; place < sounds.size; place++) {
          if ((outcomes >> sounds.at[place] & 1) == 1) {
            chances[sound] |= 1 << place;
          }
        }
      }
    }

    /** What RULES could make of a SOUND if each was done or not: SOUNDS, as bits, and FALL. */
    private static int outcomesOf(int sound, Book book) {
      int outcomes = 1 << sound;
      for (int r = 0; r < book.ruleCount; r++) {
        for (int one = 0; one < SOUNDS; one++) {
          if ((outcomes >> one & 1) == 1 && Rule.agrees(book.rules[r].what, one, book.classes)) {
            outcomes |= 1 << book.rules[r].becomes;
          }
        }
      }
      return outcomes;
    }

    /** Whether the row could be heard as the CARD, wherever RULES fit: hearing it out is dear. */
    private boolean hasChance(int cardSize) {
      // The places of the CARD, as bits, up to which what lies ahead in the row could be heard.
      int reached = 1;
      for (int i = 0; i < size; i++) {
        int chance = chances[row[i]];
        int fallen = (chance & FALL) != 0 ? reached : 0;
        reached = fallen | (reached & chance) << 1;
      }
      return (reached >> cardSize & 1) == 1;
    }

    private boolean isRowLike(Sounds sounds) {
      if (size != sounds.size) {
        return false;
      }
      for (int i = 0; i < size; i++) {
        if (row[i] != sounds.at[i]) {
          return false;
        }
      }
      return true;
    }
  }

  /** The 24 ORDERS, which SAYINGS FIT them, and the SAYING to ask. */
  private static final class Orders {
    static final int ALL = (1 << ORDERS) - 1;

    /** For each two parts: the ORDERS, as bits, in which the one stands ahead of the other. */
    final int[] before = new int[PARTS * PARTS];
    final int[] parts = new int[PARTS];
    int asked;
    int leftAtWorst;

    Orders() {
      int order = 0;
      for (int number = 0; number < 1 << 2 * PARTS; number++) {
        spell(number, PARTS);
        if (isSaying(parts, PARTS)) {
          addOrder(order);
          order++;
        }
      }
    }

    private void addOrder(int order) {
      for (int i = 0; i < PARTS; i++) {
        for (int j = i + 1; j < PARTS; j++) {
          before[parts[i] * PARTS + parts[j]] |= 1 << order;
        }
      }
    }

    /** Parts become the digits of a number to the base 4, the highest ahead. */
    private void spell(int number, int many) {
      for (int k = 0; k < many; k++) {
        parts[k] = number >> 2 * (many - 1 - k) & PARTS - 1;
      }
    }

    static boolean isSaying(int[] row, int size) {
      if (size < 1 || size > PARTS) {
        return false;
      }
      int seen = 0;
      for (int i = 0; i < size; i++) {
        if (!isIn(row[i], PARTS) || (seen >> row[i] & 1) == 1) {
          return false;
        }
        seen |= 1 << row[i];
      }
      return true;
    }

    int fitting(int[] row, int size) {
      int set = ALL;
      for (int i = 1; i < size; i++) {
        set &= before[row[i - 1] * PARTS + row[i]];
      }
      return set;
    }

    void findAsk(int set) {
      leftAtWorst = ORDERS + 1;
      for (int many = 2; many <= PARTS; many++) {
        for (int number = 0; number < 1 << 2 * many; number++) {
          spell(number, many);
          if (isSaying(parts, many)) {
            weigh(set, many);
          }
        }
      }
    }

    private void weigh(int set, int many) {
      int fit = Integer.bitCount(set & fitting(parts, many));
      int worst = Math.max(fit, Integer.bitCount(set) - fit);
      if (worst < leftAtWorst) {
        leftAtWorst = worst;
        asked = 0;
        for (int k = many - 1; k >= 0; k--) {
          asked = asked * 5 + parts[k] + 1;
        }
      }
    }
  }

  /** LAWS of SOUND, and ODDS. */
  private static final class Laws {
    /** For each SOUND of ours and each of theirs: the places that have both. */
    final int[] places = new int[SOUNDS * SOUNDS];
    final int[] laws = new int[SOUNDS];
    int ledPlaces;
    /** For each CARD of a pair: the number of the WORD dealt to it. */
    final int[] dealt = new int[WORDS];

    void makeAsTold(Book book) {
      for (int pair = 0; pair < book.wordCount; pair++) {
        dealt[pair] = pair;
      }
      make(book);
    }

    private void make(Book book) {
      Arrays.fill(places, 0);
      for (int pair = 0; pair < book.wordCount; pair++) {
        Sounds ours = book.cards[book.wordCards[pair]].sounds;
        Sounds theirs = book.words[dealt[pair]];
        for (int i = 0; ours.size == theirs.size && i < ours.size; i++) {
          places[ours.at[i] * SOUNDS + theirs.at[i]]++;
        }
      }
      ledPlaces = 0;
      for (int ours = 0; ours < SOUNDS; ours++) {
        findLaw(ours);
      }
    }

    private void findLaw(int ours) {
      int most = 0;
      laws[ours] = NONE;
      for (int theirs = 0; theirs < SOUNDS; theirs++) {
        if (places[ours * SOUNDS + theirs] > most) {
          most = places[ours * SOUNDS + theirs];
          laws[ours] = theirs;
        }
      }
      ledPlaces += most;
    }

    int ledPairs(Book book) {
      int many = 0;
      for (int pair = 0; pair < book.wordCount; pair++) {
        if (isLed(book.cards[book.wordCards[pair]].sounds, book.words[pair])) {
          many++;
        }
      }
      return many;
    }

    private boolean isLed(Sounds ours, Sounds theirs) {
      if (ours.size != theirs.size) {
        return false;
      }
      for (int i = 0; i < ours.size; i++) {
        if (laws[ours.at[i]] != theirs.at[i]) {
          return false;
        }
      }
      return true;
    }

    static int waysToDeal(int words) {
      int ways = 1;
      for (int n = 2; n <= words; n++) {
        ways *= n;
      }
      return ways;
    }

    int countOdds(Book book, int ways) {
      makeAsTold(book);
      int now = ledPlaces;
      int many = 0;
      for (int way = 0; way < ways; way++) {
        make(book);
        if (ledPlaces >= now) {
          many++;
        }
        dealAnew(book.wordCount);
      }
      return many;
    }

    /** The next way to deal, by numbers; behind the last one nothing changes. */
    private void dealAnew(int words) {
      int turn = words - 2;
      while (turn >= 0 && dealt[turn] > dealt[turn + 1]) {
        turn--;
      }
      if (turn < 0) {
        return;
      }
      int other = words - 1;
      while (other > turn && dealt[other] < dealt[turn]) {
        other--;
      }
      swap(turn, other);
      int low = turn + 1;
      for (int high = words - 1; low < high; high--) {
        swap(low, high);
        low++;
      }
    }

    private void swap(int i, int j) {
      int was = dealt[i];
      dealt[i] = dealt[j];
      dealt[j] = was;
    }
  }
}
