import java.util.ArrayList;
import java.util.List;

/**
 * "A refused call changes nothing.": what an object answers after a refused call is what one just
 * like it answers that was not called. It is asked in parts, each on an object of its own, for an
 * object serves 512 calls.
 */
public final class ChangesNothingTest extends Bench {
  private static final String REFUSED = "A refused call changes nothing.";
  private static final int NO_SHELF = -1001;
  private static final int NO_PLACE = -1002;

  private interface Scene {
    TongueBook make();
  }

  private interface Call {
    long on(TongueBook x);
  }

  private interface Part {
    void ask(TongueBook x, List<Long> answers);
  }

  private static final Part[] PARTS = {
      (x, all) -> askCards(x, all, 0), (x, all) -> askCards(x, all, 20),
      ChangesNothingTest::askNotes, ChangesNothingTest::askCuts, ChangesNothingTest::askSpeakers,
      ChangesNothingTest::askSayings, ChangesNothingTest::askWords, ChangesNothingTest::askRules};

  private static final Scene MIDWAY = ChangesNothingTest::midway;
  private static final Scene FULL = ChangesNothingTest::full;
  private static final Scene FRESH = TongueBook::new;

  public static void main(String[] args) {
    refusedCards();
    refusedNumbers();
    refusedNotes();
    refusedRules();
    refusedSayings();
    refusedReaders();
    refusedRights();
    refusedKeep();
    refusedRows();
    refusedNotesHeld();
    asked();
    end("ChangesNothingTest");
  }

  // ---- scenes

  /** Something of each kind, an image that is otherwise, and each kind of shelf. */
  private static TongueBook midway() {
    TongueBook x = new TongueBook();
    addCard(x, 3, 1, 5, 1, 2, 1);
    addCard(x, 5, 111, 5, 1, 3);
    piece(x, 1, 2);
    addRule(x, "1>2/._.");
    say(x, 1, 5, true, 0, 1);
    addWord(x, 0, 4, 5, 4);
    x.classOf(1, 2);
    x.speaker(1, 0, 2);
    x.speaker(1, 1, 9);
    x.image();
    addCard(x, 6, 101, 5, 1, 3);
    addCard(x, 1, 200, 7, 2);
    addCard(x, 1, 301, 7, 1);
    x.takeBack(4);
    x.bar(2, true);
    addNote(x, 3, 1);
    addNote(x, 4, 3);
    x.use(2, false);
    addRule(x, "C2>-/#_.");
    say(x, 2, 50, false, 3, 2, 1);
    addWord(x, 1, 6, 7);
    x.classOf(3, 1);
    x.speaker(2, 0, 1);
    return shelved(x);
  }

  /** As many of each kind as there may be, and an image of fewer. */
  private static TongueBook full() {
    TongueBook x = new TongueBook();
    fill(x, 3, 2, 1, 2, 2);
    x.image();
    fill(x, 40, 16, 8, 20, 10);
    return shelved(x);
  }

  private static void fill(TongueBook x, int cards, int notes, int rules, int said, int words) {
    bytes(x, 0, 1, 2);
    for (int c = x.count(0); c < cards; c++) {
      x.put(0, 0, 1 + c % 4);
      x.card(0, 1 + c, 100 * (c % 8) + 10 * (c % 4) + 1, c);
    }
    for (int n = x.count(2); n < notes; n++) {
      x.put(0, 0, n % 5);
      x.note(0, n % 5);
    }
    for (int w = x.count(6); w < words; w++) {
      x.neighbour(0, w);
    }
    bytes(x, 0, 0, 1);
    for (int k = x.count(5); k < said; k++) {
      x.said(0, k % 8, k, true);
    }
    text(x, 0, "1>2/._.");
    for (int r = x.count(4); r < rules; r++) {
      x.rule(0);
    }
  }

  /** SHELF 0 nothing, 1 a NOTE, 2 shorts, 3 ints, 4 no element, 5 and 6 no SOUNDS, 7 three SOUNDS. */
  private static TongueBook shelved(TongueBook x) {
    row(x, 2, 1, 300, 2, 3);
    row(x, 3, 2, 70000, 2, 3);
    bytes(x, 4);
    bytes(x, 5, 1, 2, 3, 1, 2, 3, 1, 2, 3);
    bytes(x, 6, 2, 10, 1);
    bytes(x, 7, 3, 2, 1);
    x.keep(1, 1, 0);
    x.keep(0, 0, 0);
    return x;
  }

  // ---- what is asked

  private static void askCards(TongueBook x, List<Long> all, int from) {
    for (int what = 0; what < 8; what++) {
      all.add((long) x.count(what));
    }
    for (int c = from; c < from + 20; c++) {
      for (int what = 0; what < 7; what++) {
        all.add((long) x.about(c, what));
      }
      for (int i = 0; i < 4; i++) {
        all.add((long) x.sound(c, i));
      }
    }
  }

  private static void askNotes(TongueBook x, List<Long> all) {
    for (int n = 0; n < 16; n++) {
      all.add((long) x.told(n, 0));
      all.add((long) x.told(n, 1));
    }
    all.add((long) x.leastList(0));
    all.add((long) x.leastList(1));
    for (int c = 0; c < 10; c++) {
      all.add((long) x.leaned(c));
      all.add((long) x.reader(1, 1, c));
    }
    for (int n = 0; n < 16; n++) {
      all.add((long) x.use(n, true));
    }
  }

  private static void askCuts(TongueBook x, List<Long> all) {
    for (int c = 0; c < 40; c++) {
      for (int i = -1; i < 4; i++) {
        all.add((long) x.cut(c, i));
      }
    }
    for (int c = 0; c < 5; c++) {
      all.add((long) x.deep(c, -1));
      all.add((long) x.deep(c, 0));
      all.add((long) x.deep(c, 1));
    }
  }

  private static void askSpeakers(TongueBook x, List<Long> all) {
    for (int a = 0; a < 10; a++) {
      for (int b = 0; b < a; b++) {
        all.add((long) x.oneOrTwo(a, b));
      }
    }
    for (int sound = 0; sound < 10; sound++) {
      all.add((long) x.classOf(sound, 0));
    }
    for (int speaker = 0; speaker < 8; speaker++) {
      all.add((long) x.speaker(speaker, 0, 0));
      all.add((long) x.speaker(speaker, 1, 0));
      all.add((long) x.bar(speaker, false));
    }
  }

  private static void askSayings(TongueBook x, List<Long> all) {
    for (int village = -1; village < 4; village++) {
      for (int i = -1; i < 24; i++) {
        all.add((long) x.orders(village, i));
      }
      all.add((long) x.ask(village, 0));
      all.add((long) x.none(village));
      for (int hour = 0; hour < 60; hour += 7) {
        all.add((long) x.who(village, hour));
      }
    }
  }

  private static void askWords(TongueBook x, List<Long> all) {
    for (int sound = 0; sound < 10; sound++) {
      all.add((long) x.law(sound));
    }
    for (int what = 0; what < 2; what++) {
      all.add((long) x.led(what));
      all.add((long) x.odds(what));
      for (int hearer = 0; hearer < 4; hearer++) {
        all.add((long) x.weight(hearer, what));
      }
    }
  }

  private static void askRules(TongueBook x, List<Long> all) {
    String[] rows = {"0123456789", "1", "1122331", "321"};
    for (String row : rows) {
      bytes(x, 0, digits(row));
      all.add((long) x.heard(0, 0));
      for (int i = 0; i < row.length(); i++) {
        all.add(elementOf(x, 0, i));
      }
    }
  }

  private static void askShelves(TongueBook x, List<Long> all) {
    for (int d = 0; d < 8; d++) {
      all.add((long) x.length(d));
      all.add((long) x.toss(d));
      all.add((long) x.copy(d, 0, 7, 0, 0));
    }
    for (int d = 7; d >= 0; d--) {
      for (int i = 0; i < 12; i++) {
        all.add(elementOf(x, d, i));
      }
    }
  }

  private static long elementOf(TongueBook x, int d, int i) {
    try {
      return x.element(d, i);
    } catch (IllegalArgumentException e) {
      return NO_SHELF;
    } catch (IllegalStateException e) {
      return NO_PLACE;
    }
  }

  // ---- the comparison

  private static List<Long> answers(Scene scene, Call call, long want, Part part, boolean isRestored) {
    TongueBook x = scene.make();
    if (call != null) {
      long got = call.on(x);
      if (want != Long.MIN_VALUE) {
        due(want, got);
      }
    }
    List<Long> all = new ArrayList<>();
    if (isRestored) {
      all.add((long) x.restore());
    }
    part.ask(x, all);
    return all;
  }

  private static void duePart(Scene scene, Call call, long want, Part part, boolean isRestored) {
    List<Long> otherwise = answers(scene, null, 0, part, isRestored);
    due(1, otherwise.equals(answers(scene, call, want, part, isRestored)) ? 1 : 0);
  }

  private static void dueSame(Scene scene, Call call, long want) {
    for (Part part : PARTS) {
      duePart(scene, call, want, part, false);
      duePart(scene, call, want, part, true);
    }
    duePart(scene, call, want, ChangesNothingTest::askShelves, false);
  }

  private static void refused(int promise, Scene scene, long want, Call... calls) {
    String name = scene == FULL ? "full" : scene == FRESH ? "new" : "midway";
    holds(promise, REFUSED, "answer " + want + " of an object that is " + name, () -> {
      for (Call call : calls) {
        dueSame(scene, call, want);
      }
    });
  }

  // ---- refused calls, promise by promise

  private static void refusedCards() {
    refused(2, MIDWAY, -1, x -> x.card(8, 1, 1, 1), x -> x.card(7, 1024, 1, 1), x -> x.card(7, 1, 2, 1),
        x -> x.card(7, 1, 800, 1), x -> x.card(7, 1, 1, 1000), x -> x.card(-1, 1, 1, 1));
    refused(2, FULL, -2, x -> x.card(7, 1, 1, 1), x -> x.card(6, 1, 1, 1));
    refused(2, MIDWAY, -11, x -> x.card(0, 1, 1, 1));
    refused(2, MIDWAY, -12, x -> x.card(1, 1, 1, 1), x -> x.card(2, 1, 1, 1), x -> x.card(3, 1, 1, 1));
    refused(2, MIDWAY, -13, x -> x.card(4, 1, 1, 1), x -> x.card(5, 1, 1, 1), x -> x.card(6, 1, 1, 1));
    refused(2, FRESH, -11, x -> x.card(0, 1, 1, 1));
  }

  private static void refusedNumbers() {
    refused(3, MIDWAY, -1, x -> x.about(5, 0), x -> x.about(0, 7));
    refused(4, MIDWAY, -1, x -> x.sound(5, 0), x -> x.sound(0, 3));
    refused(5, MIDWAY, -1, x -> x.classOf(10, 1), x -> x.classOf(-1, 1), x -> x.classOf(1, 4),
        x -> x.classOf(1, -1));
    refused(6, MIDWAY, -1, x -> x.speaker(8, 0, 1), x -> x.speaker(1, 2, 1), x -> x.speaker(1, 0, 4),
        x -> x.speaker(1, 1, 100), x -> x.speaker(1, 0, -1), x -> x.speaker(1, 1, -1));
    refused(7, MIDWAY, -1, x -> x.oneOrTwo(1, 1), x -> x.oneOrTwo(10, 1));
  }

  private static void refusedNotes() {
    refused(8, MIDWAY, -1, x -> x.note(8, 0), x -> x.note(7, 5), x -> x.note(7, -1));
    refused(8, FULL, -2, x -> x.note(7, 0), x -> x.note(0, 0));
    refused(8, MIDWAY, -11, x -> x.note(0, 0));
    refused(8, MIDWAY, -12, x -> x.note(1, 0), x -> x.note(2, 0), x -> x.note(3, 0));
    refused(8, MIDWAY, -13, x -> x.note(4, 0), x -> x.note(5, 0), x -> x.note(6, 3));
    refused(9, MIDWAY, -1, x -> x.use(3, true), x -> x.use(-1, true), x -> x.use(34, true),
        x -> x.use(3, false), x -> x.use(32, false));
    refused(9, FULL, -1, x -> x.use(16, false), x -> x.use(32, false), x -> x.use(-32, false));
    refused(10, MIDWAY, -1, x -> x.told(3, 0), x -> x.told(0, 2));
    refused(10, MIDWAY, -4, x -> x.told(2, 1));
    refused(11, MIDWAY, -1, x -> x.cut(5, 0), x -> x.cut(0, -2));
    refused(11, MIDWAY, -4, x -> x.cut(0, 8));
    refused(12, MIDWAY, -1, x -> x.leastList(2), x -> x.leastList(-1));
  }

  private static void refusedRules() {
    refused(13, MIDWAY, -1, x -> x.fault(8));
    refused(13, MIDWAY, -11, x -> x.fault(0));
    refused(13, MIDWAY, -12, x -> x.fault(1), x -> x.fault(2));
    refused(14, MIDWAY, -1, x -> x.rule(8), x -> x.rule(-1));
    refused(14, FULL, -2, x -> x.rule(7), x -> x.rule(0));
    refused(14, MIDWAY, -11, x -> x.rule(0));
    refused(14, MIDWAY, -12, x -> x.rule(1), x -> x.rule(2), x -> x.rule(3));
    refused(14, MIDWAY, -100, x -> x.rule(4));
    refused(14, () -> {
      TongueBook x = midway();
      text(x, 5, "3>9/._");
      return x;
    }, -106, x -> x.rule(5));
    refused(15, MIDWAY, -1, x -> x.heard(8, 7), x -> x.heard(7, 8), x -> x.heard(7, -1));
    refused(15, MIDWAY, -11, x -> x.heard(0, 7), x -> x.heard(0, 1));
    refused(15, MIDWAY, -12, x -> x.heard(1, 7), x -> x.heard(2, 7), x -> x.heard(3, 3));
    refused(15, MIDWAY, -13, x -> x.heard(6, 7), x -> x.heard(6, 6), x -> x.heard(6, 1));
    refused(16, MIDWAY, -1, x -> x.deep(5, -1), x -> x.deep(0, -2));
    refused(16, MIDWAY, -4, x -> x.deep(0, -1), x -> x.deep(0, 0));
  }

  private static void refusedSayings() {
    refused(17, MIDWAY, -1, x -> x.said(8, 0, 0, true), x -> x.said(7, 8, 0, true),
        x -> x.said(7, 0, 1000, true), x -> x.said(7, 0, -1, false));
    refused(17, FULL, -2, x -> x.said(7, 0, 999, false), x -> x.said(0, 0, 0, true));
    refused(17, MIDWAY, -11, x -> x.said(0, 0, 0, true));
    refused(17, MIDWAY, -12, x -> x.said(1, 0, 0, true), x -> x.said(2, 0, 0, true));
    refused(17, MIDWAY, -13, x -> x.said(4, 0, 0, true), x -> x.said(5, 0, 0, false),
        x -> x.said(6, 0, 0, false));
    refused(18, MIDWAY, -1, x -> x.orders(4, 0), x -> x.orders(0, -2));
    refused(18, MIDWAY, -4, x -> x.orders(-1, 23), x -> x.orders(0, 24));
    refused(19, MIDWAY, -1, x -> x.fits(8, 0), x -> x.fits(7, 24));
    refused(19, MIDWAY, -13, x -> x.fits(4, 0), x -> x.fits(6, 0));
    refused(20, MIDWAY, -1, x -> x.ask(4, 0), x -> x.ask(0, 2));
    refused(20, () -> {
      TongueBook x = midway();
      say(x, 3, 9, false, 3);
      return shelved(x);
    }, -4, x -> x.ask(-1, 0), x -> x.ask(0, 1));
    refused(21, MIDWAY, -1, x -> x.who(4, 0), x -> x.who(0, 1000));
    refused(21, MIDWAY, -4, x -> x.who(3, 0), x -> x.who(1, 49));
    refused(22, MIDWAY, -1, x -> x.none(4), x -> x.none(-2));
    refused(22, MIDWAY, -4, x -> x.none(-1), x -> x.none(3));
  }

  private static void refusedReaders() {
    refused(23, MIDWAY, -1, x -> x.reader(65536, 0, 0), x -> x.reader(0, 10, 0), x -> x.reader(-1, 0, 0));
    refused(23, MIDWAY, -4, x -> x.reader(0, 0, 40));
    refused(24, MIDWAY, -1, x -> x.neighbour(8, 0), x -> x.neighbour(7, 5), x -> x.neighbour(7, -1));
    refused(24, FULL, -2, x -> x.neighbour(7, 39), x -> x.neighbour(0, 39));
    refused(24, MIDWAY, -11, x -> x.neighbour(0, 0));
    refused(24, MIDWAY, -12, x -> x.neighbour(1, 0), x -> x.neighbour(2, 0), x -> x.neighbour(3, 0));
    refused(24, MIDWAY, -13, x -> x.neighbour(4, 0), x -> x.neighbour(5, 0), x -> x.neighbour(6, 0));
    refused(25, MIDWAY, -1, x -> x.law(10), x -> x.law(-1));
    refused(25, MIDWAY, -4, x -> x.law(9));
    refused(26, MIDWAY, -1, x -> x.led(2), x -> x.led(-1));
    refused(27, MIDWAY, -1, x -> x.odds(2), x -> x.odds(-1));
    refused(27, FULL, -3, x -> x.odds(0), x -> x.odds(1));
  }

  private static void refusedRights() {
    refused(28, MIDWAY, -1, x -> x.bar(8, true), x -> x.bar(-1, true), x -> x.bar(8, false));
    refused(29, MIDWAY, -1, x -> x.takeBack(5), x -> x.takeBack(-1));
    refused(29, FULL, -1, x -> x.takeBack(40), x -> x.takeBack(-1));
    refused(30, MIDWAY, -1, x -> x.leaned(5), x -> x.leaned(-1));
    refused(31, MIDWAY, -1, x -> x.weight(4, 0), x -> x.weight(0, 2));
    refused(33, FRESH, -3, x -> x.restore());
    refused(33, () -> {
      TongueBook x = new TongueBook();
      good(x, 1, 1, 2);
      piece(x, 1);
      addRule(x, "1>2/._.");
      say(x, 1, 1, true, 0, 1);
      addWord(x, 0, 1, 2);
      return shelved(x);
    }, -3, x -> x.restore());
    refused(34, MIDWAY, -1, x -> x.count(8), x -> x.count(-1));
  }

  private static void refusedKeep() {
    refused(35, MIDWAY, -1, x -> x.keep(8, 0, 0), x -> x.keep(7, 2, 0), x -> x.keep(1, -1, 0),
        x -> x.keep(7, 1, 3), x -> x.keep(1, 1, -1), x -> x.keep(0, 1, 16));
  }

  private static void refusedRows() {
    refused(36, MIDWAY, -1, x -> x.row(8, 0, 1), x -> x.row(7, 3, 1), x -> x.row(1, -1, 1),
        x -> x.row(7, 0, 81), x -> x.row(0, 0, 81));
    refused(36, MIDWAY, -14, x -> x.row(7, 0, -1), x -> x.row(1, 1, -1), x -> x.row(0, 2, -1));
    refused(37, MIDWAY, -1, x -> x.put(8, 0, 9), x -> x.put(-1, 0, 9));
    refused(37, MIDWAY, -11, x -> x.put(0, 0, 9));
    refused(37, MIDWAY, -12, x -> x.put(1, 0, 9));
    refused(37, MIDWAY, -13, x -> x.put(7, 3, 9), x -> x.put(7, -1, 9), x -> x.put(4, 0, 9));
    refused(38, MIDWAY, NO_SHELF, x -> elementOf(x, 8, 0), x -> elementOf(x, -1, 0));
    refused(38, MIDWAY, NO_PLACE, x -> elementOf(x, 0, 0), x -> elementOf(x, 1, 0), x -> elementOf(x, 7, 3),
        x -> elementOf(x, 7, -1));
    refused(39, MIDWAY, -1, x -> x.copy(7, 0, 8, 0, 1), x -> x.copy(-1, 0, 7, 0, 1));
    refused(39, MIDWAY, -11, x -> x.copy(7, 0, 0, 0, 1), x -> x.copy(0, 0, 7, 0, 1));
    refused(39, MIDWAY, -12, x -> x.copy(7, 0, 1, 0, 1), x -> x.copy(2, 0, 7, 0, 1),
        x -> x.copy(7, 0, 3, 0, 1), x -> x.copy(1, 0, 7, 0, 1));
    refused(39, MIDWAY, -13, x -> x.copy(7, 0, 5, 7, 3), x -> x.copy(5, 7, 7, 0, 3),
        x -> x.copy(7, -1, 5, 0, 2), x -> x.copy(7, 0, 5, -1, 2), x -> x.copy(7, 0, 7, 1, 3),
        x -> x.copy(5, 0, 7, 0, -1));
  }

  private static void refusedNotesHeld() {
    refused(40, MIDWAY, -1, x -> x.length(8), x -> x.length(-1));
    refused(40, MIDWAY, -11, x -> x.length(0));
    refused(40, MIDWAY, -12, x -> x.length(7), x -> x.length(3));
    refused(41, MIDWAY, -1, x -> x.toss(8), x -> x.toss(-1));
    refused(41, MIDWAY, -11, x -> x.toss(0));
    refused(41, MIDWAY, -12, x -> x.toss(7), x -> x.toss(4));
    refused(41, () -> {
      TongueBook x = midway();
      x.keep(1, 1, 1);
      return x;
    }, -15, x -> x.toss(1));
  }

  // ---- calls that ask, and are answered, change nothing either

  private static void asked(int promise, String words, Call call) {
    holds(promise, words, "to ask changes nothing", () -> dueSame(MIDWAY, call, Long.MIN_VALUE));
  }

  private static void asked() {
    asked(3, "Of a CARD", x -> x.about(0, 6));
    asked(4, "SOUND i of a CARD", x -> x.sound(0, 0));
    asked(7, "Two unlike SOUNDS", x -> x.oneOrTwo(1, 2));
    asked(10, "LENGTH of a NOTE", x -> x.told(0, 1));
    asked(11, "LEAST CUT of a CARD", x -> x.cut(2, -1));
    asked(12, "THE LEAST LIST", x -> x.leastList(0));
    asked(13, "The FAULT of the text", x -> x.fault(7));
    asked(16, "DEEP of a CARD", x -> x.deep(0, -1));
    asked(18, "THE SET of a VILLAGE", x -> x.orders(-1, 0));
    asked(19, "FITS an ORDER", x -> x.fits(7, 0));
    asked(20, "ASK of a VILLAGE", x -> x.ask(-1, 0));
    asked(21, "WHO in a VILLAGE", x -> x.who(0, 0));
    asked(22, "NONE of a VILLAGE", x -> x.none(-1));
    asked(23, "A READER for one who knows NOTES", x -> x.reader(0, 9, 0));
    asked(25, "The LAW of a SOUND", x -> x.law(1));
    asked(26, "LED: how many places", x -> x.led(1));
    asked(27, "ODDS: in how many ways", x -> x.odds(0));
    asked(30, "LEANED on a CARD", x -> x.leaned(0));
    asked(31, "HEARERS' WEIGHT", x -> x.weight(0, 1));
    asked(34, "0 CARDS, 1 those KEPT", x -> x.count(7));
    asked(38, "Element i of the ROW", x -> elementOf(x, 7, 0));
    asked(40, "LENGTH of the NOTE on SHELF d", x -> x.length(1));
    asked(41, "The FAILURE of the NOTE on SHELF d", x -> x.toss(1));
    holds(32, "THE IMAGE is taken", "nothing else is otherwise", () -> {
      for (Part part : PARTS) {
        duePart(MIDWAY, TongueBook::image, 5, part, false);
      }
      duePart(MIDWAY, TongueBook::image, 5, ChangesNothingTest::askShelves, false);
    });
  }
}
