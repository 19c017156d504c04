/** The boundaries that promises 28 to 34 name: rights, hearers, the image, what is told. */
public final class BoundaryRightsTest extends Bench {
  public static void main(String[] args) {
    bar();
    takeBack();
    leanedNumbers();
    leanedNotes();
    weightNumbers();
    weightPairs();
    image();
    restoreNumbers();
    restoreAll();
    restoreShelves();
    countNumbers();
    countFull();
    end("BoundaryRightsTest", 28, 34);
  }

  private static void bar() {
    holds(28, "-1", "speakers 0 and 7, not -1 nor 8", () -> {
      TongueBook x = new TongueBook();
      addCard(x, 0, 1, 0, 1);
      addCard(x, 0, 701, 0, 1);
      int[] none = {-1, 8, 9, LOWEST, HIGHEST};
      for (int speaker : none) {
        due(-1, x.bar(speaker, true));
        due(-1, x.bar(speaker, false));
      }
      due(1, x.bar(0, true));
      due(1, x.bar(7, true));
      due(1, x.bar(0, false));
      due(1, x.bar(7, false));
    });
    holds(28, "how many are otherwise then", "no card yet, none of this speaker", () -> {
      TongueBook x = new TongueBook();
      due(0, x.bar(0, true));
      due(0, x.bar(0, false));
      good(x, 0, 1);
      due(0, x.bar(1, true));
      due(0, x.bar(1, false));
      due(0, x.about(0, 6));
    });
    holds(28, "how many are otherwise then", "all 40, then none once more", () -> {
      TongueBook x = new TongueBook();
      bytes(x, 0, 1);
      for (int c = 0; c < 40; c++) {
        x.card(0, 0, 300 + c % 2, 0);
      }
      due(40, x.bar(3, true));
      due(0, x.bar(3, true));
      due(0, x.count(1));
      due(40, x.bar(3, false));
      due(0, x.bar(3, false));
      due(40, x.count(1));
    });
    holds(28, "A SPEAKER's CARDS are BARRED (true), or KEPT again", "those of others are not", () -> {
      TongueBook x = new TongueBook();
      addCard(x, 0, 101, 0, 1);
      addCard(x, 0, 201, 0, 1);
      addCard(x, 0, 111, 0, 1);
      due(2, x.bar(1, true));
      due(1, x.about(0, 6));
      due(0, x.about(1, 6));
      due(1, x.about(2, 6));
      due(0, x.bar(2, false));
      due(2, x.bar(1, false));
      due(0, x.about(0, 6));
      due(0, x.about(2, 6));
    });
    holds(28, "or not any more (not those TAKEN BACK)", "neither way", () -> {
      TongueBook x = new TongueBook();
      good(x, 0, 1);
      good(x, 0, 1);
      x.takeBack(0);
      due(1, x.bar(0, true));
      due(2, x.about(0, 6));
      x.takeBack(1);
      due(0, x.bar(0, false));
      due(2, x.about(1, 6));
      due(0, x.bar(0, true));
      due(2, x.about(0, 6));
    });
  }

  private static void takeBack() {
    holds(29, "-1", "no card yet", () -> {
      TongueBook x = new TongueBook();
      due(-1, x.takeBack(0));
      due(-1, x.takeBack(-1));
    });
    holds(29, "-1", "the last card, not the one behind it", () -> {
      TongueBook x = new TongueBook();
      good(x, 0, 1);
      good(x, 0, 1);
      int[] none = {-1, 2, 39, 40, LOWEST, HIGHEST};
      for (int card : none) {
        due(-1, x.takeBack(card));
      }
      due(2, x.count(1));
      due(1, x.takeBack(1));
      due(1, x.takeBack(0));
      due(0, x.count(1));
    });
    holds(29, "1; 0 it was", "from kept, from barred, and once more", () -> {
      TongueBook x = new TongueBook();
      good(x, 0, 1);
      addCard(x, 0, 101, 0, 1);
      x.bar(1, true);
      due(1, x.takeBack(0));
      due(0, x.takeBack(0));
      due(1, x.takeBack(1));
      due(0, x.takeBack(1));
      due(2, x.about(0, 6));
      due(2, x.about(1, 6));
    });
    holds(29, "A CARD may be TAKEN BACK for good", "its number and what it tells stay", () -> {
      TongueBook x = new TongueBook();
      addCard(x, 5, 731, 9, 4);
      x.takeBack(0);
      x.bar(7, true);
      x.bar(7, false);
      due(2, x.about(0, 6));
      due(1, x.count(0));
      due(0, x.count(1));
      due(5, x.about(0, 1));
      due(4, x.sound(0, 0));
      due(1, good(x, 0, 1));
    });
  }

  private static void leanedNumbers() {
    holds(30, "-1", "no card yet", () -> {
      TongueBook x = new TongueBook();
      due(-1, x.leaned(0));
      due(-1, x.leaned(-1));
    });
    holds(30, "-1", "the last card, not the one behind it", () -> {
      TongueBook x = new TongueBook();
      piece(x, 1);
      good(x, 0, 2);
      good(x, 0, 1);
      int[] none = {-1, 2, 39, 40, LOWEST, HIGHEST};
      for (int card : none) {
        due(-1, x.leaned(card));
      }
      due(0, x.leaned(0));
      due(1, x.leaned(1));
    });
    holds(30, "and in that of no other KEPT GOOD CARD: bits", "none, notes 0 and 15", () -> {
      TongueBook x = new TongueBook();
      good(x, 0, 1, 2, 3);
      due(0, x.leaned(0));
      piece(x, 1);
      for (int n = 1; n < 15; n++) {
        piece(x, 9);
      }
      piece(x, 2);
      due(1 << 15 | 1, x.leaned(0));
      good(x, 0, 2);
      due(1, x.leaned(0));
      due(0, x.leaned(1));
      good(x, 0, 1);
      due(0, x.leaned(0));
    });
  }

  private static void leanedNotes() {
    holds(30, "NOTES that are in its LEAST CUT, if it is KEPT and GOOD", "else none", () -> {
      TongueBook x = new TongueBook();
      piece(x, 1);
      piece(x, 2);
      addCard(x, 0, 101, 0, 1);
      laughed(x, 0, 2);
      due(1, x.leaned(0));
      due(0, x.leaned(1));
      x.bar(1, true);
      due(0, x.leaned(0));
      x.bar(1, false);
      due(1, x.leaned(0));
      x.takeBack(0);
      due(0, x.leaned(0));
    });
    holds(30, "and in that of no other KEPT GOOD CARD", "others do not matter", () -> {
      TongueBook x = new TongueBook();
      piece(x, 1);
      good(x, 0, 1, 1);
      laughed(x, 0, 1);
      due(1, x.leaned(0));
      addCard(x, 0, 101, 0, 1);
      due(0, x.leaned(0));
      due(0, x.leaned(2));
      x.bar(1, true);
      due(1, x.leaned(0));
      x.bar(1, false);
      due(0, x.leaned(0));
      x.takeBack(2);
      due(1, x.leaned(0));
    });
    holds(30, "and in that of no other KEPT GOOD CARD", "the first and the last of 40", () -> {
      TongueBook x = new TongueBook();
      piece(x, 1);
      piece(x, 2);
      good(x, 0, 1);
      bytes(x, 0, 3);
      for (int c = 1; c < 39; c++) {
        due(c, x.card(0, 0, 1, 0));
      }
      good(x, 0, 2);
      due(1, x.leaned(0));
      due(2, x.leaned(39));
      due(0, x.leaned(20));
      x.use(1, false);
      due(0, x.leaned(39));
    });
    holds(30, "NOTES that are in its LEAST CUT", "not those that could stand there", () -> {
      TongueBook x = new TongueBook();
      piece(x, 1);
      piece(x, 1, 2);
      good(x, 0, 1, 2);
      due(2, x.leaned(0));
      x.use(1, false);
      due(1, x.leaned(0));
    });
  }

  private static void weightNumbers() {
    holds(31, "-1", "hearers 0 and 3, not -1 nor 4", () -> {
      TongueBook x = new TongueBook();
      addCard(x, 0, 1, 0, 1);
      addCard(x, 0, 31, 0, 1);
      int[] none = {-1, 4, 5, LOWEST, HIGHEST};
      for (int hearer : none) {
        due(-1, x.weight(hearer, 0));
        due(-1, x.weight(hearer, 1));
      }
      due(1, x.weight(0, 1));
      due(0, x.weight(1, 1));
      due(0, x.weight(2, 1));
      due(1, x.weight(3, 1));
    });
    holds(31, "alike (what 0), all (1)", "not what -1 nor 2", () -> {
      TongueBook x = new TongueBook();
      int[] none = {-1, 2, 3, LOWEST, HIGHEST};
      for (int what : none) {
        due(-1, x.weight(0, what));
      }
      addCard(x, 0, 1, 0, 1);
      addCard(x, 0, 31, 0, 2);
      due(0, x.weight(0, 0));
      due(1, x.weight(0, 1));
    });
    holds(31, "pairs of KEPT CARDS", "no card, and one alone", () -> {
      TongueBook x = new TongueBook();
      for (int hearer = 0; hearer < 4; hearer++) {
        due(0, x.weight(hearer, 0));
        due(0, x.weight(hearer, 1));
      }
      good(x, 0, 1);
      due(0, x.weight(0, 0));
      due(0, x.weight(0, 1));
      due(0, x.weight(1, 1));
    });
    holds(31, "how many of these pairs are alike (all SOUNDS), and how many there are", "of 40 cards", () -> {
      TongueBook x = new TongueBook();
      bytes(x, 0, 1);
      for (int c = 0; c < 40; c++) {
        due(c, x.card(0, 0, 701 + 10 * (c % 2), 999));
      }
      due(400, x.weight(0, 0));
      due(400, x.weight(0, 1));
      due(400, x.weight(1, 0));
      due(0, x.weight(2, 1));
    });
  }

  private static void weightPairs() {
    holds(31, "of one SPEAKER in one HOUR", "not of another one, nor an hour off", () -> {
      TongueBook x = new TongueBook();
      addCard(x, 0, 101, 5, 1);
      addCard(x, 0, 211, 5, 1);
      addCard(x, 0, 111, 4, 1);
      addCard(x, 0, 111, 6, 1);
      due(0, x.weight(0, 1));
      due(0, x.weight(1, 1));
      addCard(x, 0, 111, 5, 1);
      due(1, x.weight(0, 1));
      due(1, x.weight(1, 1));
    });
    holds(31, "one by that HEARER, one by another", "not both by that one, nor both by others", () -> {
      TongueBook x = new TongueBook();
      addCard(x, 0, 1, 5, 1);
      addCard(x, 0, 1, 5, 1);
      due(0, x.weight(0, 1));
      addCard(x, 0, 11, 5, 1);
      due(2, x.weight(0, 1));
      addCard(x, 0, 21, 5, 1);
      due(4, x.weight(0, 1));
      due(3, x.weight(1, 1));
      due(3, x.weight(2, 1));
      due(0, x.weight(3, 1));
    });
    holds(31, "alike (all SOUNDS)", "unlike in the last one, or longer by one", () -> {
      TongueBook x = new TongueBook();
      addCard(x, 0, 1, 5, 1, 2, 3, 4, 5, 6, 7, 8);
      addCard(x, 0, 11, 5, 1, 2, 3, 4, 5, 6, 7, 9);
      due(0, x.weight(0, 0));
      due(1, x.weight(0, 1));
      addCard(x, 0, 11, 5, 1, 2, 3, 4, 5, 6, 7);
      addCard(x, 0, 11, 5, 9, 2, 3, 4, 5, 6, 7, 8);
      due(0, x.weight(0, 0));
      due(3, x.weight(0, 1));
      addCard(x, 0, 11, 5, 1, 2, 3, 4, 5, 6, 7, 8);
      due(1, x.weight(0, 0));
      due(4, x.weight(0, 1));
    });
    holds(31, "pairs of KEPT CARDS", "laughed at too, not barred nor taken back", () -> {
      TongueBook x = new TongueBook();
      addCard(x, 1, 0, 5, 1);
      addCard(x, 2, 11, 5, 1);
      due(1, x.weight(0, 0));
      due(1, x.weight(0, 1));
      due(1, x.weight(1, 0));
      x.bar(0, true);
      due(0, x.weight(0, 0));
      due(0, x.weight(0, 1));
      x.bar(0, false);
      due(1, x.weight(0, 1));
      x.takeBack(1);
      due(0, x.weight(0, 1));
      due(0, x.weight(1, 1));
      addCard(x, 2, 21, 5, 1);
      due(1, x.weight(0, 1));
      due(0, x.weight(1, 1));
    });
  }

  private static void image() {
    holds(32, "how many CARDS", "none, and 40", () -> {
      TongueBook x = new TongueBook();
      due(0, x.image());
      bytes(x, 0, 1);
      for (int c = 0; c < 40; c++) {
        x.card(0, 0, 1, 0);
      }
      due(40, x.image());
      x.takeBack(0);
      x.bar(0, true);
      due(40, x.image());
    });
    holds(32, "THE IMAGE is taken", "there is one of nothing, too", () -> {
      TongueBook x = new TongueBook();
      due(-3, x.restore());
      due(0, x.image());
      due(0, x.restore());
      good(x, 0, 1);
      due(0, x.restore());
      due(0, x.count(0));
    });
    holds(32, "THE IMAGE is taken", "the later one takes the place of the one ahead", () -> {
      TongueBook x = new TongueBook();
      due(0, x.image());
      good(x, 0, 1);
      due(1, x.image());
      good(x, 0, 2);
      due(1, x.restore());
      due(1, x.count(0));
      due(-1, x.sound(1, 0));
    });
    holds(32, "THE IMAGE is taken", "nothing else is otherwise", () -> {
      TongueBook x = new TongueBook();
      good(x, 5, 1);
      piece(x, 1);
      bytes(x, 3, 4);
      due(1, x.image());
      due(1, x.count(0));
      due(1, x.count(3));
      due(2, x.cut(0, -1));
      dueRow(x, 3, 4);
    });
  }

  private static void restoreNumbers() {
    holds(33, "-3: there is none", "until one is taken, and never after", () -> {
      TongueBook x = new TongueBook();
      due(-3, x.restore());
      good(x, 0, 1);
      due(-3, x.restore());
      due(1, x.count(0));
      due(1, x.image());
      due(1, x.restore());
      due(1, x.restore());
    });
    holds(33, "how many CARDS", "as many as then: none, and 40", () -> {
      TongueBook x = new TongueBook();
      x.image();
      bytes(x, 0, 1);
      for (int c = 0; c < 40; c++) {
        x.card(0, 0, 1, 0);
      }
      due(0, x.restore());
      due(0, x.count(0));
      for (int c = 0; c < 40; c++) {
        due(c, x.card(0, 0, 1, 0));
      }
      due(40, x.image());
      x.takeBack(39);
      due(40, x.restore());
      due(40, x.count(1));
      due(-2, x.card(0, 0, 1, 0));
    });
    holds(33, "all that there is, but SHELVES (and THE IMAGE)", "it may be restored again", () -> {
      TongueBook x = new TongueBook();
      good(x, 0, 1);
      x.image();
      for (int round = 0; round < 3; round++) {
        due(1, good(x, 0, 2 + round));
        piece(x, 1);
        due(1, x.restore());
        due(1, x.count(0));
        due(0, x.count(2));
        due(-1, x.about(1, 0));
      }
    });
  }

  private static void restoreAll() {
    String words = "RESTORED all is as it was then";
    holds(33, words, "classes, villages, rests", () -> {
      TongueBook x = new TongueBook();
      x.classOf(0, 1);
      x.classOf(9, 3);
      x.speaker(0, 0, 1);
      x.speaker(7, 0, 3);
      x.speaker(0, 1, 2);
      x.speaker(7, 1, 99);
      x.image();
      x.classOf(0, 0);
      x.classOf(9, 0);
      x.speaker(0, 0, 0);
      x.speaker(7, 0, 0);
      x.speaker(0, 1, 0);
      x.speaker(7, 1, 0);
      x.restore();
      due(1, x.classOf(0, 0));
      due(3, x.classOf(9, 0));
      due(1, x.speaker(0, 0, 0));
      due(3, x.speaker(7, 0, 0));
      due(2, x.speaker(0, 1, 0));
      due(99, x.speaker(7, 1, 0));
    });
    holds(33, words, "cards, and how they are", () -> {
      TongueBook x = new TongueBook();
      addCard(x, 3, 731, 999, 1, 2, 3, 4, 5, 6, 7, 8);
      addCard(x, 5, 100, 4, 9);
      good(x, 0, 6);
      x.bar(7, true);
      x.takeBack(1);
      x.image();
      x.bar(7, false);
      x.takeBack(2);
      due(3, good(x, 0, 7));
      due(3, x.restore());
      int[][] all = {{8, 3, 7, 3, 999, 1, 1}, {1, 5, 1, 0, 4, 0, 2}, {1, 0, 0, 0, 0, 1, 0}};
      for (int c = 0; c < 3; c++) {
        for (int what = 0; what < 7; what++) {
          due(all[c][what], x.about(c, what));
        }
      }
      due(8, x.sound(0, 7));
      due(9, x.sound(1, 0));
      due(-1, x.about(3, 0));
    });
    holds(33, words, "numbers go on from there, over what came after", () -> {
      TongueBook x = new TongueBook();
      piece(x, 1);
      x.image();
      good(x, 9, 8, 8);
      piece(x, 2, 2);
      addRule(x, "1>2/._.");
      say(x, 0, 0, false, 1);
      addWord(x, 0, 3, 3);
      x.takeBack(0);
      due(0, x.restore());
      due(0, addCard(x, 1, 111, 7, 1));
      due(0, x.about(0, 6));
      due(1, addNote(x, 4, 3));
      due(0, addRule(x, "1>3/._."));
      due(0, say(x, 1, 5, true, 0, 1));
      due(0, addWord(x, 0, 4));
      due(1, x.about(0, 1));
      due(1, x.sound(0, 0));
      due(7, x.told(1, 0));
      hears(x, "1", "3");
      due(12, x.orders(-1, -1));
      due(4, x.law(1));
      due(-4, x.law(8));
    });
    restoreParts(words);
  }

  private static void restoreParts(String words) {
    holds(33, words, "notes, and whether they are used", () -> {
      TongueBook x = new TongueBook();
      good(x, 0, 1, 2);
      addNote(x, 1, 1);
      addNote(x, 2, 2);
      x.use(1, false);
      x.image();
      x.use(0, false);
      x.use(1, true);
      piece(x, 1, 2);
      x.restore();
      due(2, x.count(2));
      due(1, x.count(3));
      due(0, x.cut(0, 0));
      due(102, x.cut(0, 1));
      due(4, x.told(0, 0));
      due(2, x.told(1, 0));
      due(-1, x.told(2, 0));
    });
    holds(33, words, "rules", () -> {
      TongueBook x = new TongueBook();
      addRule(x, "C0>2/#_.");
      x.image();
      addRule(x, "2>3/._.");
      hears(x, "111", "311");
      x.restore();
      due(1, x.count(4));
      hears(x, "111", "211");
    });
    holds(33, words, "what is said", () -> {
      TongueBook x = new TongueBook();
      say(x, 3, 50, true, 0, 1);
      say(x, 4, 60, false, 2, 3);
      x.image();
      say(x, 3, 70, false, 0, 1);
      due(0, x.orders(-1, -1));
      x.restore();
      due(2, x.count(5));
      due(6, x.orders(-1, -1));
      for (int speaker = 0; speaker < 8; speaker++) {
        x.speaker(speaker, 0, speaker == 3 ? 1 : 2);
      }
      due(-4, x.who(1, 49));
      due(3, x.who(1, 50));
      due(12, x.orders(1, -1));
    });
    holds(33, words, "neighbours' words, and their cards", () -> {
      TongueBook x = new TongueBook();
      good(x, 0, 1);
      good(x, 0, 2);
      addWord(x, 1, 7);
      x.image();
      addWord(x, 0, 8);
      addWord(x, 1, 5);
      due(8, x.law(1));
      due(5, x.law(2));
      x.restore();
      due(1, x.count(6));
      due(-4, x.law(1));
      due(7, x.law(2));
      due(1, x.odds(1));
    });
  }

  private static void restoreShelves() {
    holds(33, "all that there is, but SHELVES", "rows stay as they are", () -> {
      TongueBook x = new TongueBook();
      row(x, 0, 1, 300, 301);
      x.image();
      x.put(0, 1, 302);
      bytes(x, 1, 4);
      x.restore();
      dueRow(x, 0, 300, 302);
      dueRow(x, 1, 4);
    });
    holds(33, "all that there is, but SHELVES", "a note stays on its shelf, though not in the list", () -> {
      TongueBook x = new TongueBook();
      x.image();
      addNote(x, 4, 8, 9);
      x.keep(0, 1, 0);
      x.restore();
      due(0, x.count(2));
      due(-1, x.told(0, 0));
      due(8, x.length(0));
      due(100, x.toss(0));
      due(0, piece(x, 1));
      due(8, x.length(0));
      due(2, x.told(0, 0));
    });
    holds(33, "all that there is, but SHELVES", "what is held or not stays", () -> {
      TongueBook x = new TongueBook();
      piece(x, 1);
      x.keep(0, 1, 0);
      x.image();
      x.keep(0, 0, 0);
      x.keep(1, 1, 0);
      x.restore();
      due(-11, x.length(0));
      due(2, x.length(1));
    });
  }

  private static void countNumbers() {
    holds(34, "-1 for others", "what 0 to 7, not -1 nor 8", () -> {
      TongueBook x = new TongueBook();
      int[] none = {-1, 8, 9, LOWEST, HIGHEST};
      for (int what : none) {
        due(-1, x.count(what));
      }
      for (int what = 0; what < 8; what++) {
        due(0, x.count(what));
      }
    });
    holds(34, "0 CARDS, 1 those KEPT", "barred and taken back are cards", () -> {
      TongueBook x = new TongueBook();
      good(x, 0, 1);
      addCard(x, 0, 100, 0, 1);
      addCard(x, 0, 201, 0, 1);
      due(3, x.count(0));
      due(3, x.count(1));
      x.bar(1, true);
      due(2, x.count(1));
      x.takeBack(0);
      due(1, x.count(1));
      x.takeBack(2);
      due(0, x.count(1));
      x.bar(1, false);
      due(1, x.count(1));
      due(3, x.count(0));
    });
    holds(34, "2 NOTES, 3 those USED", "one more, one fewer", () -> {
      TongueBook x = new TongueBook();
      piece(x, 1);
      due(1, x.count(2));
      due(1, x.count(3));
      x.use(0, false);
      due(1, x.count(2));
      due(0, x.count(3));
      piece(x, 1);
      due(2, x.count(2));
      due(1, x.count(3));
    });
    holds(34, "7 KEPT GOOD CARDS whose LEAST CUT has a single SOUND", "one is enough", () -> {
      TongueBook x = new TongueBook();
      piece(x, 1);
      addCard(x, 0, 101, 0, 1, 1, 2);
      due(1, x.count(7));
      laughed(x, 0, 2);
      good(x, 0, 1, 1, 1, 1, 1, 1, 1, 1);
      due(1, x.count(7));
      x.bar(1, true);
      due(0, x.count(7));
      x.use(0, false);
      due(1, x.count(7));
      x.bar(1, false);
      due(2, x.count(7));
      x.takeBack(2);
      due(1, x.count(7));
    });
  }

  private static void countFull() {
    holds(34, "0 CARDS, 1 those KEPT", "all there may be", () -> {
      TongueBook x = new TongueBook();
      bytes(x, 0, 1);
      for (int c = 0; c < 41; c++) {
        x.card(0, 0, 1, 0);
      }
      due(40, x.count(0));
      due(40, x.count(1));
      due(40, x.count(7));
      for (int n = 0; n < 17; n++) {
        x.note(0, 0);
      }
      due(16, x.count(2));
      due(16, x.count(3));
      due(0, x.count(7));
      for (int w = 0; w < 11; w++) {
        x.neighbour(0, 0);
      }
      due(10, x.count(6));
      for (int k = 0; k < 21; k++) {
        x.said(0, 0, 0, true);
      }
      due(20, x.count(5));
      text(x, 0, "1>2/._.");
      for (int r = 0; r < 9; r++) {
        x.rule(0);
      }
      due(8, x.count(4));
    });
    holds(34, "4 RULES, 5 SAID, 6 NEIGHBOURS' WORDS", "one each", () -> {
      TongueBook x = new TongueBook();
      addRule(x, "1>2/._.");
      due(1, x.count(4));
      due(0, x.count(5));
      say(x, 0, 0, true, 1);
      due(1, x.count(5));
      due(0, x.count(6));
      good(x, 0, 1);
      addWord(x, 0, 1);
      due(1, x.count(6));
      due(1, x.count(4));
    });
  }
}
