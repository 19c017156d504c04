/** The boundaries that promises 1 to 7 name: cards, speakers, sounds. */
public final class BoundaryCardsTest extends Bench {
  public static void main(String[] args) {
    newObject();
    cardNumbers();
    cardRows();
    about();
    sound();
    classOf();
    speaker();
    oneOrTwoNumbers();
    two();
    meet();
    end("BoundaryCardsTest", 1, 7);
  }

  private static void newObject() {
    String words = "No CARDS, NOTES, RULES.";
    holds(1, words, "no card", () -> {
      TongueBook x = new TongueBook();
      due(0, x.count(0));
      due(0, x.count(1));
      due(0, x.count(7));
      due(-1, x.about(0, 0));
      due(0, good(x, 0, 1));
    });
    holds(1, words, "no note", () -> {
      TongueBook x = new TongueBook();
      due(0, x.count(2));
      due(0, x.count(3));
      due(-1, x.told(0, 0));
      due(-1, x.keep(0, 1, 0));
      due(0, piece(x, 1));
    });
    holds(1, words, "no rule", () -> {
      TongueBook x = new TongueBook();
      due(0, x.count(4));
      hears(x, "0123456789", "0123456789");
      due(0, addRule(x, "1>2/._."));
    });
    holds(1, words, "none of another object's", () -> {
      TongueBook other = new TongueBook();
      good(other, 0, 1);
      piece(other, 1);
      addRule(other, "1>2/._.");
      say(other, 0, 0, true, 1);
      addWord(other, 0, 1);
      other.classOf(1, 1);
      other.speaker(1, 0, 1);
      other.image();
      TongueBook x = new TongueBook();
      for (int what = 0; what < 8; what++) {
        due(0, x.count(what));
      }
      due(0, x.classOf(1, 0));
      due(0, x.speaker(1, 0, 0));
      due(-11, x.length(7));
      due(-3, x.restore());
    });
    atFirst();
  }

  private static void atFirst() {
    holds(1, "each of a CLASS 0 .. 3 (told; 0 at first)", "class 0 at first", () -> {
      TongueBook x = new TongueBook();
      for (int sound = 0; sound < 10; sound++) {
        due(0, x.classOf(sound, 3));
      }
    });
    holds(1, "each of a CLASS 0 .. 3 (told; 0 at first)", "class 0 as rules see it", () -> {
      TongueBook x = new TongueBook();
      addRule(x, "C0>9/._.");
      addRule(x, "C1>8/._.");
      hears(x, "0123456789", "9999999999");
    });
    holds(1, "have a VILLAGE (0 .. 3; 0 at first)", "village 0 at first", () -> {
      TongueBook x = new TongueBook();
      for (int speaker = 0; speaker < 8; speaker++) {
        due(speaker, x.who(0, 0));
        due(0, x.speaker(speaker, 0, 3));
      }
      due(-4, x.who(0, 0));
    });
    holds(1, "and REST (0 .. 99 HOURS; 0 at first)", "rest 0 at first", () -> {
      TongueBook x = new TongueBook();
      for (int speaker = 0; speaker < 8; speaker++) {
        due(0, x.speaker(speaker, 1, 99));
      }
    });
    holds(1, "SHELVES 0 .. 7 each hold nothing (at first)", "all eight", () -> {
      TongueBook x = new TongueBook();
      for (int d = 0; d < 8; d++) {
        due(-11, x.length(d));
        due(-11, x.put(d, 0, 0));
        dueElement("IllegalStateException", x, d, 0);
      }
    });
  }

  private static void cardNumbers() {
    holds(2, "CARDS 0 .. 39 as they come", "its number: 0 first, 39 last", () -> {
      TongueBook x = new TongueBook();
      bytes(x, 0, 1);
      for (int c = 0; c < 40; c++) {
        due(c, x.card(0, 1, 1, 1));
        due(c + 1, x.count(0));
      }
      due(1, x.sound(39, 0));
    });
    holds(2, "-2", "no room for one more than 40", () -> {
      TongueBook x = new TongueBook();
      bytes(x, 0, 1);
      for (int c = 0; c < 40; c++) {
        due(c, x.card(0, 1, 1, 1));
      }
      due(-2, x.card(0, 1, 1, 1));
      due(-2, x.card(0, 1, 1, 1));
      due(40, x.count(0));
    });
    holds(2, "-2", "what is barred or taken back gives no room", () -> {
      TongueBook x = new TongueBook();
      bytes(x, 0, 1);
      for (int c = 0; c < 40; c++) {
        due(c, x.card(0, 1, 1, 1));
      }
      x.takeBack(39);
      x.bar(0, true);
      due(-2, x.card(0, 1, 1, 1));
    });
    holds(2, "-1", "shelves 0 and 7, not -1 nor 8", () -> {
      TongueBook x = new TongueBook();
      dueNoShelf(d -> x.card(d, 1, 1, 1));
      bytes(x, 0, 1);
      bytes(x, 7, 2);
      due(0, x.card(0, 1, 1, 1));
      due(1, x.card(7, 1, 1, 1));
      due(1, x.sound(0, 0));
      due(2, x.sound(1, 0));
    });
    holds(2, "a MEANING (bits 0 .. 9; 0: none told)", "0 and 1023, not -1 nor 1024", () -> {
      TongueBook x = new TongueBook();
      bytes(x, 0, 1);
      int[] none = {-1, 1024, 1025, 2048, LOWEST, HIGHEST};
      for (int meaning : none) {
        due(-1, x.card(0, meaning, 1, 1));
      }
      due(0, x.card(0, 0, 1, 1));
      due(1, x.card(0, 1023, 1, 1));
      due(1023, x.about(1, 1));
    });
    holds(2, "an HOUR (0 .. 999)", "0 and 999, not -1 nor 1000", () -> {
      TongueBook x = new TongueBook();
      bytes(x, 0, 1);
      int[] none = {-1, 1000, LOWEST, HIGHEST};
      for (int hour : none) {
        due(-1, x.card(0, 1, 1, hour));
      }
      due(0, x.card(0, 1, 1, 0));
      due(1, x.card(0, 1, 1, 999));
      due(999, x.about(1, 4));
    });
    cardTold();
  }

  private static void cardTold() {
    String words = "(told: 100 times SPEAKER, 10 times HEARER, and 1 if GOOD, 0 if LAUGHED at)";
    holds(2, words, "each that is so told", () -> {
      for (int speaker = 0; speaker < 8; speaker++) {
        TongueBook x = new TongueBook();
        bytes(x, 0, 1);
        for (int k = 0; k < 8; k++) {
          due(k, x.card(0, 1, 100 * speaker + 10 * (k / 2) + k % 2, 1));
          due(speaker, x.about(k, 2));
          due(k / 2, x.about(k, 3));
          due(k % 2, x.about(k, 5));
        }
      }
    });
    holds(2, words, "-1 for all that are not", () -> {
      TongueBook x = new TongueBook();
      for (int told = -120; told < 1000; told++) {
        if (told % 400 == 0) {
          x = new TongueBook();
        }
        boolean isRight = told >= 0 && told < 800 && told / 10 % 10 < 4 && told % 10 < 2;
        due(isRight ? -11 : -1, x.card(0, 1, told, 1));
      }
      due(-1, x.card(0, 1, LOWEST, 1));
      due(-1, x.card(0, 1, HIGHEST, 1));
    });
  }

  private static void cardRows() {
    holds(2, "-11", "nothing is held", () -> {
      TongueBook x = new TongueBook();
      dueNothingHeld(x, d -> x.card(d, 1, 1, 1));
    });
    holds(2, "-12 (no ROW of bytes)", "shorts, ints, a note", () -> {
      TongueBook x = new TongueBook();
      piece(x, 1);
      dueOtherKind(x, d -> x.card(d, 1, 1, 1), 1, 2);
      dueOtherKind(x, d -> x.card(d, 1, 1, 1), 77);
    });
    holds(2, "-13: not 1 .. 8", "1 and 8, not 0 nor 9", () -> {
      TongueBook x = new TongueBook();
      bytes(x, 0);
      due(-13, x.card(0, 1, 1, 1));
      bytes(x, 0, many(9, 1));
      due(-13, x.card(0, 1, 1, 1));
      bytes(x, 0, many(80, 1));
      due(-13, x.card(0, 1, 1, 1));
      for (int size = 1; size <= 8; size++) {
        bytes(x, 0, many(size, 1));
        due(size - 1, x.card(0, 1, 1, 1));
        due(size, x.about(size - 1, 0));
      }
    });
    holds(2, "one no SOUND", "at each place", () -> {
      TongueBook x = new TongueBook();
      dueNoSound(x, d -> x.card(d, 1, 1, 1), 8);
      TongueBook y = new TongueBook();
      dueNoSound(y, d -> y.card(d, 1, 1, 1), 1);
      due(0, x.count(0));
    });
    holds(2, "SOUNDS 0 .. 9", "0 and 9 are", () -> {
      TongueBook x = new TongueBook();
      due(0, good(x, 0, 0));
      due(1, good(x, 0, 9));
      due(2, good(x, 0, 9, 8, 7, 6, 3, 2, 1, 0));
      due(9, x.sound(2, 0));
      due(0, x.sound(2, 7));
    });
    holds(2, "what is put in keeps its lowest bits", "a byte that wraps round to a sound", () -> {
      TongueBook x = new TongueBook();
      due(0, good(x, 0, 256, 265, -247));
      due(0, x.sound(0, 0));
      due(9, x.sound(0, 1));
      due(9, x.sound(0, 2));
      due(-13, good(x, 0, 266));
      due(-13, good(x, 0, 255));
    });
    holds(2, "is a CARD's SOUNDS", "as they were, whatever the row becomes", () -> {
      TongueBook x = new TongueBook();
      bytes(x, 0, 1, 2);
      due(0, x.card(0, 1, 1, 1));
      x.put(0, 0, 5);
      due(1, x.sound(0, 0));
      bytes(x, 0, 3);
      due(2, x.about(0, 0));
      due(2, x.sound(0, 1));
    });
  }

  private static void about() {
    holds(3, "-1", "no card yet", () -> {
      TongueBook x = new TongueBook();
      for (int what = 0; what < 7; what++) {
        due(-1, x.about(0, what));
      }
    });
    holds(3, "-1", "the last card, not the one behind it", () -> {
      TongueBook x = new TongueBook();
      bytes(x, 0, 1);
      for (int c = 0; c < 40; c++) {
        due(-1, x.about(c, 0));
        due(c, x.card(0, 1, 1, 1));
        due(1, x.about(c, 0));
      }
      int[] none = {-1, 40, 41, LOWEST, HIGHEST};
      for (int card : none) {
        due(-1, x.about(card, 0));
      }
    });
    holds(3, "0 how many SOUNDS", "what 0 to 6, not -1 nor 7", () -> {
      TongueBook x = new TongueBook();
      good(x, 0, 1);
      due(1, x.about(0, 0));
      due(0, x.about(0, 6));
      int[] none = {-1, 7, 8, LOWEST, HIGHEST};
      for (int what : none) {
        due(-1, x.about(0, what));
      }
    });
    holds(3, "1 MEANING, 2 SPEAKER, 3 HEARER, 4 HOUR, 5 GOOD (1)", "the least and the greatest", () -> {
      TongueBook x = new TongueBook();
      addCard(x, 1023, 731, 999, 0, 1, 2, 3, 4, 5, 6, 7);
      addCard(x, 0, 0, 0, 9);
      int[][] all = {{8, 1023, 7, 3, 999, 1, 0}, {1, 0, 0, 0, 0, 0, 0}};
      for (int c = 0; c < 2; c++) {
        for (int what = 0; what < 7; what++) {
          due(all[c][what], x.about(c, what));
        }
      }
    });
    holds(3, "0 KEPT, 1 BARRED, 2 TAKEN BACK", "each", () -> {
      TongueBook x = new TongueBook();
      good(x, 0, 1);
      due(0, x.about(0, 6));
      x.bar(0, true);
      due(1, x.about(0, 6));
      x.bar(0, false);
      due(0, x.about(0, 6));
      x.takeBack(0);
      due(2, x.about(0, 6));
      x.bar(0, true);
      due(2, x.about(0, 6));
    });
  }

  private static void sound() {
    holds(4, "-1", "no card yet", () -> {
      TongueBook x = new TongueBook();
      due(-1, x.sound(0, 0));
      due(-1, x.sound(-1, 0));
    });
    holds(4, "SOUND i of a CARD", "the first to the last, not -1 nor one behind", () -> {
      TongueBook x = new TongueBook();
      good(x, 0, 7);
      good(x, 0, 1, 2, 3, 4, 5, 6, 7, 8);
      due(7, x.sound(0, 0));
      due(-1, x.sound(0, 1));
      for (int i = 0; i < 8; i++) {
        due(i + 1, x.sound(1, i));
      }
      int[] none = {-1, 8, 9, LOWEST, HIGHEST};
      for (int i : none) {
        due(-1, x.sound(1, i));
      }
    });
    holds(4, "-1", "the last card, not the one behind it", () -> {
      TongueBook x = new TongueBook();
      good(x, 0, 7);
      good(x, 0, 8);
      int[] none = {-1, 2, 39, 40, LOWEST, HIGHEST};
      for (int card : none) {
        due(-1, x.sound(card, 0));
      }
      due(8, x.sound(1, 0));
    });
    holds(4, "SOUND i of a CARD", "of cards barred and taken back, too", () -> {
      TongueBook x = new TongueBook();
      good(x, 0, 7);
      x.bar(0, true);
      due(7, x.sound(0, 0));
      x.takeBack(0);
      due(7, x.sound(0, 0));
    });
  }

  private static void classOf() {
    holds(5, "SOUNDS 0 .. 9", "0 and 9, not -1 nor 10", () -> {
      TongueBook x = new TongueBook();
      due(0, x.classOf(0, 1));
      due(0, x.classOf(9, 2));
      int[] none = {-1, 10, 11, LOWEST, HIGHEST};
      for (int sound : none) {
        due(-1, x.classOf(sound, 0));
      }
      due(1, x.classOf(0, 0));
      due(2, x.classOf(9, 0));
    });
    holds(5, "each of a CLASS 0 .. 3", "0 and 3, not -1 nor 4", () -> {
      TongueBook x = new TongueBook();
      int[] none = {-1, 4, 5, LOWEST, HIGHEST};
      for (int n : none) {
        due(-1, x.classOf(4, n));
      }
      due(0, x.classOf(4, 3));
      due(3, x.classOf(4, 0));
      due(0, x.classOf(4, 1));
    });
    holds(5, "what it was", "the last one told, of this sound alone", () -> {
      TongueBook x = new TongueBook();
      due(0, x.classOf(4, 3));
      due(0, x.classOf(5, 2));
      due(3, x.classOf(4, 3));
      due(3, x.classOf(4, 1));
      due(1, x.classOf(4, 1));
      due(2, x.classOf(5, 2));
    });
  }

  private static void speaker() {
    holds(6, "a SPEAKER 0 .. 7", "0 and 7, not -1 nor 8", () -> {
      TongueBook x = new TongueBook();
      int[] none = {-1, 8, 9, LOWEST, HIGHEST};
      for (int speaker : none) {
        due(-1, x.speaker(speaker, 0, 0));
        due(-1, x.speaker(speaker, 1, 0));
      }
      due(0, x.speaker(0, 0, 1));
      due(0, x.speaker(7, 0, 2));
      due(1, x.speaker(0, 0, 0));
      due(2, x.speaker(7, 0, 0));
    });
    holds(6, "VILLAGE (what 0), REST (1)", "not -1 nor 2", () -> {
      TongueBook x = new TongueBook();
      int[] none = {-1, 2, 3, LOWEST, HIGHEST};
      for (int what : none) {
        due(-1, x.speaker(0, what, 0));
      }
      due(0, x.speaker(0, 0, 3));
      due(0, x.speaker(0, 1, 3));
    });
    holds(6, "a VILLAGE (0 .. 3;", "0 and 3, not -1 nor 4", () -> {
      TongueBook x = new TongueBook();
      int[] none = {-1, 4, 99, LOWEST, HIGHEST};
      for (int n : none) {
        due(-1, x.speaker(5, 0, n));
      }
      due(0, x.speaker(5, 0, 3));
      due(3, x.speaker(5, 0, 0));
      due(0, x.speaker(5, 0, 0));
    });
    holds(6, "REST (0 .. 99 HOURS;", "0 and 99, not -1 nor 100", () -> {
      TongueBook x = new TongueBook();
      int[] none = {-1, 100, LOWEST, HIGHEST};
      for (int n : none) {
        due(-1, x.speaker(5, 1, n));
      }
      due(0, x.speaker(5, 1, 99));
      due(99, x.speaker(5, 1, 0));
      due(0, x.speaker(5, 1, 4));
    });
    holds(6, "what it was", "village and rest each of their own", () -> {
      TongueBook x = new TongueBook();
      due(0, x.speaker(5, 0, 2));
      due(0, x.speaker(5, 1, 3));
      due(0, x.speaker(4, 1, 1));
      due(2, x.speaker(5, 0, 2));
      due(3, x.speaker(5, 1, 3));
      due(1, x.speaker(4, 1, 1));
    });
  }

  private static void oneOrTwoNumbers() {
    holds(7, "-1", "0 and 9, not -1 nor 10", () -> {
      TongueBook x = new TongueBook();
      due(0, x.oneOrTwo(0, 9));
      due(0, x.oneOrTwo(9, 0));
      int[] none = {-1, 10, 14, LOWEST, HIGHEST};
      for (int sound : none) {
        due(-1, x.oneOrTwo(sound, 5));
        due(-1, x.oneOrTwo(5, sound));
      }
    });
    holds(7, "Two unlike SOUNDS", "-1 for two alike", () -> {
      TongueBook x = new TongueBook();
      good(x, 1, 9);
      for (int sound = 0; sound < 10; sound++) {
        due(-1, x.oneOrTwo(sound, sound));
      }
    });
    holds(7, "0 they MAY BE ONE", "no card yet", () -> {
      TongueBook x = new TongueBook();
      for (int a = 0; a < 10; a++) {
        for (int b = 0; b < 10; b++) {
          due(a == b ? -1 : 0, x.oneOrTwo(a, b));
        }
      }
    });
    holds(7, "2 TWO", "0 and 9, asked either way round", () -> {
      TongueBook x = new TongueBook();
      good(x, 1, 0);
      good(x, 2, 9);
      due(2, x.oneOrTwo(0, 9));
      due(2, x.oneOrTwo(9, 0));
      due(0, x.oneOrTwo(0, 1));
    });
  }

  /** Two cards of meanings 1 and 2, else alike but for what is told. */
  private static int twoOf(int meaning, int otherMeaning, String sounds, String otherSounds) {
    TongueBook x = new TongueBook();
    good(x, meaning, digits(sounds));
    good(x, otherMeaning, digits(otherSounds));
    due(x.oneOrTwo(1, 2), x.oneOrTwo(2, 1));
    return x.oneOrTwo(1, 2);
  }

  private static void two() {
    holds(7, "differ at just one place", "the first, the last, the only one", () -> {
      due(2, twoOf(1, 2, "1", "2"));
      due(2, twoOf(1, 2, "15555555", "25555555"));
      due(2, twoOf(1, 2, "55555551", "55555552"));
      due(2, twoOf(1, 2, "55525555", "55515555"));
    });
    holds(7, "differ at just one place", "not at two, nor at none", () -> {
      due(0, twoOf(1, 2, "15", "26"));
      due(0, twoOf(1, 2, "51", "62"));
      due(0, twoOf(1, 2, "11", "22"));
      due(0, twoOf(1, 2, "12", "21"));
      due(0, twoOf(1, 2, "12", "12"));
      due(1, twoOf(1, 2, "1333331", "2333332"));
    });
    holds(7, "if two CARDS as long", "not one longer by one", () -> {
      due(0, twoOf(1, 2, "1", "25"));
      due(1, twoOf(1, 2, "515", "525525"));
      due(0, twoOf(1, 2, "5551", "55525"));
    });
    holds(7, "with unlike MEANINGS", "unlike by one bit is enough, alike is not", () -> {
      due(1, twoOf(3, 3, "1", "2"));
      due(2, twoOf(3, 2, "1", "2"));
      due(2, twoOf(1023, 511, "1", "2"));
      due(1, twoOf(1023, 1023, "1", "2"));
    });
    holds(7, "(both told)", "not with meaning 0, on either side", () -> {
      due(1, twoOf(0, 1, "1", "2"));
      due(1, twoOf(1, 0, "1", "2"));
      due(1, twoOf(0, 0, "1", "2"));
    });
    holds(7, "where one has the one, the other one the other", "not a third one", () -> {
      TongueBook x = new TongueBook();
      good(x, 1, 1);
      good(x, 2, 3);
      due(2, x.oneOrTwo(1, 3));
      due(0, x.oneOrTwo(1, 2));
      due(0, x.oneOrTwo(2, 3));
    });
    holds(7, "By KEPT CARDS that are GOOD", "not by one laughed at, barred, taken back", () -> {
      for (int spoilt = 0; spoilt < 2; spoilt++) {
        for (int how = 0; how < 3; how++) {
          TongueBook x = new TongueBook();
          for (int c = 0; c < 2; c++) {
            int told = c == spoilt ? 100 + (how == 0 ? 0 : 1) : 1;
            addCard(x, 1 + c, told, 0, 1 + c);
          }
          due(how == 0 ? 0 : 2, x.oneOrTwo(1, 2));
          due(1, how == 1 ? x.bar(1, true) : how == 2 ? x.takeBack(spoilt) : 1);
          due(0, x.oneOrTwo(1, 2));
          x.bar(1, false);
          due(how == 1 ? 2 : 0, x.oneOrTwo(1, 2));
        }
      }
    });
    holds(7, "are TWO, if two CARDS", "cards 0 and 39", () -> {
      TongueBook x = new TongueBook();
      good(x, 1, 1);
      bytes(x, 0, 5);
      for (int c = 1; c < 39; c++) {
        due(c, x.card(0, 4, 1, 0));
      }
      due(0, x.oneOrTwo(1, 2));
      due(39, good(x, 2, 2));
      due(2, x.oneOrTwo(1, 2));
      due(2, x.oneOrTwo(2, 1));
    });
  }

  private static void meet() {
    holds(7, "(the SOUND ahead or the edge, the SOUND behind or the edge)", "edges and sounds", () -> {
      due(1, twoOf(1, 1, "1", "2"));
      due(1, twoOf(1, 1, "15", "256"));
      due(1, twoOf(1, 1, "51", "652"));
      due(1, twoOf(1, 1, "7516", "525267"));
      due(1, twoOf(1, 1, "33333331", "32"));
      due(1, twoOf(1, 1, "13333333", "23"));
    });
    holds(7, "(the SOUND ahead or the edge, the SOUND behind or the edge)", "either one unlike", () -> {
      due(0, twoOf(1, 1, "1", "25"));
      due(0, twoOf(1, 1, "1", "52"));
      due(0, twoOf(1, 1, "15", "26"));
      due(0, twoOf(1, 1, "51", "62"));
      due(0, twoOf(1, 1, "516", "527"));
      due(0, twoOf(1, 1, "516", "726"));
      due(0, twoOf(1, 1, "15", "52"));
    });
    holds(7, "(the SOUND ahead or the edge, the SOUND behind or the edge)", "the edge is no sound", () -> {
      for (int sound = 0; sound < 10; sound++) {
        if (sound != 1 && sound != 2) {
          due(0, twoOf(1, 1, "1", "" + sound + 2));
          due(0, twoOf(1, 1, "1", "2" + sound));
        }
      }
    });
    holds(7, "at which both stand (in CARDS as they are)", "both in one card", () -> {
      TongueBook x = new TongueBook();
      good(x, 0, 3, 1, 3, 2, 3);
      due(1, x.oneOrTwo(1, 2));
      due(0, x.oneOrTwo(1, 3));
    });
    holds(7, "at which both stand (in CARDS as they are)", "not where one would come to be", () -> {
      due(0, twoOf(1, 1, "11", "22"));
      due(0, twoOf(1, 1, "121", "3"));
    });
    holds(7, "By KEPT CARDS that are GOOD", "they do not meet in others", () -> {
      for (int how = 0; how < 3; how++) {
        TongueBook x = new TongueBook();
        addCard(x, 1, how == 0 ? 100 : 101, 0, 1);
        good(x, 1, 2);
        due(how == 0 ? 0 : 1, x.oneOrTwo(1, 2));
        due(how == 0 ? 0 : 1, x.oneOrTwo(2, 1));
        due(1, how == 1 ? x.bar(1, true) : how == 2 ? x.takeBack(0) : 1);
        due(0, x.oneOrTwo(1, 2));
        due(0, x.oneOrTwo(2, 1));
      }
    });
    holds(7, "else they MEET", "two is said ahead of it", () -> {
      TongueBook x = new TongueBook();
      good(x, 1, 1);
      good(x, 1, 2);
      due(1, x.oneOrTwo(1, 2));
      good(x, 2, 2);
      due(2, x.oneOrTwo(1, 2));
      x.takeBack(2);
      due(1, x.oneOrTwo(1, 2));
    });
  }
}
