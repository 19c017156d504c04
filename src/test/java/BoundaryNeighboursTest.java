/** The boundaries that promises 23 to 27 name: readers, neighbours. */
public final class BoundaryNeighboursTest extends Bench {
  public static void main(String[] args) {
    readerNumbers();
    readerFrom();
    readerKnows();
    readerCards();
    neighbourNumbers();
    neighbourRows();
    law();
    ledNumbers();
    ledPairs();
    oddsNumbers();
    oddsWays();
    end("BoundaryNeighboursTest", 23, 27);
  }

  /** Card 0 is made of note 0. */
  private static TongueBook oneReadable() {
    TongueBook x = new TongueBook();
    piece(x, 1);
    good(x, 0, 1);
    return x;
  }

  private static void readerNumbers() {
    holds(23, "NOTES (bits 0 .. 15)", "0 and 65535, not -1 nor 65536", () -> {
      TongueBook x = oneReadable();
      int[] none = {-1, 65536, 65537, 131071, LOWEST, HIGHEST};
      for (int known : none) {
        due(-1, x.reader(known, 1, 0));
      }
      due(0, x.reader(0, 1, 0));
      due(0, x.reader(65535, 0, 0));
    });
    holds(23, "so many unlike new ones at most (0 .. 9)", "0 and 9, not -1 nor 10", () -> {
      TongueBook x = oneReadable();
      int[] none = {-1, 10, 11, LOWEST, HIGHEST};
      for (int most : none) {
        due(-1, x.reader(1, most, 0));
      }
      due(0, x.reader(1, 0, 0));
      due(0, x.reader(1, 9, 0));
    });
    holds(23, "-1", "ahead of -4", () -> {
      TongueBook x = new TongueBook();
      due(-4, x.reader(0, 0, 0));
      due(-1, x.reader(-1, 0, 0));
      due(-1, x.reader(0, -1, 0));
      due(-1, x.reader(65536, 0, 47));
      due(-1, x.reader(0, 10, 47));
    });
    holds(23, "-1", "no card below 0 to begin from", () -> {
      TongueBook x = oneReadable();
      due(-1, x.reader(1, 0, -1));
      due(-1, x.reader(1, 0, LOWEST));
      due(0, x.reader(1, 0, 0));
    });
  }

  private static void readerFrom() {
    holds(23, "-4", "no card yet", () -> {
      TongueBook x = new TongueBook();
      due(-4, x.reader(0, 0, 0));
      due(-4, x.reader(65535, 9, 0));
    });
    holds(23, "the least CARD from CARD i on", "the one itself, the next, none behind the last", () -> {
      TongueBook x = oneReadable();
      good(x, 0, 2);
      good(x, 0, 1);
      due(0, x.reader(1, 0, 0));
      due(2, x.reader(1, 0, 1));
      due(2, x.reader(1, 0, 2));
      due(-4, x.reader(1, 0, 3));
    });
    holds(23, "the least CARD from CARD i on", "from behind all cards, however far", () -> {
      TongueBook x = oneReadable();
      int[] behind = {1, 2, 39, 40, 41, 47, 1000, HIGHEST};
      for (int i : behind) {
        due(-4, x.reader(65535, 9, i));
      }
    });
    holds(23, "the least CARD from CARD i on", "card 39 of 40", () -> {
      TongueBook x = new TongueBook();
      piece(x, 1);
      bytes(x, 0, 2);
      for (int c = 0; c < 39; c++) {
        due(c, x.card(0, 0, 1, 0));
      }
      due(39, good(x, 0, 1));
      due(39, x.reader(1, 0, 0));
      due(39, x.reader(1, 0, 39));
      due(-4, x.reader(1, 0, 40));
      due(-4, x.reader(1, 0, HIGHEST));
    });
  }

  private static void readerKnows() {
    holds(23, "at most so many unlike NOTES that one doesn't know", "as many, and one too many", () -> {
      TongueBook x = new TongueBook();
      for (int n = 0; n < 8; n++) {
        piece(x, n);
      }
      good(x, 0, 0, 1, 2, 3, 4, 5, 6, 7);
      for (int known = 0; known < 9; known++) {
        int bits = (1 << known) - 1;
        due(0, x.reader(bits, 8 - known, 0));
        due(known < 8 ? -4 : 0, x.reader(bits, Math.max(0, 7 - known), 0));
      }
    });
    holds(23, "at most so many unlike NOTES that one doesn't know", "one that comes often is one", () -> {
      TongueBook x = new TongueBook();
      piece(x, 1);
      piece(x, 2);
      good(x, 0, 1, 1, 1, 2, 1, 1, 1, 2);
      due(0, x.reader(0, 2, 0));
      due(-4, x.reader(0, 1, 0));
      due(0, x.reader(1, 1, 0));
      due(0, x.reader(2, 1, 0));
      due(-4, x.reader(2, 0, 0));
      due(-4, x.reader(1, 0, 0));
      due(0, x.reader(3, 0, 0));
    });
    holds(23, "A READER for one who knows NOTES (bits)", "notes 0 and 15", () -> {
      TongueBook x = new TongueBook();
      piece(x, 1);
      for (int n = 1; n < 15; n++) {
        piece(x, 9);
      }
      piece(x, 2);
      good(x, 0, 1, 2);
      due(0, x.reader(1 << 15 | 1, 0, 0));
      due(-4, x.reader(1 << 15, 0, 0));
      due(-4, x.reader(1, 0, 0));
      due(0, x.reader(1, 1, 0));
      due(-4, x.reader(65535 - 1, 0, 0));
      due(-4, x.reader(32767, 0, 0));
    });
    holds(23, "whose LEAST CUT has no single SOUNDS", "not one, though most is great", () -> {
      TongueBook x = oneReadable();
      good(x, 0, 1, 1, 1, 1, 1, 1, 1, 2);
      good(x, 0, 2);
      due(-4, x.reader(65535, 9, 1));
      piece(x, 2);
      due(1, x.reader(65535, 9, 1));
      due(2, x.reader(65535, 9, 2));
      x.use(1, false);
      due(-4, x.reader(65535, 9, 1));
    });
  }

  private static void readerCards() {
    holds(23, "CARDS (KEPT, GOOD)", "not barred, taken back, laughed at", () -> {
      TongueBook x = new TongueBook();
      piece(x, 1);
      laughed(x, 0, 1);
      addCard(x, 0, 101, 0, 1);
      good(x, 0, 1);
      due(1, x.reader(1, 0, 0));
      x.bar(1, true);
      due(2, x.reader(1, 0, 0));
      x.takeBack(2);
      due(-4, x.reader(1, 0, 0));
      x.bar(1, false);
      due(1, x.reader(1, 0, 0));
    });
  }

  private static void neighbourNumbers() {
    holds(24, "NEIGHBOURS' WORDS 0 .. 9", "its number: 0 first, 9 last", () -> {
      TongueBook x = new TongueBook();
      good(x, 0, 1);
      bytes(x, 0, 1);
      for (int w = 0; w < 10; w++) {
        due(w, x.neighbour(0, 0));
        due(w + 1, x.count(6));
      }
    });
    holds(24, "-2", "no room for one more than 10", () -> {
      TongueBook x = new TongueBook();
      good(x, 0, 1);
      bytes(x, 0, 1);
      for (int w = 0; w < 10; w++) {
        due(w, x.neighbour(0, 0));
      }
      due(-2, x.neighbour(0, 0));
      due(-2, x.neighbour(0, 0));
      due(10, x.count(6));
      due(10, x.led(0));
    });
    holds(24, "-1", "shelves 0 and 7, not -1 nor 8", () -> {
      TongueBook x = new TongueBook();
      good(x, 0, 1);
      dueNoShelf(d -> x.neighbour(d, 0));
      bytes(x, 0, 1);
      bytes(x, 7, 1);
      due(0, x.neighbour(0, 0));
      due(1, x.neighbour(7, 0));
    });
    holds(24, "-1", "no card yet", () -> {
      TongueBook x = new TongueBook();
      bytes(x, 0, 1);
      due(-1, x.neighbour(0, 0));
      due(0, x.count(6));
    });
    holds(24, "-1", "the last card, not the one behind it", () -> {
      TongueBook x = new TongueBook();
      good(x, 0, 1);
      good(x, 0, 2);
      bytes(x, 0, 1);
      int[] none = {-1, 2, 39, 40, LOWEST, HIGHEST};
      for (int card : none) {
        due(-1, x.neighbour(0, card));
      }
      due(0, x.neighbour(0, 1));
      due(1, x.law(2));
      due(-4, x.law(1));
    });
    holds(24, "each beside a CARD (however that is)", "laughed at, barred, taken back", () -> {
      TongueBook x = new TongueBook();
      laughed(x, 0, 1);
      good(x, 0, 2);
      addCard(x, 0, 101, 0, 3);
      x.takeBack(1);
      x.bar(1, true);
      for (int c = 0; c < 3; c++) {
        due(c, addWord(x, c, 5 + c));
        due(5 + c, x.law(1 + c));
      }
      due(3, addWord(x, 1, 7));
      due(6, x.law(2));
    });
  }

  private static void neighbourRows() {
    holds(24, "-11", "nothing is held", () -> {
      TongueBook x = new TongueBook();
      good(x, 0, 1);
      dueNothingHeld(x, d -> x.neighbour(d, 0));
    });
    holds(24, "-12", "shorts, ints, a note", () -> {
      TongueBook x = new TongueBook();
      good(x, 0, 1);
      piece(x, 1);
      dueOtherKind(x, d -> x.neighbour(d, 0), 1, 2);
      dueOtherKind(x, d -> x.neighbour(d, 0), 77);
    });
    holds(24, "-13: not 1 .. 8", "1 and 8, not 0 nor 9", () -> {
      TongueBook x = new TongueBook();
      good(x, 0, 1);
      due(-13, addWord(x, 0));
      due(-13, addWord(x, 0, many(9, 1)));
      due(-13, addWord(x, 0, many(80, 1)));
      for (int size = 1; size <= 8; size++) {
        due(size - 1, addWord(x, 0, many(size, 1)));
      }
    });
    holds(24, "one no SOUND", "at each place", () -> {
      TongueBook x = new TongueBook();
      good(x, 0, 1);
      dueNoSound(x, d -> x.neighbour(d, 0), 8);
      due(0, x.count(6));
      TongueBook y = new TongueBook();
      good(y, 0, 1);
      dueNoSound(y, d -> y.neighbour(d, 0), 1);
    });
    holds(24, "SOUNDS 0 .. 9", "0 and 9 are", () -> {
      TongueBook x = new TongueBook();
      good(x, 0, 1, 2);
      due(0, addWord(x, 0, 0, 9));
      due(0, x.law(1));
      due(9, x.law(2));
    });
    holds(24, "is a NEIGHBOURS' WORD", "as it was, whatever the row becomes", () -> {
      TongueBook x = new TongueBook();
      good(x, 0, 1);
      bytes(x, 0, 4);
      due(0, x.neighbour(0, 0));
      x.put(0, 0, 5);
      due(4, x.law(1));
      x.row(0, 0, 3);
      due(4, x.law(1));
    });
  }

  private static void law() {
    holds(25, "-1", "sounds 0 and 9, not -1 nor 10", () -> {
      TongueBook x = new TongueBook();
      good(x, 0, 0, 9);
      addWord(x, 0, 9, 0);
      int[] none = {-1, 10, 11, LOWEST, HIGHEST};
      for (int sound : none) {
        due(-1, x.law(sound));
      }
      due(9, x.law(0));
      due(0, x.law(9));
    });
    holds(25, "-4: it has no place in pairs as long", "no word yet", () -> {
      TongueBook x = new TongueBook();
      good(x, 0, 1);
      for (int sound = 0; sound < 10; sound++) {
        due(-4, x.law(sound));
      }
    });
    holds(25, "-4: it has no place in pairs as long", "longer or shorter by one", () -> {
      TongueBook x = new TongueBook();
      good(x, 0, 1, 2);
      addWord(x, 0, 5);
      addWord(x, 0, 5, 5, 5);
      due(-4, x.law(1));
      due(-4, x.law(2));
      addWord(x, 0, 5, 6);
      due(5, x.law(1));
      due(6, x.law(2));
      due(-4, x.law(5));
    });
    holds(25, "that most of its places have in pairs as long (place by place)", "more by one", () -> {
      TongueBook x = new TongueBook();
      good(x, 0, 1, 1, 1);
      addWord(x, 0, 7, 8, 8);
      due(8, x.law(1));
      addWord(x, 0, 7, 7, 6);
      due(7, x.law(1));
      addWord(x, 0, 8, 8, 3, 3);
      due(7, x.law(1));
    });
    holds(25, "that most of its places have in pairs as long (place by place)", "first and last of eight", () -> {
      TongueBook x = new TongueBook();
      good(x, 0, 1, 3, 3, 3, 3, 3, 3, 2);
      addWord(x, 0, 6, 0, 0, 0, 0, 0, 0, 7);
      due(6, x.law(1));
      due(7, x.law(2));
      due(0, x.law(3));
    });
    holds(25, "of several the least", "0 and 9", () -> {
      TongueBook x = new TongueBook();
      good(x, 0, 1, 1);
      addWord(x, 0, 9, 0);
      due(0, x.law(1));
      addWord(x, 0, 9, 5);
      due(9, x.law(1));
      addWord(x, 0, 0, 5);
      due(0, x.law(1));
      addWord(x, 0, 5, 5);
      due(5, x.law(1));
    });
  }

  private static void ledNumbers() {
    holds(26, "-1", "what 0 and 1, not -1 nor 2", () -> {
      TongueBook x = new TongueBook();
      good(x, 0, 1, 2);
      addWord(x, 0, 5, 6);
      int[] none = {-1, 2, 3, LOWEST, HIGHEST};
      for (int what : none) {
        due(-1, x.led(what));
      }
      due(2, x.led(0));
      due(1, x.led(1));
    });
    holds(26, "how many places (what 0), how many pairs (1)", "no word yet", () -> {
      TongueBook x = new TongueBook();
      due(0, x.led(0));
      due(0, x.led(1));
      good(x, 0, 1);
      due(0, x.led(0));
      due(0, x.led(1));
    });
    holds(26, "how many places (what 0), how many pairs (1)", "all there may be", () -> {
      TongueBook x = new TongueBook();
      good(x, 0, 1, 2, 3, 4, 5, 6, 7, 8);
      bytes(x, 0, 8, 7, 6, 5, 4, 3, 2, 1);
      for (int w = 0; w < 10; w++) {
        due(w, x.neighbour(0, 0));
        due(8 * (w + 1), x.led(0));
        due(w + 1, x.led(1));
      }
    });
  }

  private static void ledPairs() {
    holds(26, "A pair is LED if all its places are", "not if one is not: first, last", () -> {
      TongueBook x = new TongueBook();
      good(x, 0, 1, 2, 3);
      addWord(x, 0, 5, 6, 7);
      addWord(x, 0, 5, 6, 8);
      due(5, x.led(0));
      due(1, x.led(1));
      addWord(x, 0, 6, 6, 7);
      due(7, x.led(0));
      due(1, x.led(1));
      addWord(x, 0, 5, 6, 7);
      due(10, x.led(0));
      due(2, x.led(1));
    });
    holds(26, "and both are as long", "longer or shorter by one", () -> {
      TongueBook x = new TongueBook();
      good(x, 0, 1, 1);
      addWord(x, 0, 5, 5);
      due(2, x.led(0));
      due(1, x.led(1));
      addWord(x, 0, 5);
      addWord(x, 0, 5, 5, 5);
      due(2, x.led(0));
      due(1, x.led(1));
    });
    holds(26, "how many places have what the LAW of theirs says", "none of a pair", () -> {
      TongueBook x = new TongueBook();
      good(x, 0, 1, 1);
      good(x, 0, 1);
      addWord(x, 0, 5, 5);
      addWord(x, 1, 6);
      due(2, x.led(0));
      due(1, x.led(1));
    });
  }

  private static void oddsNumbers() {
    holds(27, "-1", "what 0 and 1, not -1 nor 2", () -> {
      TongueBook x = new TongueBook();
      int[] none = {-1, 2, 3, LOWEST, HIGHEST};
      for (int what : none) {
        due(-1, x.odds(what));
      }
    });
    holds(27, "in how many ways (what 0), of how many (1)", "no word yet: one way", () -> {
      TongueBook x = new TongueBook();
      due(1, x.odds(0));
      due(1, x.odds(1));
    });
    holds(27, "(7 at most, else -3)", "one to seven words, not eight to ten", () -> {
      TongueBook x = new TongueBook();
      int[] ways = {1, 2, 6, 24, 120, 720, 5040};
      for (int w = 0; w < 7; w++) {
        good(x, 0, w);
        addWord(x, w, w);
        due(ways[w], x.odds(1));
        due(ways[w], x.odds(0));
      }
      for (int w = 7; w < 10; w++) {
        addWord(x, 0, 1);
        due(-3, x.odds(0));
        due(-3, x.odds(1));
      }
    });
    holds(27, "-1; -3", "-1 ahead of -3", () -> {
      TongueBook x = new TongueBook();
      good(x, 0, 1);
      bytes(x, 0, 1);
      for (int w = 0; w < 8; w++) {
        x.neighbour(0, 0);
      }
      due(-1, x.odds(2));
      due(-1, x.odds(-1));
      due(-3, x.odds(0));
    });
  }

  private static void oddsWays() {
    holds(27, "as many or more as they are now", "another way has one more, or one fewer", () -> {
      TongueBook x = new TongueBook();
      good(x, 0, 1, 1);
      good(x, 0, 1, 2);
      addWord(x, 0, 5, 6);
      addWord(x, 1, 5, 5);
      due(3, x.led(0));
      due(2, x.odds(0));
      TongueBook y = new TongueBook();
      good(y, 0, 1, 1);
      good(y, 0, 1, 2);
      addWord(y, 0, 5, 5);
      addWord(y, 1, 5, 6);
      due(4, y.led(0));
      due(1, y.odds(0));
      due(2, y.odds(1));
    });
    holds(27, "as many or more as they are now", "as many, and fewer", () -> {
      TongueBook x = new TongueBook();
      good(x, 0, 1, 1);
      good(x, 0, 2, 2);
      addWord(x, 0, 5, 6);
      addWord(x, 1, 5, 5);
      due(3, x.led(0));
      due(2, x.odds(0));
      good(x, 0, 1, 3);
      addWord(x, 2, 5, 6);
      due(5, x.led(0));
      due(4, x.odds(0));
      due(6, x.odds(1));
      due(5, x.led(0));
    });
    holds(27, "as many or more as they are now", "only as it is now", () -> {
      TongueBook x = new TongueBook();
      good(x, 0, 1);
      good(x, 0, 2, 2);
      good(x, 0, 3, 3, 3);
      addWord(x, 0, 5);
      addWord(x, 1, 5, 5);
      addWord(x, 2, 5, 5, 5);
      due(6, x.led(0));
      due(1, x.odds(0));
      due(6, x.odds(1));
    });
    holds(27, "of all ways to deal the WORDS anew to their CARDS", "of seven, asked first and again", () -> {
      TongueBook x = new TongueBook();
      int[] sounds = {1, 1, 1, 2, 2, 3, 3};
      for (int w = 0; w < 7; w++) {
        good(x, 0, sounds[w]);
        addWord(x, w, 4 + sounds[w]);
      }
      due(3 * 2 * 2 * 2 * 2, x.odds(0));
      due(5040, x.odds(1));
      due(3 * 2 * 2 * 2 * 2, x.odds(0));
      due(7, x.led(0));
      due(7, x.led(1));
    });
    holds(27, "of all ways to deal the WORDS anew to their CARDS", "of four, asked again of five", () -> {
      TongueBook x = new TongueBook();
      int[] sounds = {1, 1, 2, 2};
      for (int w = 0; w < 4; w++) {
        good(x, 0, sounds[w]);
        addWord(x, w, 4 + sounds[w]);
      }
      due(8, x.odds(0));
      due(24, x.odds(1));
      good(x, 0, 3, 3);
      addWord(x, 4, 7, 7);
      due(8, x.odds(0));
      due(120, x.odds(1));
    });
    holds(27, "(by LAWS made anew for each)", "a way with laws of its own", () -> {
      TongueBook x = new TongueBook();
      good(x, 0, 1);
      good(x, 0, 2);
      addWord(x, 0, 5);
      addWord(x, 1, 6);
      due(2, x.odds(0));
      due(5, x.law(1));
      due(6, x.law(2));
    });
    holds(27, "of all ways to deal the WORDS anew to their CARDS", "words alike count each", () -> {
      TongueBook x = new TongueBook();
      good(x, 0, 1);
      good(x, 0, 1, 1);
      addWord(x, 0, 5);
      addWord(x, 0, 5);
      addWord(x, 1, 5, 5);
      due(4, x.led(0));
      due(2, x.odds(0));
      due(6, x.odds(1));
    });
  }
}
