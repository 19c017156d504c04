/** The boundaries that promises 8 to 12 name: pieces. */
public final class BoundaryPiecesTest extends Bench {
  private static final int PIECE = 0;
  private static final int ROOT = 1;
  private static final int END = 2;
  private static final int DOUBLED = 3;
  private static final int LOAN = 4;

  public static void main(String[] args) {
    noteNumbers();
    noteRows();
    use();
    toldNumbers();
    lengths();
    meanings();
    cutNumbers();
    cutCosts();
    cutChoices();
    leastListNumbers();
    leastListSets();
    end("BoundaryPiecesTest", 8, 12);
  }

  private static void noteNumbers() {
    holds(8, "NOTES 0 .. 15 as they come", "its number: 0 first, 15 last", () -> {
      TongueBook x = new TongueBook();
      bytes(x, 0, 1);
      for (int n = 0; n < 16; n++) {
        due(n, x.note(0, n % 5));
        due(n + 1, x.count(2));
      }
    });
    holds(8, "-2", "no room for one more than 16", () -> {
      TongueBook x = new TongueBook();
      bytes(x, 0, 1);
      for (int n = 0; n < 16; n++) {
        due(n, x.note(0, 0));
      }
      due(-2, x.note(0, 0));
      due(-2, x.note(0, 4));
      x.use(15, false);
      due(-2, x.note(0, 0));
      due(16, x.count(2));
    });
    holds(8, "-1", "shelves 0 and 7, not -1 nor 8", () -> {
      TongueBook x = new TongueBook();
      dueNoShelf(d -> x.note(d, 0));
      bytes(x, 0, 1);
      bytes(x, 7, 2);
      due(0, x.note(0, 0));
      due(1, x.note(7, 0));
    });
    holds(8, "NOTES are of KINDS: 0 PIECE; 1 ROOT under PIECE; 2 END under PIECE; 3 DOUBLED under PIECE;"
        + " 4 LOAN under ROOT", "kinds 0 to 4, not -1 nor 5", () -> {
      TongueBook x = new TongueBook();
      bytes(x, 0, 1);
      int[] none = {-1, 5, 6, LOWEST, HIGHEST};
      for (int kind : none) {
        due(-1, x.note(0, kind));
      }
      for (int kind = 0; kind < 5; kind++) {
        due(kind, x.note(0, kind));
      }
    });
    holds(8, "more of THE LIST (USED)", "each comes used", () -> {
      TongueBook x = new TongueBook();
      good(x, 0, 1);
      for (int n = 0; n < 16; n++) {
        due(n, piece(x, 2));
        due(n + 1, x.count(3));
        due(0, x.use(n, true));
      }
    });
  }

  private static void noteRows() {
    holds(8, "-11", "nothing is held", () -> {
      TongueBook x = new TongueBook();
      dueNothingHeld(x, d -> x.note(d, 0));
    });
    holds(8, "-12", "shorts, ints, a note", () -> {
      TongueBook x = new TongueBook();
      piece(x, 1);
      dueOtherKind(x, d -> x.note(d, 0), 1, 2);
      dueOtherKind(x, d -> x.note(d, 0), 77);
    });
    holds(8, "-13: not 1 .. 4", "1 and 4, not 0 nor 5", () -> {
      TongueBook x = new TongueBook();
      int[] none = {0, 5, 8, 80};
      for (int size : none) {
        bytes(x, 0, many(size, 1));
        for (int kind = 0; kind < 5; kind++) {
          due(-13, x.note(0, kind));
        }
      }
      for (int size = 1; size <= 4; size++) {
        bytes(x, 0, many(size, 1));
        due(size - 1, x.note(0, 0));
      }
    });
    holds(8, "one no SOUND", "at each place", () -> {
      TongueBook x = new TongueBook();
      dueNoSound(x, d -> x.note(d, 0), 4);
      dueNoSound(x, d -> x.note(d, 3), 1);
      due(0, x.count(2));
    });
    holds(8, "SOUNDS 0 .. 9", "0 and 9 are", () -> {
      TongueBook x = new TongueBook();
      due(0, piece(x, 0));
      due(1, piece(x, 9));
      due(2, piece(x, 9, 1, 8, 0));
    });
    holds(8, "is a NOTE", "as it was, whatever the row becomes", () -> {
      TongueBook x = new TongueBook();
      good(x, 0, 1, 2);
      bytes(x, 0, 1, 2);
      due(0, x.note(0, 0));
      x.put(0, 0, 5);
      x.row(0, 0, 4);
      due(3, x.told(0, 0));
      due(2, x.cut(0, -1));
    });
  }

  private static void use() {
    holds(9, "-1", "no note yet", () -> {
      TongueBook x = new TongueBook();
      due(-1, x.use(0, true));
      due(-1, x.use(0, false));
      due(0, x.count(3));
    });
    holds(9, "-1", "the last note, not the one behind it", () -> {
      TongueBook x = new TongueBook();
      bytes(x, 0, 1);
      for (int n = 0; n < 16; n++) {
        due(-1, x.use(n, false));
        due(n, x.note(0, 0));
        due(1, x.use(n, false));
      }
      int[] none = {-1, 16, 31, 32, LOWEST, HIGHEST};
      for (int note : none) {
        due(-1, x.use(note, true));
        due(-1, x.use(note, false));
      }
      due(0, x.count(3));
    });
    holds(9, "1 if it was otherwise, else 0", "each way, twice", () -> {
      TongueBook x = new TongueBook();
      piece(x, 1);
      piece(x, 2);
      due(0, x.use(0, true));
      due(1, x.use(0, false));
      due(0, x.use(0, false));
      due(1, x.count(3));
      due(0, x.use(1, true));
      due(1, x.use(0, true));
      due(0, x.use(0, true));
      due(2, x.count(3));
    });
  }

  private static void toldNumbers() {
    holds(10, "-1", "no note yet", () -> {
      TongueBook x = new TongueBook();
      due(-1, x.told(0, 0));
      due(-1, x.told(0, 1));
    });
    holds(10, "-1", "the last note, not the one behind it", () -> {
      TongueBook x = new TongueBook();
      piece(x, 1);
      piece(x, 1, 2);
      due(3, x.told(1, 0));
      int[] none = {-1, 2, 15, 16, LOWEST, HIGHEST};
      for (int note : none) {
        due(-1, x.told(note, 0));
        due(-1, x.told(note, 1));
      }
    });
    holds(10, "LENGTH of a NOTE (what 0), MEANING (1; -4)", "not what -1 nor 2", () -> {
      TongueBook x = new TongueBook();
      piece(x, 1);
      due(2, x.told(0, 0));
      due(-4, x.told(0, 1));
      int[] none = {-1, 2, 3, LOWEST, HIGHEST};
      for (int what : none) {
        due(-1, x.told(0, what));
      }
    });
  }

  private static void dueLengths(int kind, int... lengths) {
    TongueBook x = new TongueBook();
    for (int size = 1; size <= 4; size++) {
      int n = addNote(x, kind, many(size, 0));
      due(lengths[size - 1], x.told(n, 0));
      x.use(n, false);
      due(lengths[size - 1], x.told(n, 0));
    }
  }

  private static void lengths() {
    holds(10, "PIECE how many SOUNDS, and 1", "of 1 to 4 sounds", () -> dueLengths(PIECE, 2, 3, 4, 5));
    holds(10, "ROOT a PIECE's and 2", "of 1 to 4 sounds", () -> dueLengths(ROOT, 4, 5, 6, 7));
    holds(10, "END a PIECE's", "of 1 to 4 sounds", () -> dueLengths(END, 2, 3, 4, 5));
    holds(10, "DOUBLED twice a PIECE's less 1", "of 1 to 4 sounds", () -> dueLengths(DOUBLED, 3, 5, 7, 9));
    holds(10, "LOAN a ROOT's, and 3", "of 1 to 4 sounds", () -> dueLengths(LOAN, 7, 8, 9, 10));
  }

  private static void meanings() {
    holds(10, "(-4: there is none)", "no card yet, and none that has it", () -> {
      TongueBook x = new TongueBook();
      piece(x, 1, 2);
      due(-4, x.told(0, 1));
      good(x, 7, 2, 1);
      due(-4, x.told(0, 1));
      good(x, 7, 1, 2);
      due(7, x.told(0, 1));
    });
    holds(10, "all KEPT GOOD CARDS with a MEANING", "not those without one", () -> {
      TongueBook x = new TongueBook();
      piece(x, 1);
      good(x, 0, 1);
      due(-4, x.told(0, 1));
      good(x, 1023, 1);
      due(1023, x.told(0, 1));
      good(x, 0, 1);
      due(1023, x.told(0, 1));
      good(x, 513, 1);
      due(513, x.told(0, 1));
      good(x, 512, 1);
      due(512, x.told(0, 1));
    });
    holds(10, "all KEPT GOOD CARDS with a MEANING", "not barred, taken back, laughed at", () -> {
      TongueBook x = new TongueBook();
      piece(x, 1);
      addCard(x, 3, 101, 0, 1);
      laughed(x, 4, 1);
      due(3, x.told(0, 1));
      x.bar(1, true);
      due(-4, x.told(0, 1));
      x.bar(1, false);
      due(3, x.told(0, 1));
      good(x, 6, 1);
      due(2, x.told(0, 1));
      x.takeBack(0);
      due(6, x.told(0, 1));
      x.takeBack(2);
      due(-4, x.told(0, 1));
    });
    holds(10, "have in common", "all ten bits, one, and 0 where there are such cards", () -> {
      TongueBook x = new TongueBook();
      piece(x, 1);
      good(x, 1023, 1);
      due(1023, x.told(0, 1));
      good(x, 513, 1);
      due(513, x.told(0, 1));
      good(x, 1022, 1);
      due(512, x.told(0, 1));
      good(x, 1, 1);
      due(0, x.told(0, 1));
      x.takeBack(3);
      due(512, x.told(0, 1));
    });
    holds(10, "whose LEAST CUT has it", "not where it could stand but does not", () -> {
      TongueBook x = new TongueBook();
      piece(x, 1);
      piece(x, 1, 2);
      good(x, 5, 1, 2);
      due(-4, x.told(0, 1));
      due(5, x.told(1, 1));
      x.use(1, false);
      due(5, x.told(0, 1));
      due(-4, x.told(1, 1));
    });
    holds(10, "whose LEAST CUT has it", "note 15, cards 0 and 39", () -> {
      TongueBook x = new TongueBook();
      for (int n = 0; n < 15; n++) {
        piece(x, 9);
      }
      piece(x, 1);
      good(x, 7, 1);
      bytes(x, 0, 9);
      for (int c = 1; c < 39; c++) {
        due(c, x.card(0, 8, 1, 0));
      }
      due(7, x.told(15, 1));
      due(39, good(x, 2, 1));
      due(2, x.told(15, 1));
      due(8, x.told(0, 1));
      due(-4, x.told(14, 1));
    });
  }

  private static void cutNumbers() {
    holds(11, "-1 (i below -1, too)", "no card yet", () -> {
      TongueBook x = new TongueBook();
      due(-1, x.cut(0, -1));
      due(-1, x.cut(0, 0));
    });
    holds(11, "-1 (i below -1, too)", "the last card, not the one behind it", () -> {
      TongueBook x = new TongueBook();
      good(x, 0, 1);
      good(x, 0, 2);
      due(102, x.cut(1, 0));
      int[] none = {-1, 2, 39, 40, LOWEST, HIGHEST};
      for (int card : none) {
        due(-1, x.cut(card, -1));
        due(-1, x.cut(card, 0));
      }
    });
    holds(11, "-1 (i below -1, too)", "-1 is the cost, -2 is not", () -> {
      TongueBook x = new TongueBook();
      good(x, 0, 1);
      due(5, x.cut(0, -1));
      int[] below = {-2, -3, LOWEST};
      for (int i : below) {
        due(-1, x.cut(0, i));
      }
    });
    holds(11, "-4: not so many", "the last part, and one behind it", () -> {
      TongueBook x = new TongueBook();
      good(x, 0, 0, 1, 2, 3, 6, 7, 8, 9);
      for (int i = 0; i < 8; i++) {
        due(100 + x.sound(0, i), x.cut(0, i));
      }
      due(-4, x.cut(0, 8));
      due(-4, x.cut(0, 9));
      due(-4, x.cut(0, HIGHEST));
      piece(x, 6, 7, 8, 9);
      due(0, x.cut(0, 4));
      due(-4, x.cut(0, 5));
    });
    holds(11, "the NOTE, or 100 and the SOUND", "0 and 15, 100 and 109", () -> {
      TongueBook x = new TongueBook();
      good(x, 0, 0, 9, 5, 6);
      due(100, x.cut(0, 0));
      due(109, x.cut(0, 1));
      piece(x, 5);
      for (int n = 1; n < 15; n++) {
        piece(x, 1);
      }
      due(15, piece(x, 6));
      due(0, x.cut(0, 2));
      due(15, x.cut(0, 3));
    });
  }

  private static void cutCosts() {
    holds(11, "It costs 2 a NOTE, 5 a single SOUND", "one and eight of each", () -> {
      TongueBook x = new TongueBook();
      good(x, 0, 1);
      good(x, 0, 1, 1, 1, 1, 1, 1, 1, 1);
      due(5, x.cut(0, -1));
      due(40, x.cut(1, -1));
      piece(x, 1);
      due(2, x.cut(0, -1));
      due(16, x.cut(1, -1));
    });
    holds(11, "it is made of NOTES of THE LIST that are USED", "not of others", () -> {
      TongueBook x = new TongueBook();
      good(x, 0, 1, 2);
      piece(x, 1, 2);
      due(2, x.cut(0, -1));
      x.use(0, false);
      due(10, x.cut(0, -1));
      due(101, x.cut(0, 0));
      x.use(0, true);
      due(0, x.cut(0, 0));
    });
    holds(11, "one behind the other", "a note as long as the card, and longer by one", () -> {
      TongueBook x = new TongueBook();
      good(x, 0, 1, 2, 3);
      piece(x, 1, 2, 3, 4);
      due(15, x.cut(0, -1));
      piece(x, 4, 1, 2, 3);
      due(15, x.cut(0, -1));
      piece(x, 1, 2, 3);
      due(2, x.cut(0, -1));
      due(2, x.cut(0, 0));
    });
    holds(11, "one behind the other", "they do not overlap, and stand at the end, too", () -> {
      TongueBook x = new TongueBook();
      good(x, 0, 1, 2, 1, 2, 1);
      piece(x, 1, 2, 1);
      due(12, x.cut(0, -1));
      piece(x, 2, 1);
      due(4, x.cut(0, -1));
    });
    holds(11, "(a DOUBLED one with its SOUNDS twice, one row behind the other)", "1 and 4 sounds", () -> {
      TongueBook x = new TongueBook();
      good(x, 0, 1, 2, 3, 4, 1, 2, 3, 4);
      good(x, 0, 5, 5);
      good(x, 0, 5, 5, 5);
      good(x, 0, 5);
      addNote(x, DOUBLED, 1, 2, 3, 4);
      addNote(x, DOUBLED, 5);
      due(2, x.cut(0, -1));
      due(0, x.cut(0, 0));
      due(2, x.cut(1, -1));
      due(7, x.cut(2, -1));
      due(5, x.cut(3, -1));
    });
    holds(11, "(a DOUBLED one with its SOUNDS twice, one row behind the other)", "never once", () -> {
      TongueBook x = new TongueBook();
      good(x, 0, 1, 2, 3, 4, 1, 2, 3);
      good(x, 0, 1, 1, 2, 2);
      addNote(x, DOUBLED, 1, 2, 3, 4);
      addNote(x, DOUBLED, 1, 2);
      due(35, x.cut(0, -1));
      due(20, x.cut(1, -1));
    });
    holds(11, "LEAST CUT of a CARD", "of cards laughed at, barred, taken back, too", () -> {
      TongueBook x = new TongueBook();
      laughed(x, 0, 1);
      due(5, x.cut(0, -1));
      x.bar(0, true);
      piece(x, 1);
      due(2, x.cut(0, -1));
      x.takeBack(0);
      due(0, x.cut(0, 0));
    });
  }

  private static void cutChoices() {
    holds(11, "the one whose first part is the longest (in SOUNDS of the CARD)", "as dear", () -> {
      TongueBook x = new TongueBook();
      good(x, 0, 1, 2, 3);
      piece(x, 2, 3);
      piece(x, 1, 2);
      due(7, x.cut(0, -1));
      due(1, x.cut(0, 0));
      due(103, x.cut(0, 1));
      piece(x, 1);
      piece(x, 3);
      due(4, x.cut(0, -1));
      due(1, x.cut(0, 0));
      due(3, x.cut(0, 1));
    });
    holds(11, "the one whose first part is the longest (in SOUNDS of the CARD)", "dearer by one", () -> {
      TongueBook x = new TongueBook();
      good(x, 0, 1, 2, 3, 4);
      piece(x, 1, 2, 3);
      piece(x, 1);
      piece(x, 2, 3, 4);
      due(4, x.cut(0, -1));
      due(1, x.cut(0, 0));
      due(2, x.cut(0, 1));
    });
    holds(11, "the one whose first part is the longest (in SOUNDS of the CARD)", "a doubled one as said", () -> {
      TongueBook x = new TongueBook();
      good(x, 0, 1, 1, 1, 1);
      piece(x, 1, 1, 1);
      addNote(x, DOUBLED, 1);
      piece(x, 1);
      due(4, x.cut(0, -1));
      due(0, x.cut(0, 0));
      x.use(0, false);
      due(1, x.cut(0, 0));
      due(1, x.cut(0, 1));
    });
    holds(11, "of NOTES the least", "as long, of other kinds", () -> {
      TongueBook x = new TongueBook();
      good(x, 0, 1, 1);
      addNote(x, LOAN, 1, 1);
      addNote(x, PIECE, 1, 1);
      addNote(x, DOUBLED, 1);
      due(0, x.cut(0, 0));
      x.use(0, false);
      due(1, x.cut(0, 0));
      x.use(1, false);
      due(2, x.cut(0, 0));
      x.use(0, true);
      due(0, x.cut(0, 0));
    });
    holds(11, "then likewise from there", "the longest, then the least", () -> {
      TongueBook x = new TongueBook();
      good(x, 0, 9, 1, 2, 3);
      piece(x, 3);
      piece(x, 9);
      piece(x, 2, 3);
      piece(x, 1);
      piece(x, 1, 2);
      piece(x, 1, 2);
      due(6, x.cut(0, -1));
      due(1, x.cut(0, 0));
      due(4, x.cut(0, 1));
      due(0, x.cut(0, 2));
      due(-4, x.cut(0, 3));
    });
  }

  private static void leastListNumbers() {
    holds(12, "the sum (what 0), the set (1; of the first 10)", "not what -1 nor 2", () -> {
      TongueBook x = new TongueBook();
      int[] none = {-1, 2, 3, LOWEST, HIGHEST};
      for (int what : none) {
        due(-1, x.leastList(what));
      }
    });
    holds(12, "the least sum of LENGTHS of those USED and of LEAST CUTS", "nothing there yet", () -> {
      TongueBook x = new TongueBook();
      due(0, x.leastList(0));
      due(0, x.leastList(1));
      piece(x, 1);
      due(0, x.leastList(0));
      due(0, x.leastList(1));
    });
    holds(12, "the least sum of LENGTHS of those USED and of LEAST CUTS", "all there may be", () -> {
      TongueBook x = new TongueBook();
      bytes(x, 0, 1, 2, 3, 4, 5, 6, 7, 8);
      for (int c = 0; c < 40; c++) {
        due(c, x.card(0, 0, 1, 0));
      }
      due(1600, x.leastList(0));
      for (int n = 0; n < 10; n++) {
        piece(x, n);
      }
      due(640 + 16, x.leastList(0));
      due(0b111111110, x.leastList(1));
      for (int n = 10; n < 16; n++) {
        addNote(x, LOAN, 9, 9, 9, 9);
      }
      due(640 + 16 + 60, x.leastList(0));
      due(0b111111110, x.leastList(1));
    });
    holds(12, "of all KEPT CARDS that are GOOD", "not of others", () -> {
      TongueBook x = new TongueBook();
      laughed(x, 0, 1, 2);
      due(0, x.leastList(0));
      addCard(x, 0, 101, 0, 3);
      due(5, x.leastList(0));
      x.bar(1, true);
      due(0, x.leastList(0));
      x.bar(1, false);
      due(5, x.leastList(0));
      x.takeBack(1);
      due(0, x.leastList(0));
    });
  }

  private static void leastListSets() {
    holds(12, "of all ways to have NOTES of THE LIST USED or not", "whichever are used now", () -> {
      TongueBook x = new TongueBook();
      good(x, 0, 1, 2, 3);
      piece(x, 1, 2, 3);
      piece(x, 7);
      due(6, x.leastList(0));
      due(1, x.leastList(1));
      x.use(0, false);
      due(6, x.leastList(0));
      due(1, x.leastList(1));
      due(1, x.count(3));
      due(15, x.cut(0, -1));
    });
    holds(12, "of all ways to have NOTES of THE LIST USED or not", "asked again as things stand", () -> {
      TongueBook x = new TongueBook();
      x.image();
      good(x, 0, 1, 2, 3);
      piece(x, 9);
      piece(x, 1, 2, 3);
      due(6, x.leastList(0));
      due(2, x.leastList(1));
      x.takeBack(0);
      due(0, x.leastList(0));
      due(0, x.leastList(1));
      good(x, 0, 9, 9);
      due(6, x.leastList(0));
      due(1, x.leastList(1));
      x.restore();
      due(0, x.leastList(1));
      due(0, x.leastList(0));
    });
    holds(12, "(the first 10; others as they are)", "note 9 is chosen, note 10 is not", () -> {
      TongueBook x = new TongueBook();
      good(x, 0, 1, 2, 3);
      for (int n = 0; n < 9; n++) {
        piece(x, 9);
      }
      piece(x, 1, 2, 3);
      x.use(9, false);
      due(6, x.leastList(0));
      due(512, x.leastList(1));
      good(x, 0, 4, 5, 6);
      due(21, x.leastList(0));
      due(10, piece(x, 4, 5, 6));
      due(12, x.leastList(0));
      due(512, x.leastList(1));
      x.use(10, false);
      due(21, x.leastList(0));
      due(512, x.leastList(1));
    });
    holds(12, "(the first 10; others as they are)", "note 15, used in vain or not", () -> {
      TongueBook x = new TongueBook();
      for (int n = 0; n < 15; n++) {
        piece(x, 9);
        x.use(n, false);
      }
      piece(x, 9);
      due(2, x.leastList(0));
      due(0, x.leastList(1));
      x.use(15, false);
      due(0, x.leastList(0));
      x.use(10, true);
      due(2, x.leastList(0));
      x.use(9, true);
      due(2, x.leastList(0));
      good(x, 0, 9);
      due(4, x.leastList(0));
      due(0, x.leastList(1));
    });
    holds(12, "of several the least as bits", "as little with another, and with none", () -> {
      TongueBook x = new TongueBook();
      good(x, 0, 1, 2);
      piece(x, 3);
      piece(x, 1, 2);
      piece(x, 1, 2);
      due(5, x.leastList(0));
      due(2, x.leastList(1));
      TongueBook y = new TongueBook();
      good(y, 0, 1);
      addNote(y, DOUBLED, 1);
      addNote(y, END, 2);
      due(5, y.leastList(0));
      due(0, y.leastList(1));
      TongueBook z = new TongueBook();
      good(z, 0, 1, 2);
      addNote(z, LOAN, 1, 2);
      due(10, z.leastList(0));
      due(0, z.leastList(1));
    });
    holds(12, "of several the least as bits", "two low notes, or one high one", () -> {
      TongueBook x = new TongueBook();
      good(x, 0, 1, 2, 3, 4);
      good(x, 0, 1, 2, 3, 4);
      piece(x, 1, 2);
      piece(x, 3, 4);
      addNote(x, LOAN, 1, 2, 3, 4);
      due(14, x.leastList(0));
      due(3, x.leastList(1));
    });
    holds(12, "of several the least as bits", "one low note, or two high ones", () -> {
      TongueBook x = new TongueBook();
      good(x, 0, 1, 2, 3, 4);
      good(x, 0, 1, 2, 3, 4);
      addNote(x, LOAN, 1, 2, 3, 4);
      piece(x, 1, 2);
      piece(x, 3, 4);
      due(14, x.leastList(0));
      due(1, x.leastList(1));
    });
  }
}
