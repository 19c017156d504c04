/** The boundaries that promises 35 to 41 name: shelves. */
public final class BoundaryShelvesTest extends Bench {
  private static final String NO_SHELF = "IllegalArgumentException";
  private static final String NO_PLACE = "IllegalStateException";
  private static final int PIECE = 0;
  private static final int ROOT = 1;
  private static final int END = 2;
  private static final int DOUBLED = 3;
  private static final int LOAN = 4;

  public static void main(String[] args) {
    keep();
    rowNumbers();
    rowElements();
    putNumbers();
    putBits();
    element();
    copyNumbers();
    copyPlaces();
    copyRows();
    length();
    tossNumbers();
    tossKinds();
    end("BoundaryShelvesTest", 35, 41);
  }

  private static void keep() {
    holds(35, "-1", "shelves 0 and 7, not -1 nor 8", () -> {
      TongueBook x = new TongueBook();
      piece(x, 1);
      dueNoShelf(d -> x.keep(d, 0, 0));
      dueNoShelf(d -> x.keep(d, 1, 0));
      due(0, x.keep(0, 1, 0));
      due(0, x.keep(7, 1, 0));
      due(2, x.length(0));
      due(2, x.length(7));
    });
    holds(35, "what = 0 nothing (the others do not matter); 1 NOTE k", "not what -1 nor 2", () -> {
      TongueBook x = new TongueBook();
      piece(x, 1);
      int[] none = {-1, 2, 3, LOWEST, HIGHEST};
      for (int what : none) {
        due(-1, x.keep(0, what, 0));
      }
      due(-11, x.length(0));
      due(0, x.keep(0, 1, 0));
      due(0, x.keep(0, 0, 0));
      due(-11, x.length(0));
    });
    holds(35, "(the others do not matter)", "a number of no note", () -> {
      TongueBook x = new TongueBook();
      int[] others = {-1, 0, 1, 16, LOWEST, HIGHEST};
      for (int k : others) {
        bytes(x, 0, 1);
        due(0, x.keep(0, 0, k));
        due(-11, x.put(0, 0, 1));
      }
    });
    holds(35, "-1", "no note yet", () -> {
      TongueBook x = new TongueBook();
      due(-1, x.keep(0, 1, 0));
      due(-1, x.keep(0, 1, -1));
    });
    holds(35, "1 NOTE k", "the last note, not the one behind it", () -> {
      TongueBook x = new TongueBook();
      bytes(x, 0, 1);
      for (int n = 0; n < 16; n++) {
        due(-1, x.keep(1, 1, n));
        bytes(x, 0, many(1 + n % 4, 1));
        due(n, x.note(0, 0));
        due(0, x.keep(1, 1, n));
        due(2 + n % 4, x.length(1));
      }
      int[] none = {-1, 16, 17, LOWEST, HIGHEST};
      for (int k : none) {
        due(-1, x.keep(1, 1, k));
      }
      due(5, x.length(1));
    });
    holds(35, "1 NOTE k", "used or not, on several shelves", () -> {
      TongueBook x = new TongueBook();
      piece(x, 1);
      x.use(0, false);
      for (int d = 0; d < 8; d++) {
        due(0, x.keep(d, 1, 0));
      }
      due(0, x.keep(0, 0, 0));
      for (int d = 1; d < 8; d++) {
        due(2, x.length(d));
      }
    });
  }

  private static void rowNumbers() {
    holds(36, "-1 (n above 80)", "shelves 0 and 7, not -1 nor 8", () -> {
      TongueBook x = new TongueBook();
      dueNoShelf(d -> x.row(d, 0, 1));
      due(0, x.row(0, 0, 1));
      due(0, x.row(7, 0, 1));
    });
    holds(36, "a SORT (0 bytes, 1 shorts, 2 ints)", "0 to 2, not -1 nor 3", () -> {
      TongueBook x = new TongueBook();
      int[] none = {-1, 3, 4, LOWEST, HIGHEST};
      for (int sort : none) {
        due(-1, x.row(0, sort, 1));
      }
      for (int sort = 0; sort < 3; sort++) {
        due(0, x.row(0, sort, 1));
      }
    });
    holds(36, "-1 (n above 80)", "80, not 81", () -> {
      TongueBook x = new TongueBook();
      int[] none = {81, 82, 128, HIGHEST};
      for (int sort = 0; sort < 3; sort++) {
        for (int n : none) {
          due(-1, x.row(0, sort, n));
        }
        due(0, x.row(0, sort, 80));
        due(0, x.put(0, 79, 1));
        due(-13, x.put(0, 80, 1));
      }
    });
    holds(36, "-14 a size below 0", "0, not -1", () -> {
      TongueBook x = new TongueBook();
      int[] below = {-1, -2, -80, LOWEST};
      for (int sort = 0; sort < 3; sort++) {
        for (int n : below) {
          due(-14, x.row(0, sort, n));
        }
        due(0, x.row(0, sort, 0));
        due(-13, x.put(0, 0, 1));
      }
    });
    holds(36, "-14", "-1 ahead of it", () -> {
      TongueBook x = new TongueBook();
      due(-1, x.row(-1, 0, -1));
      due(-1, x.row(8, 0, -1));
      due(-1, x.row(0, 3, -1));
      due(-1, x.row(0, -1, -1));
      due(-14, x.row(0, 0, -1));
    });
  }

  private static void rowElements() {
    holds(36, "0 .. 80 elements, 0 at first", "of each sort, over what was there", () -> {
      for (int sort = 0; sort < 3; sort++) {
        TongueBook x = new TongueBook();
        x.row(3, 2, 80);
        for (int i = 0; i < 80; i++) {
          x.put(3, i, 77 + i);
        }
        due(0, x.row(3, sort, 80));
        dueRow(x, 3, new int[80]);
      }
    });
    holds(36, "SHELF d gets a ROW of a SORT", "in place of a note, and of a longer row", () -> {
      TongueBook x = new TongueBook();
      piece(x, 1);
      x.keep(0, 1, 0);
      due(0, x.row(0, 0, 1));
      due(-12, x.length(0));
      dueRow(x, 0, 0);
      bytes(x, 1, 1, 2, 3);
      due(0, x.row(1, 2, 2));
      dueRow(x, 1, 0, 0);
    });
  }

  private static void putNumbers() {
    holds(37, "-1", "shelves 0 and 7, not -1 nor 8", () -> {
      TongueBook x = new TongueBook();
      dueNoShelf(d -> x.put(d, 0, 1));
      x.row(0, 0, 1);
      x.row(7, 0, 1);
      due(0, x.put(0, 0, 1));
      due(0, x.put(7, 0, 2));
      dueRow(x, 0, 1);
      dueRow(x, 7, 2);
    });
    holds(37, "-11", "nothing is held", () -> {
      TongueBook x = new TongueBook();
      dueNothingHeld(x, d -> x.put(d, 0, 1));
      dueNothingHeld(x, d -> x.put(d, -1, 1));
    });
    holds(37, "-12", "a note is held", () -> {
      TongueBook x = new TongueBook();
      piece(x, 1);
      x.keep(0, 1, 0);
      due(-12, x.put(0, 0, 1));
      due(-12, x.put(0, -1, 1));
      due(-12, x.put(0, 80, 1));
    });
    holds(37, "-13 a place that isn't there", "the first and the last, not -1 nor one behind", () -> {
      TongueBook x = new TongueBook();
      int[] sizes = {0, 1, 2, 80};
      for (int size : sizes) {
        for (int sort = 0; sort < 3; sort++) {
          x.row(0, sort, size);
          int[] none = {-1, size, size + 1, LOWEST, HIGHEST};
          for (int i : none) {
            due(-13, x.put(0, i, 1));
          }
          for (int i = 0; i < size; i += Math.max(1, size - 1)) {
            due(0, x.put(0, i, 1));
          }
        }
      }
    });
  }

  private static void dueKept(int sort, int put, int kept) {
    TongueBook x = new TongueBook();
    x.row(0, sort, 3);
    due(0, x.put(0, 1, put));
    dueRow(x, 0, 0, kept, 0);
  }

  private static void putBits() {
    String words = "what is put in keeps its lowest bits";
    holds(37, words, "bytes: -128 to 127, then round", () -> {
      int[][] all = {{127, 127}, {128, -128}, {-128, -128}, {-129, 127}, {255, -1}, {256, 0}, {-256, 0},
          {511, -1}, {HIGHEST, -1}, {LOWEST, 0}};
      for (int[] one : all) {
        dueKept(0, one[0], one[1]);
      }
    });
    holds(37, words, "shorts: -32768 to 32767, then round", () -> {
      int[][] all = {{32767, 32767}, {32768, -32768}, {-32768, -32768}, {-32769, 32767}, {65535, -1},
          {65536, 0}, {128, 128}, {-129, -129}, {HIGHEST, -1}, {LOWEST, 0}};
      for (int[] one : all) {
        dueKept(1, one[0], one[1]);
      }
    });
    holds(37, words, "ints: all", () -> {
      int[] all = {0, -1, 128, 32768, 65536, -32769, HIGHEST, LOWEST};
      for (int v : all) {
        dueKept(2, v, v);
      }
    });
  }

  private static void element() {
    holds(38, "IllegalArgumentException: no such SHELF", "shelves 0 and 7, not -1 nor 8", () -> {
      TongueBook x = new TongueBook();
      int[] none = {-1, 8, 9, LOWEST, HIGHEST};
      for (int d : none) {
        dueElement(NO_SHELF, x, d, 0);
        dueElement(NO_SHELF, x, d, -1);
      }
      bytes(x, 0, 4);
      bytes(x, 7, 5);
      dueElement("4", x, 0, 0);
      dueElement("5", x, 7, 0);
    });
    holds(38, "IllegalStateException: no ROW", "nothing held, and a note", () -> {
      TongueBook x = new TongueBook();
      for (int d = 0; d < 8; d++) {
        dueElement(NO_PLACE, x, d, 0);
      }
      piece(x, 1);
      x.keep(0, 1, 0);
      dueElement(NO_PLACE, x, 0, 0);
      x.row(0, 0, 1);
      dueElement("0", x, 0, 0);
      x.keep(0, 0, 0);
      dueElement(NO_PLACE, x, 0, 0);
    });
    holds(38, "no such place", "the first and the last, not -1 nor one behind", () -> {
      TongueBook x = new TongueBook();
      int[] sizes = {0, 1, 2, 80};
      for (int size : sizes) {
        for (int sort = 0; sort < 3; sort++) {
          x.row(0, sort, size);
          int[] none = {-1, size, size + 1, LOWEST, HIGHEST};
          for (int i : none) {
            dueElement(NO_PLACE, x, 0, i);
          }
          for (int i = 0; i < size; i += Math.max(1, size - 1)) {
            dueElement("0", x, 0, i);
          }
        }
      }
    });
    holds(38, "Element i of the ROW", "the least and the greatest of each sort", () -> {
      TongueBook x = new TongueBook();
      row(x, 0, 0, -128, 127);
      row(x, 1, 1, -32768, 32767);
      row(x, 2, 2, LOWEST, HIGHEST);
      dueRow(x, 0, -128, 127);
      dueRow(x, 1, -32768, 32767);
      dueRow(x, 2, LOWEST, HIGHEST);
    });
  }

  private static void copyNumbers() {
    holds(39, "-1", "shelves 0 and 7, not -1 nor 8, either", () -> {
      TongueBook x = new TongueBook();
      bytes(x, 0, 4);
      bytes(x, 7, 5);
      dueNoShelf(d -> x.copy(d, 0, 0, 0, 1));
      dueNoShelf(e -> x.copy(0, 0, e, 0, 1));
      due(1, x.copy(0, 0, 7, 0, 1));
      dueRow(x, 7, 4);
      x.put(7, 0, 6);
      due(1, x.copy(7, 0, 0, 0, 1));
      dueRow(x, 0, 6);
    });
    holds(39, "-11 (either)", "nothing held in one, or both", () -> {
      TongueBook x = new TongueBook();
      bytes(x, 0, 4);
      due(-11, x.copy(1, 0, 0, 0, 1));
      due(-11, x.copy(0, 0, 1, 0, 1));
      due(-11, x.copy(1, 0, 2, 0, 1));
      due(-11, x.copy(1, 0, 1, 0, 0));
    });
    holds(39, "-12 (no ROWS of one SORT)", "each two sorts, and notes", () -> {
      TongueBook x = new TongueBook();
      for (int d = 0; d < 3; d++) {
        x.row(d, d, 2);
      }
      for (int d = 0; d < 3; d++) {
        for (int e = 0; e < 3; e++) {
          due(d == e ? 1 : -12, x.copy(d, 0, e, 1, 1));
        }
      }
      piece(x, 1);
      x.keep(3, 1, 0);
      x.keep(4, 1, 0);
      for (int d = 0; d < 3; d++) {
        due(-12, x.copy(d, 0, 3, 0, 1));
        due(-12, x.copy(3, 0, d, 0, 1));
      }
      due(-12, x.copy(3, 0, 4, 0, 0));
      due(-12, x.copy(3, 0, 3, 0, 0));
    });
    holds(39, "-1, -11 (either), -12 (no ROWS of one SORT), -13", "which is first", () -> {
      TongueBook x = new TongueBook();
      piece(x, 1);
      x.keep(0, 1, 0);
      x.row(1, 1, 2);
      x.row(2, 2, 2);
      due(-1, x.copy(3, 0, 8, 0, -1));
      due(-1, x.copy(-1, 0, 3, 0, -1));
      due(-11, x.copy(0, 0, 3, 0, -1));
      due(-11, x.copy(3, 0, 0, 0, -1));
      due(-12, x.copy(1, 0, 2, 0, -1));
      due(-12, x.copy(1, -1, 2, 5, 1));
      due(-13, x.copy(1, 0, 1, 0, -1));
    });
  }

  private static void copyPlaces() {
    holds(39, "-13 (n below 0, too)", "0, not -1", () -> {
      TongueBook x = new TongueBook();
      bytes(x, 0, 1, 2, 3);
      bytes(x, 1, 4, 5, 6);
      int[] below = {-1, -2, LOWEST};
      for (int n : below) {
        due(-13, x.copy(0, 0, 1, 0, n));
        due(-13, x.copy(0, 3, 1, 3, n));
      }
      due(0, x.copy(0, 0, 1, 0, 0));
      dueRow(x, 1, 4, 5, 6);
    });
    holds(39, "-13 (n below 0, too)", "places of d: up to the last, not one behind", () -> {
      TongueBook x = new TongueBook();
      bytes(x, 0, 1, 2, 3);
      x.row(1, 0, 80);
      due(3, x.copy(0, 0, 1, 0, 3));
      due(-13, x.copy(0, 0, 1, 0, 4));
      due(1, x.copy(0, 2, 1, 0, 1));
      due(-13, x.copy(0, 2, 1, 0, 2));
      due(-13, x.copy(0, 3, 1, 0, 1));
      due(-13, x.copy(0, -1, 1, 0, 1));
      due(-13, x.copy(0, -1, 1, 0, 3));
      due(-13, x.copy(0, LOWEST, 1, 0, 1));
      due(-13, x.copy(0, HIGHEST, 1, 0, 1));
      due(-13, x.copy(0, 1, 1, 0, HIGHEST));
      due(-13, x.copy(0, HIGHEST, 1, 0, HIGHEST));
    });
    holds(39, "-13 (n below 0, too)", "places of e: up to the last, not one behind", () -> {
      TongueBook x = new TongueBook();
      x.row(0, 0, 80);
      bytes(x, 1, 1, 2, 3);
      due(3, x.copy(0, 0, 1, 0, 3));
      due(-13, x.copy(0, 0, 1, 0, 4));
      due(1, x.copy(0, 0, 1, 2, 1));
      due(-13, x.copy(0, 0, 1, 2, 2));
      due(-13, x.copy(0, 0, 1, 3, 1));
      due(-13, x.copy(0, 0, 1, -1, 1));
      due(-13, x.copy(0, 0, 1, -1, 3));
      due(-13, x.copy(0, 0, 1, LOWEST, 1));
      due(-13, x.copy(0, 0, 1, HIGHEST, 1));
      due(-13, x.copy(0, 0, 1, HIGHEST, 80));
    });
    holds(39, "-13 (n below 0, too)", "none from behind the last on, not further, nor ahead", () -> {
      TongueBook x = new TongueBook();
      x.row(0, 0, 3);
      x.row(1, 0, 0);
      due(0, x.copy(0, 3, 1, 0, 0));
      due(0, x.copy(1, 0, 0, 3, 0));
      due(-13, x.copy(0, 4, 1, 0, 0));
      due(-13, x.copy(1, 0, 0, 4, 0));
      due(-13, x.copy(0, -1, 1, 0, 0));
      due(-13, x.copy(1, 0, 0, -1, 0));
      due(-13, x.copy(1, 1, 1, 0, 0));
      due(-13, x.copy(1, 0, 1, 0, 1));
    });
  }

  private static void copyRows() {
    holds(39, "n elements of the ROW in SHELF d from i on come to that in SHELF e from j on: n", "80", () -> {
      for (int sort = 0; sort < 3; sort++) {
        TongueBook x = new TongueBook();
        x.row(0, sort, 80);
        for (int i = 0; i < 80; i++) {
          x.put(0, i, i + 1);
        }
        x.row(1, sort, 80);
        due(80, x.copy(0, 0, 1, 0, 80));
        for (int i = 0; i < 80; i++) {
          dueElement("" + (i + 1), x, 1, i);
        }
      }
    });
    holds(39, "come to that in SHELF e from j on", "no more, no fewer, and d stays", () -> {
      TongueBook x = new TongueBook();
      row(x, 0, 1, 300, 301, 302, 303);
      row(x, 1, 1, 1, 2, 3, 4, 5);
      due(2, x.copy(0, 1, 1, 2, 2));
      dueRow(x, 1, 1, 2, 301, 302, 5);
      dueRow(x, 0, 300, 301, 302, 303);
    });
    holds(39, "come to that in SHELF e from j on", "within one row, over one another", () -> {
      TongueBook x = new TongueBook();
      bytes(x, 0, 1, 2, 3, 4, 5);
      due(4, x.copy(0, 0, 0, 1, 4));
      dueRow(x, 0, 1, 1, 2, 3, 4);
      due(4, x.copy(0, 1, 0, 0, 4));
      dueRow(x, 0, 1, 2, 3, 4, 4);
      due(5, x.copy(0, 0, 0, 0, 5));
      dueRow(x, 0, 1, 2, 3, 4, 4);
    });
  }

  private static void dueLengths(int kind, int... lengths) {
    TongueBook x = new TongueBook();
    for (int size = 1; size <= 4; size++) {
      int n = addNote(x, kind, many(size, 9));
      due(0, x.keep(0, 1, n));
      due(lengths[size - 1], x.length(0));
    }
  }

  private static void length() {
    holds(40, "LENGTH of the NOTE on SHELF d", "each kind, of 1 to 4 sounds", () -> {
      dueLengths(PIECE, 2, 3, 4, 5);
      dueLengths(ROOT, 4, 5, 6, 7);
      dueLengths(END, 2, 3, 4, 5);
      dueLengths(DOUBLED, 3, 5, 7, 9);
      dueLengths(LOAN, 7, 8, 9, 10);
    });
    holds(40, "-1", "shelves 0 and 7, not -1 nor 8", () -> {
      TongueBook x = new TongueBook();
      piece(x, 1);
      dueNoShelf(x::length);
      x.keep(0, 1, 0);
      x.keep(7, 1, 0);
      due(2, x.length(0));
      due(2, x.length(7));
    });
    holds(40, "-11", "nothing is held", () -> {
      TongueBook x = new TongueBook();
      dueNothingHeld(x, x::length);
    });
    holds(40, "-12 (a ROW)", "of each sort, empty or not", () -> {
      TongueBook x = new TongueBook();
      for (int sort = 0; sort < 3; sort++) {
        x.row(0, sort, 0);
        due(-12, x.length(0));
        x.row(0, sort, 80);
        due(-12, x.length(0));
      }
    });
  }

  private static void tossNumbers() {
    holds(41, "-1", "shelves 0 and 7, not -1 nor 8", () -> {
      TongueBook x = new TongueBook();
      piece(x, 1);
      piece(x, 1, 2);
      dueNoShelf(x::toss);
      x.keep(0, 1, 1);
      x.keep(7, 1, 1);
      due(1, x.toss(0));
      due(1, x.toss(7));
    });
    holds(41, "-11", "nothing is held", () -> {
      TongueBook x = new TongueBook();
      dueNothingHeld(x, x::toss);
    });
    holds(41, "-12 (a ROW)", "of each sort, empty or not", () -> {
      TongueBook x = new TongueBook();
      for (int sort = 0; sort < 3; sort++) {
        x.row(0, sort, 0);
        due(-12, x.toss(0));
        x.row(0, sort, 80);
        due(-12, x.toss(0));
      }
    });
  }

  /** FAILURES of NOTES of this KIND, of 1 to 4 SOUNDS each, as they are numbered from 0 to 15. */
  private static void dueFailures(int kind, int first, int step, boolean hasAny) {
    TongueBook x = new TongueBook();
    for (int n = 0; n < 16; n++) {
      int size = 1 + n % 4;
      due(n, addNote(x, kind, many(size, 7)));
      due(0, x.keep(0, 1, n));
      due(hasAny && size > 1 ? first + step * n : -15, x.toss(0));
    }
  }

  private static void tossKinds() {
    holds(41, "its number (the NOTE's)", "pieces and roots, up to 15", () -> {
      dueFailures(PIECE, 0, 1, true);
      dueFailures(ROOT, 0, 1, true);
    });
    holds(41, "of LOANS 100 more", "up to 115", () -> dueFailures(LOAN, 100, 1, true));
    holds(41, "of DOUBLED ones their first SOUND in place of that", "0 and 9, whatever the number", () -> {
      dueFailures(DOUBLED, 7, 0, true);
      TongueBook x = new TongueBook();
      addNote(x, DOUBLED, 9, 0);
      addNote(x, DOUBLED, 0, 9, 9, 9);
      x.keep(0, 1, 0);
      x.keep(1, 1, 1);
      due(9, x.toss(0));
      due(0, x.toss(1));
    });
    holds(41, "-15: ENDS, and any of one SOUND, have none", "ends of 1 to 4 sounds", () ->
        dueFailures(END, 0, 0, false));
    holds(41, "-15: ENDS, and any of one SOUND, have none", "one sound has none, two have", () -> {
      TongueBook x = new TongueBook();
      for (int kind = 0; kind < 5; kind++) {
        x.keep(0, 1, addNote(x, kind, 3));
        due(-15, x.toss(0));
        int n = addNote(x, kind, 3, 4);
        x.keep(0, 1, n);
        int[] failures = {n, n, -15, 3, 100 + n};
        due(failures[kind], x.toss(0));
      }
    });
  }
}
