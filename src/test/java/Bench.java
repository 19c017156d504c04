import java.io.IOException;
import java.nio.charset.StandardCharsets;
import java.nio.file.Files;
import java.nio.file.Path;

/**
 * What the boundary tests share: each test holds words of the document that name a boundary, and
 * these words must stand there, in the promise itself or in the terms.
 */
abstract class Bench {
  static final int LOWEST = Integer.MIN_VALUE;
  static final int HIGHEST = Integer.MAX_VALUE;
  static final int PROMISES = 41;

  /** A test of its own. */
  interface Trial {
    void run();
  }

  /** A call that takes a SHELF. */
  interface ShelfCall {
    int on(int d);
  }

  private static final boolean[] tested = new boolean[PROMISES + 1];
  private static final String document = readDocument();
  private static String now = "";
  private static int tests;
  private static int checks;
  private static int wrong;

  private static String readDocument() {
    try {
      String text = Files.readString(Path.of("../shared/DOC.md"), StandardCharsets.UTF_8);
      return text.replaceAll("\\s+", " ");
    } catch (IOException e) {
      throw new IllegalStateException("no document", e);
    }
  }

  private static String part(String from, String to) {
    int start = document.indexOf(from);
    return document.substring(start, document.indexOf(to, start + from.length()));
  }

  private static boolean standsThere(int promise, String words) {
    String next = promise < PROMISES ? "## Promise " + (promise + 1) + ":" : "## Not promised";
    return part("## Promise " + promise + ":", next).contains(words)
        || part("## Terms", "## Promise 1:").contains(words);
  }

  static void holds(int promise, String words, String boundary, Trial trial) {
    now = promise + " '" + words + "', " + boundary;
    tests++;
    tested[promise] = true;
    if (!standsThere(promise, words)) {
      fault("these words are not in the document");
    }
    try {
      trial.run();
    } catch (RuntimeException e) {
      fault("threw " + e);
    }
  }

  /** A test of several calls that go on in the one that asks for this object. */
  static TongueBook start(String name) {
    now = name;
    tests++;
    return new TongueBook();
  }

  private static void fault(String what) {
    wrong++;
    System.out.println(now + ": " + what);
  }

  static void due(long want, long got) {
    checks++;
    if (want != got) {
      fault("line " + lineOfTest() + " answered " + got + ", due is " + want);
    }
  }

  /** What element answers, or the name of what it throws. */
  static void dueElement(String want, TongueBook x, int d, int i) {
    String got;
    try {
      got = "" + x.element(d, i);
    } catch (RuntimeException e) {
      got = e.getClass().getSimpleName();
    }
    checks++;
    if (!want.equals(got)) {
      fault("line " + lineOfTest() + " answered " + got + ", due is " + want);
    }
  }

  private static int lineOfTest() {
    for (StackTraceElement at : new Throwable().getStackTrace()) {
      if (!at.getClassName().equals("Bench")) {
        return at.getLineNumber();
      }
    }
    return 0;
  }

  /** Each of these promises must have a test. */
  static void end(String name, int first, int last) {
    for (int promise = first; promise <= last; promise++) {
      if (!tested[promise]) {
        now = "promise " + promise;
        fault("has no test");
      }
    }
    end(name);
  }

  static void end(String name) {
    System.out.println(name + ": " + tests + " tests, " + checks + " checks, " + wrong + " wrong");
    if (wrong != 0) {
      System.exit(1);
    }
  }

  // ---- what is put on shelves: SHELF 7 is where most rows are made

  static void row(TongueBook x, int d, int sort, int... all) {
    due(0, x.row(d, sort, all.length));
    for (int i = 0; i < all.length; i++) {
      if (all[i] != 0) {
        due(0, x.put(d, i, all[i]));
      }
    }
  }

  static void bytes(TongueBook x, int d, int... all) {
    row(x, d, 0, all);
  }

  static void text(TongueBook x, int d, String signs) {
    bytes(x, d, signs.chars().toArray());
  }

  static void dueRow(TongueBook x, int d, int... all) {
    for (int i = 0; i < all.length; i++) {
      dueElement("" + all[i], x, d, i);
    }
    dueElement("IllegalStateException", x, d, all.length);
  }

  static int addCard(TongueBook x, int meaning, int told, int hour, int... sounds) {
    bytes(x, 7, sounds);
    return x.card(7, meaning, told, hour);
  }

  /** A GOOD CARD of SPEAKER 0, HEARER 0 and HOUR 0. */
  static int good(TongueBook x, int meaning, int... sounds) {
    return addCard(x, meaning, 1, 0, sounds);
  }

  static int laughed(TongueBook x, int meaning, int... sounds) {
    return addCard(x, meaning, 0, 0, sounds);
  }

  static int addNote(TongueBook x, int kind, int... sounds) {
    bytes(x, 7, sounds);
    return x.note(7, kind);
  }

  static int piece(TongueBook x, int... sounds) {
    return addNote(x, 0, sounds);
  }

  static int addRule(TongueBook x, String signs) {
    text(x, 7, signs);
    return x.rule(7);
  }

  static int say(TongueBook x, int speaker, int hour, boolean isGood, int... parts) {
    bytes(x, 7, parts);
    return x.said(7, speaker, hour, isGood);
  }

  static int addWord(TongueBook x, int card, int... sounds) {
    bytes(x, 7, sounds);
    return x.neighbour(7, card);
  }

  /** HEARD of SOUNDS, written as digits, by way of SHELVES 6 and 5. */
  static void hears(TongueBook x, String sounds, String want) {
    bytes(x, 6, digits(sounds));
    due(want.length(), x.heard(6, 5));
    dueRow(x, 5, digits(want));
  }

  static int[] digits(String text) {
    return text.chars().map(sign -> sign - '0').toArray();
  }

  static int[] many(int size, int value) {
    int[] all = new int[size];
    java.util.Arrays.fill(all, value);
    return all;
  }

  /** A call that wants a ROW of bytes, on SHELVES that hold nothing. */
  static void dueNothingHeld(TongueBook x, ShelfCall call) {
    for (int d = 0; d < 8; d++) {
      due(0, x.keep(d, 0, 0));
      due(-11, call.on(d));
    }
  }

  /** A call that wants a ROW of bytes, on SHELVES that hold anything else, rightly filled. */
  static void dueOtherKind(TongueBook x, ShelfCall call, int... right) {
    row(x, 6, 1, right);
    due(-12, call.on(6));
    row(x, 6, 2, right);
    due(-12, call.on(6));
    due(0, x.row(6, 1, 0));
    due(-12, call.on(6));
    due(0, x.keep(6, 1, 0));
    due(-12, call.on(6));
  }

  /** A call that wants SOUNDS, on rows of which one element is none. */
  static void dueNoSound(TongueBook x, ShelfCall call, int size) {
    int[] none = {-1, 10, 127, -128};
    for (int place = 0; place < size; place++) {
      for (int v : none) {
        due(0, x.row(6, 0, size));
        due(0, x.put(6, place, v));
        due(-13, call.on(6));
      }
    }
  }

  static void dueNoShelf(ShelfCall call) {
    int[] none = {-1, 8, 9, LOWEST, HIGHEST};
    for (int d : none) {
      due(-1, call.on(d));
    }
  }
}
