/** Which refusal is the answer where several hold: all ways to choose right and wrong numbers. */
public final class RefusalOrderTest extends Bench {
  private static final String WORDS = "Answers of several refusals are the first one here";
  private static final long NOT_REFUSED = Long.MIN_VALUE;
  /** An object serves 512 calls: what a maker does must fit in beside these. */
  private static final int REFUSALS_OF_ONE = 300;
  private static final int RIGHT = 7;
  private static final int[] ALL_SHELVES = {-1, 0, 1, 2, 3, 4, 5, 6, RIGHT, 8};
  /** What each SHELF is refused with where a few SOUNDS, or parts, are wanted. */
  private static final int[] OF_SOUNDS = {-11, -12, -12, -12, -13, -13, -13, 0};
  private static final int[] OF_TEXTS = {-11, -12, -12, -12, -100, -100, -100, -100};

  private interface Maker {
    TongueBook make();
  }

  private interface Call {
    long on(TongueBook x, int[] a);
  }

  private interface Want {
    long of(int[] a);
  }

  public static void main(String[] args) {
    cards();
    notes();
    rules();
    heard();
    sayings();
    words();
    shelves();
    copies();
    nothingThere();
    end("RefusalOrderTest");
  }

  private static void dueFirst(Maker maker, Call call, Want want, int[]... choices) {
    int ways = 1;
    for (int[] one : choices) {
      ways *= one.length;
    }
    TongueBook x = maker.make();
    int calls = 0;
    int[] a = new int[choices.length];
    for (int way = 0; way < ways; way++) {
      int rest = way;
      for (int k = 0; k < a.length; k++) {
        a[k] = choices[k][rest % choices[k].length];
        rest /= choices[k].length;
      }
      long wanted = want.of(a);
      long got = call.on(x, a);
      calls++;
      due(wanted == NOT_REFUSED ? Math.max(got, 0) : wanted, got);
      if (wanted == NOT_REFUSED || calls == REFUSALS_OF_ONE) {
        x = maker.make();
        calls = 0;
      }
    }
  }

  /** Nothing, a NOTE, shorts, ints, no element, too many, one that is no SOUND; the right one. */
  private static TongueBook shelved(TongueBook x) {
    row(x, 2, 1, 1, 2);
    row(x, 3, 2, 1, 2);
    bytes(x, 4);
    bytes(x, 5, many(9, 1));
    bytes(x, 6, 1, 10);
    bytes(x, RIGHT, 1, 2);
    if (x.count(2) == 0) {
      x.note(RIGHT, 0);
    }
    x.keep(1, 1, 0);
    return x;
  }

  private static TongueBook withCards(int many) {
    TongueBook x = new TongueBook();
    bytes(x, 0, 1);
    for (int c = 0; c < many; c++) {
      x.card(0, 1, 1, 1);
    }
    x.keep(0, 0, 0);
    return shelved(x);
  }

  private static boolean isShelf(int d) {
    return isIn(d, 8);
  }

  private static boolean isIn(int n, int size) {
    return n >= 0 && n < size;
  }

  private static long ofShelf(int[] refusals, int d, int room) {
    if (room == 0) {
      return -2;
    }
    return refusals[d] == 0 ? NOT_REFUSED : refusals[d];
  }

  private static void cards() {
    for (int room = 0; room < 2; room++) {
      int left = room;
      holds(2, WORDS, "card, " + (room == 0 ? "no room" : "room for one more"), () ->
          dueFirst(() -> withCards(40 - left), (x, a) -> x.card(a[0], a[1], a[2], a[3]),
              a -> isShelf(a[0]) && isIn(a[1], 1024) && isIn(a[2], 800) && a[2] / 10 % 10 < 4
                  && a[2] % 10 < 2 && isIn(a[3], 1000) ? ofShelf(OF_SOUNDS, a[0], left) : -1,
              ALL_SHELVES, new int[] {-1, 0, 1023, 1024}, new int[] {-1, 1, 2, 40, 731, 800},
              new int[] {-1, 0, 999, 1000}));
    }
  }

  private static TongueBook withNotes(int many) {
    TongueBook x = new TongueBook();
    bytes(x, 0, 1);
    for (int n = 0; n < many; n++) {
      x.note(0, 0);
    }
    x.keep(0, 0, 0);
    return shelved(x);
  }

  private static void notes() {
    for (int room = 0; room < 2; room++) {
      int left = room;
      holds(8, WORDS, "note, " + (room == 0 ? "no room" : "room for one more"), () ->
          dueFirst(() -> withNotes(16 - left), (x, a) -> x.note(a[0], a[1]),
              a -> isShelf(a[0]) && isIn(a[1], 5) ? ofShelf(OF_SOUNDS, a[0], left) : -1,
              ALL_SHELVES, new int[] {LOWEST, -1, 0, 4, 5}));
    }
  }

  private static TongueBook withRules(int many) {
    TongueBook x = new TongueBook();
    text(x, 0, "1>2/._.");
    for (int r = 0; r < many; r++) {
      x.rule(0);
    }
    x.keep(0, 0, 0);
    return shelved(x);
  }

  private static void rules() {
    holds(13, WORDS, "fault", () ->
        dueFirst(() -> withRules(0), (x, a) -> x.fault(a[0]),
            a -> !isShelf(a[0]) ? -1 : OF_TEXTS[a[0]] == -100 ? 0 : OF_TEXTS[a[0]], ALL_SHELVES));
    for (int room = 0; room < 2; room++) {
      int left = room;
      holds(14, "-1, -2, -11, -12, -100 less a FAULT, in this order",
          room == 0 ? "no room" : "room for one more", () ->
          dueFirst(() -> withRules(8 - left), (x, a) -> x.rule(a[0]),
              a -> isShelf(a[0]) ? ofShelf(OF_TEXTS, a[0], left) : -1, ALL_SHELVES));
    }
  }

  private static void heard() {
    int[] refusals = {-11, -12, -12, -12, 0, 0, -13, 0};
    holds(15, WORDS, "heard", () ->
        dueFirst(() -> shelved(new TongueBook()), (x, a) -> x.heard(a[0], a[1]),
            a -> isShelf(a[0]) && isShelf(a[1]) ? ofShelf(refusals, a[0], 1) : -1,
            ALL_SHELVES, ALL_SHELVES));
  }

  private static TongueBook withSaid(int many) {
    TongueBook x = new TongueBook();
    bytes(x, 0, 1);
    for (int k = 0; k < many; k++) {
      x.said(0, 0, 0, true);
    }
    x.keep(0, 0, 0);
    return shelved(x);
  }

  private static void sayings() {
    for (int room = 0; room < 2; room++) {
      int left = room;
      holds(17, WORDS, "said, " + (room == 0 ? "no room" : "room for one more"), () ->
          dueFirst(() -> withSaid(20 - left), (x, a) -> x.said(a[0], a[1], a[2], a[3] == 1),
              a -> isShelf(a[0]) && isIn(a[1], 8) && isIn(a[2], 1000)
                  ? ofShelf(OF_SOUNDS, a[0], left) : -1,
              ALL_SHELVES, new int[] {-1, 0, 7, 8}, new int[] {-1, 0, 999, 1000}, new int[] {0, 1}));
    }
    holds(19, WORDS, "fits", () ->
        dueFirst(() -> withSaid(0), (x, a) -> x.fits(a[0], a[1]),
            a -> isShelf(a[0]) && isIn(a[1], 24) ? ofShelf(OF_SOUNDS, a[0], 1) : -1,
            ALL_SHELVES, new int[] {-1, 0, 23, 24}));
  }

  private static TongueBook withWords(int many) {
    TongueBook x = new TongueBook();
    bytes(x, 0, 1);
    x.card(0, 1, 1, 1);
    x.card(0, 1, 1, 1);
    for (int w = 0; w < many; w++) {
      x.neighbour(0, 0);
    }
    x.keep(0, 0, 0);
    return shelved(x);
  }

  private static void words() {
    for (int room = 0; room < 2; room++) {
      int left = room;
      holds(24, WORDS, "neighbour, " + (room == 0 ? "no room" : "room for one more"), () ->
          dueFirst(() -> withWords(10 - left), (x, a) -> x.neighbour(a[0], a[1]),
              a -> isShelf(a[0]) && isIn(a[1], 2) ? ofShelf(OF_SOUNDS, a[0], left) : -1,
              ALL_SHELVES, new int[] {-1, 0, 1, 2, 39, 40}));
    }
    for (int many = 7; many < 9; many++) {
      int words = many;
      holds(27, WORDS, "odds, of " + many, () ->
          dueFirst(() -> withWords(words), (x, a) -> x.odds(a[0]),
              a -> !isIn(a[0], 2) ? -1 : words > 7 ? -3 : NOT_REFUSED,
              new int[] {-1, 0, 1, 2}));
    }
  }

  private static void shelves() {
    holds(35, WORDS, "keep", () ->
        dueFirst(() -> withNotes(2), (x, a) -> x.keep(a[0], a[1], a[2]),
            a -> isShelf(a[0]) && (a[1] == 0 || a[1] == 1 && isIn(a[2], 2)) ? NOT_REFUSED : -1,
            ALL_SHELVES, new int[] {-1, 0, 1, 2}, new int[] {-1, 0, 1, 2}));
    holds(36, WORDS, "row", () ->
        dueFirst(() -> shelved(new TongueBook()), (x, a) -> x.row(a[0], a[1], a[2]),
            a -> !isShelf(a[0]) || !isIn(a[1], 3) || a[2] > 80 ? -1 : a[2] < 0 ? -14 : NOT_REFUSED,
            ALL_SHELVES, new int[] {-1, 0, 1, 2, 3}, new int[] {LOWEST, -1, 0, 80, 81, HIGHEST}));
    int[] rows = {-11, -12, 0, 0, 0, 0, 0, 0};
    int[] sizes = {0, 0, 2, 2, 0, 9, 2, 2};
    holds(37, WORDS, "put", () ->
        dueFirst(() -> shelved(new TongueBook()), (x, a) -> x.put(a[0], a[1], 5),
            a -> !isShelf(a[0]) ? -1 : rows[a[0]] != 0 ? rows[a[0]]
                : isIn(a[1], sizes[a[0]]) ? NOT_REFUSED : -13,
            ALL_SHELVES, new int[] {LOWEST, -1, 0, 1, 2, 8, 9, 80, HIGHEST}));
    holds(38, "IllegalArgumentException: no such SHELF; IllegalStateException", "which is first", () -> {
      TongueBook x = shelved(new TongueBook());
      int[] places = {LOWEST, -1, 0, 1, 2, 8, 9, 80, HIGHEST};
      int[][] held = {{}, {}, {1, 2}, {1, 2}, {}, many(9, 1), {1, 10}, {1, 2}};
      for (int d : ALL_SHELVES) {
        for (int i : places) {
          String right = isShelf(d) && isIn(i, held[d].length) ? "" + held[d][i] : "IllegalStateException";
          dueElement(isShelf(d) ? right : "IllegalArgumentException", x, d, i);
        }
      }
    });
    int[] ofNotes = {-11, 0, -12, -12, -12, -12, -12, -12};
    holds(40, WORDS, "length", () ->
        dueFirst(() -> shelved(new TongueBook()), (x, a) -> x.length(a[0]),
            a -> isShelf(a[0]) ? ofShelf(ofNotes, a[0], 1) : -1, ALL_SHELVES));
    holds(41, WORDS, "toss", () ->
        dueFirst(() -> shelved(new TongueBook()), (x, a) -> x.toss(a[0]),
            a -> isShelf(a[0]) ? ofShelf(ofNotes, a[0], 1) : -1, ALL_SHELVES));
  }

  private static void copies() {
    int[] sorts = {-2, -1, 1, 2, 0, 0, 0, 0};
    int[] sizes = {0, 0, 2, 2, 0, 9, 2, 2};
    int[] some = {-1, 0, 1, 2, 3, 5, RIGHT, 8};
    int[] places = {-1, 0, 1, 2, 3};
    holds(39, WORDS, "copy", () ->
        dueFirst(() -> shelved(new TongueBook()), (x, a) -> x.copy(a[0], a[1], a[2], a[3], a[4]),
            a -> {
              if (!isShelf(a[0]) || !isShelf(a[2])) {
                return -1;
              }
              if (sorts[a[0]] == -2 || sorts[a[2]] == -2) {
                return -11;
              }
              if (sorts[a[0]] == -1 || sorts[a[0]] != sorts[a[2]]) {
                return -12;
              }
              boolean isThere = a[4] >= 0 && a[1] >= 0 && a[3] >= 0
                  && a[1] + a[4] <= sizes[a[0]] && a[3] + a[4] <= sizes[a[2]];
              return isThere ? NOT_REFUSED : -13;
            },
            some, places, some, places, new int[] {-1, 0, 1, 2, 3}));
  }

  /** -1 comes ahead of -3 and -4 where nothing is there. */
  private static void nothingThere() {
    TongueBook x = new TongueBook();
    int[] villages = {-2, -1, 0, 3, 4};
    int[] hours = {-1, 0, 999, 1000};
    holds(21, WORDS, "who, in villages of nobody", () ->
        dueFirst(() -> new TongueBook(), (y, a) -> y.who(a[0], a[1]),
            a -> !isIn(a[0], 4) || !isIn(a[1], 1000) ? -1 : a[0] == 0 ? NOT_REFUSED : -4,
            villages, hours));
    holds(22, WORDS, "none, of nothing said", () ->
        dueFirst(() -> new TongueBook(), (y, a) -> y.none(a[0]),
            a -> isIn(a[0] + 1, 5) ? -4 : -1, villages));
    holds(20, WORDS, "ask, of no order", () -> {
      say(x, 0, 0, false, 1);
      dueFirst(() -> x, (y, a) -> y.ask(a[0], a[1]),
          a -> !isIn(a[0] + 1, 5) || !isIn(a[1], 2) ? -1 : a[0] > 0 ? NOT_REFUSED : -4,
          villages, new int[] {-1, 0, 1, 2});
    });
    holds(18, WORDS, "orders, of none", () ->
        dueFirst(() -> x, (y, a) -> y.orders(a[0], a[1]),
            a -> !isIn(a[0] + 1, 5) || a[1] < -1 ? -1 : a[0] > 0 && a[1] < 24 || a[1] == -1
                ? NOT_REFUSED : -4,
            villages, new int[] {-2, -1, 0, 23, 24}));
    holds(23, WORDS, "reader, of no card", () ->
        dueFirst(() -> new TongueBook(), (y, a) -> y.reader(a[0], a[1], a[2]),
            a -> isIn(a[0], 65536) && isIn(a[1], 10) && a[2] >= 0 ? -4 : -1,
            new int[] {-1, 0, 65535, 65536}, new int[] {-1, 0, 9, 10}, new int[] {-1, 0, 40, HIGHEST}));
    holds(11, WORDS, "cut", () ->
        dueFirst(() -> withCards(2), (y, a) -> y.cut(a[0], a[1]),
            a -> !isIn(a[0], 2) || a[1] < -1 ? -1 : a[1] < 1 ? NOT_REFUSED : -4,
            new int[] {-1, 0, 1, 2}, new int[] {-2, -1, 0, 1, HIGHEST}));
    holds(16, WORDS, "deep, of no rows", () ->
        dueFirst(() -> {
          TongueBook y = withCards(2);
          y.use(0, false);
          return y;
        }, (y, a) -> y.deep(a[0], a[1]), a -> !isIn(a[0], 2) || a[1] < -1 ? -1 : -4,
            new int[] {-1, 0, 1, 2}, new int[] {-2, -1, 0, 1, HIGHEST}));
    holds(10, WORDS, "told, of no meaning", () ->
        dueFirst(() -> withNotes(1), (y, a) -> y.told(a[0], a[1]),
            a -> a[0] != 0 || !isIn(a[1], 2) ? -1 : a[1] == 0 ? NOT_REFUSED : -4,
            new int[] {-1, 0, 1}, new int[] {-1, 0, 1, 2}));
    holds(25, WORDS, "law, of no words", () ->
        dueFirst(() -> new TongueBook(), (y, a) -> y.law(a[0]),
            a -> isIn(a[0], 10) ? -4 : -1, new int[] {-1, 0, 9, 10}));
  }
}
