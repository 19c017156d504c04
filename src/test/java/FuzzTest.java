import java.util.Random;

/** Runs of drawn calls (the seeds are fixed): the class and the plain model must answer alike. */
public final class FuzzTest {
  private static final int CALLS = 512;
  private static final int METHODS = 39;
  private static final String[] RULE_SIGNS = {"0", "1", "2", "3", "9", "C0", "C1", "C2", "C3"};

  private final Random random;
  private final TongueBook book = new TongueBook();
  private final PlainModel model = new PlainModel();
  private final StringBuilder history = new StringBuilder();
  /** How many SOUNDS are drawn from: few of them make more alike. */
  private final int alphabet;
  private final int village;
  /** The kind of step that this run takes most, so that what it fills grows full. */
  private final int focus;
  private int calls;
  private int wrong;

  private FuzzTest(long seed) {
    random = new Random(seed);
    alphabet = 2 + random.nextInt(4);
    village = 1 + random.nextInt(3);
    focus = random.nextInt(16);
  }

  public static void main(String[] args) {
    int runs = args.length > 0 ? Integer.parseInt(args[0]) : 1500;
    int first = args.length > 1 ? Integer.parseInt(args[1]) : 0;
    int wrong = 0;
    for (int run = first; run < first + runs && wrong < 5; run++) {
      wrong += new FuzzTest(run).run(run);
    }
    System.out.println(wrong == 0 ? "FuzzTest: all answers alike" : "FuzzTest: " + wrong + " runs differ");
    if (wrong != 0) {
      System.exit(1);
    }
  }

  private int run(int number) {
    int wild = random.nextInt(4) == 0 ? 40 : 5;
    while (calls < CALLS - 90 && wrong == 0) {
      step(wild);
    }
    if (wrong != 0) {
      System.out.println("run " + number + ":" + history);
    }
    return wrong;
  }

  private void step(int wild) {
    if (random.nextInt(100) < wild) {
      any();
      return;
    }
    switch (random.nextInt(3) == 0 ? focus : random.nextInt(16)) {
      case 0, 1, 2 -> addCard();
      case 3 -> addNote();
      case 4 -> addRule();
      case 5 -> addSaying();
      case 6 -> addWord();
      case 7 -> setUp();
      case 8 -> askCard();
      case 9 -> hear();
      case 10 -> askRow();
      case 11 -> askVillage();
      case 12 -> shelf();
      case 13 -> call(22, random.nextInt(1 << (small(2) == 0 ? 6 : 16)), random.nextInt(4), random.nextInt(40));
      case 14 -> askList();
      default -> rights();
    }
  }

  private int small(int bound) {
    return random.nextInt(bound);
  }

  private void bytes(int d, int... all) {
    call(33, d, 0, all.length);
    for (int i = 0; i < all.length; i++) {
      call(34, d, i, all[i]);
    }
  }

  private int[] sounds(int most) {
    int[] all = new int[1 + small(most)];
    for (int i = 0; i < all.length; i++) {
      all[i] = small(alphabet);
    }
    return all;
  }

  private void addCard() {
    bytes(0, sounds(small(3) == 0 ? 8 : 4));
    for (int more = small(3); more >= 0; more--) {
      int told = 100 * small(3) + 10 * small(3) + (small(4) == 0 ? 0 : 1);
      call(0, 0, small(5) == 0 ? 0 : small(8), told, small(3));
      call(34, 0, small(4), small(alphabet));
    }
  }

  private void addNote() {
    bytes(1, sounds(small(2) == 0 ? 4 : 2));
    call(6, 1, small(5));
    if (small(3) == 0) {
      call(6, 1, 3);
    }
  }

  private void addRule() {
    String text = sign() + ">" + (small(4) == 0 ? "-" : "" + small(4)) + "/" + place() + "_" + place();
    if (small(3) == 0) {
      int at = small(text.length() + 1);
      int cut = Math.min(text.length(), at + small(2));
      text = text.substring(0, at) + "0C>-/_#.4D:~".charAt(small(12)) + text.substring(cut);
    }
    if (small(6) == 0) {
      text = text.substring(0, small(text.length()));
    }
    int[] all = new int[text.length()];
    for (int i = 0; i < all.length; i++) {
      all[i] = text.charAt(i);
    }
    bytes(2, all);
    call(11, 2);
    call(12, 2);
  }

  private String sign() {
    return RULE_SIGNS[small(RULE_SIGNS.length)];
  }

  private String place() {
    return small(2) == 0 ? sign() : small(3) == 0 ? "#" : ".";
  }

  private int[] saying() {
    int[] all = new int[small(12) == 0 ? 1 : 2 + small(3)];
    for (int i = 0; i < all.length; i++) {
      all[i] = small(4);
      for (int k = 0; k < i; k++) {
        if (all[k] == all[i] && small(30) != 0) {
          all[i] = (all[i] + 1) % 4;
          k = -1;
        }
      }
    }
    return all;
  }

  private void addSaying() {
    bytes(3, saying());
    if (small(2) == 0 || focus == 5) {
      call(15, 3, small(8), small(20), small(3) == 0 ? 0 : 1);
    }
    call(17, 3, small(24));
  }

  private void addWord() {
    bytes(4, sounds(small(3) == 0 ? 8 : 4));
    call(23, 4, small(8));
    if (small(3) == 0) {
      call(23, 4, small(8));
    }
  }

  private void setUp() {
    call(3, small(alphabet), small(4));
    call(4, small(8), 0, small(village));
    call(4, small(8), 1, small(10));
    call(7, small(16), small(3) == 0 ? 0 : 1);
  }

  private void askCard() {
    int card = small(small(4) == 0 ? 40 : 10);
    for (int i = -1; i < 4; i++) {
      call(9, card, i);
    }
    call(14, card, -1);
    call(14, card, 0);
    call(14, card, 1 + small(3));
    call(1, card, small(7));
    call(2, card, small(4));
    call(29, card);
  }

  private void hear() {
    bytes(5, sounds(small(20) == 0 ? 40 : 8));
    call(13, 5, 6);
    for (int i = 0; i < 3; i++) {
      call(35, 6, i);
    }
  }

  private void askRow() {
    call(5, small(alphabet), small(alphabet));
    call(24, small(alphabet));
    call(25, small(2));
    if (small(3) == 0) {
      call(26, small(2));
    }
    call(30, small(3), small(2));
  }

  private void askVillage() {
    int one = small(village + 1) - 1;
    call(16, one, -1);
    call(16, one, small(8));
    call(18, one, small(2));
    call(19, small(village), small(30));
    call(20, one);
  }

  private void shelf() {
    int d = small(8);
    call(32, d, small(4) == 0 ? 0 : 1, small(6));
    call(37, d);
    call(38, d);
    call(33, small(3), small(3), small(6));
    call(36, small(8), small(3), small(8), small(3), small(4));
    call(35, small(8), small(6));
  }

  private void askList() {
    call(10, small(2));
    call(8, small(16), 0);
    call(8, small(16), 1);
    call(31, 0, small(8));
  }

  private void rights() {
    if (small(2) == 0) {
      call(27, small(4), small(2));
    }
    if (small(4) == 0) {
      call(28, small(8));
    }
    if (small(3) == 0) {
      call(31, 1);
    }
    if (small(4) == 0) {
      call(31, 2);
    }
  }

  private void any() {
    call(small(METHODS), wide(), wide(), wide(), wide(), wide());
  }

  private int wide() {
    int[] edges = {-1, -2, 0, 1, 2, 3, 4, 5, 7, 8, 9, 10, 15, 16, 23, 24, 39, 40, 80, 81, 99, 100, 731,
        999, 1000, 1023, 1024, 65535, 65536, Integer.MAX_VALUE, Integer.MIN_VALUE};
    return small(2) == 0 ? small(4) : edges[small(edges.length)];
  }

  private void call(int method, int... a) {
    int[] all = java.util.Arrays.copyOf(a, 5);
    calls++;
    String mine = answer(method, all, true);
    String due = answer(method, all, false);
    history.append("\n  ").append(method).append(java.util.Arrays.toString(all)).append(" ").append(mine);
    if (!mine.equals(due)) {
      history.append(" BUT DUE IS ").append(due);
      wrong = 1;
    }
  }

  private String answer(int method, int[] a, boolean real) {
    try {
      return "" + (real ? ofBook(method, a) : ofModel(method, a));
    } catch (RuntimeException e) {
      return e.getClass().getName();
    }
  }

  private long ofBook(int method, int[] a) {
    TongueBook x = book;
    return switch (method) {
      case 0 -> x.card(a[0], a[1], a[2], a[3]);
      case 1 -> x.about(a[0], a[1]);
      case 2 -> x.sound(a[0], a[1]);
      case 3 -> x.classOf(a[0], a[1]);
      case 4 -> x.speaker(a[0], a[1], a[2]);
      case 5 -> x.oneOrTwo(a[0], a[1]);
      case 6 -> x.note(a[0], a[1]);
      case 7 -> x.use(a[0], a[1] != 0);
      case 8 -> x.told(a[0], a[1]);
      case 9 -> x.cut(a[0], a[1]);
      case 10 -> x.leastList(a[0]);
      case 11 -> x.fault(a[0]);
      case 12 -> x.rule(a[0]);
      case 13 -> x.heard(a[0], a[1]);
      case 14 -> x.deep(a[0], a[1]);
      case 15 -> x.said(a[0], a[1], a[2], a[3] != 0);
      case 16 -> x.orders(a[0], a[1]);
      case 17 -> x.fits(a[0], a[1]);
      case 18 -> x.ask(a[0], a[1]);
      case 19 -> x.who(a[0], a[1]);
      case 20 -> x.none(a[0]);
      case 21, 22 -> x.reader(a[0], a[1], a[2]);
      case 23 -> x.neighbour(a[0], a[1]);
      case 24 -> x.law(a[0]);
      case 25 -> x.led(a[0]);
      case 26 -> x.odds(a[0]);
      case 27 -> x.bar(a[0], a[1] != 0);
      case 28 -> x.takeBack(a[0]);
      case 29 -> x.leaned(a[0]);
      case 30 -> x.weight(a[0], a[1]);
      case 31 -> a[0] == 1 ? x.image() : a[0] == 2 ? x.restore() : x.count(a[1]);
      case 32 -> x.keep(a[0], a[1], a[2]);
      case 33 -> x.row(a[0], a[1], a[2]);
      case 34 -> x.put(a[0], a[1], a[2]);
      case 35 -> x.element(a[0], a[1]);
      case 36 -> x.copy(a[0], a[1], a[2], a[3], a[4]);
      case 37 -> x.length(a[0]);
      default -> x.toss(a[0]);
    };
  }

  private long ofModel(int method, int[] a) {
    PlainModel x = model;
    return switch (method) {
      case 0 -> x.card(a[0], a[1], a[2], a[3]);
      case 1 -> x.about(a[0], a[1]);
      case 2 -> x.sound(a[0], a[1]);
      case 3 -> x.classOf(a[0], a[1]);
      case 4 -> x.speaker(a[0], a[1], a[2]);
      case 5 -> x.oneOrTwo(a[0], a[1]);
      case 6 -> x.note(a[0], a[1]);
      case 7 -> x.use(a[0], a[1] != 0);
      case 8 -> x.told(a[0], a[1]);
      case 9 -> x.cut(a[0], a[1]);
      case 10 -> x.leastList(a[0]);
      case 11 -> x.fault(a[0]);
      case 12 -> x.rule(a[0]);
      case 13 -> x.heard(a[0], a[1]);
      case 14 -> x.deep(a[0], a[1]);
      case 15 -> x.said(a[0], a[1], a[2], a[3] != 0);
      case 16 -> x.orders(a[0], a[1]);
      case 17 -> x.fits(a[0], a[1]);
      case 18 -> x.ask(a[0], a[1]);
      case 19 -> x.who(a[0], a[1]);
      case 20 -> x.none(a[0]);
      case 21, 22 -> x.reader(a[0], a[1], a[2]);
      case 23 -> x.neighbour(a[0], a[1]);
      case 24 -> x.law(a[0]);
      case 25 -> x.led(a[0]);
      case 26 -> x.odds(a[0]);
      case 27 -> x.bar(a[0], a[1] != 0);
      case 28 -> x.takeBack(a[0]);
      case 29 -> x.leaned(a[0]);
      case 30 -> x.weight(a[0], a[1]);
      case 31 -> a[0] == 1 ? x.image() : a[0] == 2 ? x.restore() : x.count(a[1]);
      case 32 -> x.keep(a[0], a[1], a[2]);
      case 33 -> x.row(a[0], a[1], a[2]);
      case 34 -> x.put(a[0], a[1], a[2]);
      case 35 -> x.element(a[0], a[1]);
      case 36 -> x.copy(a[0], a[1], a[2], a[3], a[4]);
      case 37 -> x.length(a[0]);
      default -> x.toss(a[0]);
    };
  }
}
