/** For each promise of the document: ordinary calls, the edges that it names, and wrong inputs. */
public final class PromisesTest extends Bench {
  public static void main(String[] args) {
    p01NewObject();
    p02Card();
    p03About();
    p04Sound();
    p05ClassOf();
    p06Speaker();
    p07OneOrTwo();
    p08Note();
    p09Use();
    p10Told();
    p11Cut();
    p12LeastList();
    p13Fault();
    p14Rule();
    p15Heard();
    p16Deep();
    p17Said();
    p18Orders();
    p19Fits();
    p20Ask();
    p21Who();
    p22None();
    p22NoneOfFirst();
    p23Reader();
    p24Neighbour();
    p25Law();
    p26Led();
    p27Odds();
    p28Bar();
    p29TakeBack();
    p30Leaned();
    p31Weight();
    p32Image();
    p33Restore();
    p34Count();
    p35Keep();
    p36Row();
    p37Put();
    p38Element();
    p39Copy();
    p40Length();
    p41Toss();
    end("PromisesTest");
  }

  private static int faultOf(TongueBook x, String signs) {
    text(x, 7, signs);
    return x.fault(7);
  }

  /** Shelf 1 holds shorts, 2 ints, 3 a NOTE, 4 one SOUND, 5 ten, 6 nothing, 7 no SOUNDS. */
  private static void wrongShelves(TongueBook x) {
    x.row(1, 1, 1);
    x.row(2, 2, 1);
    bytes(x, 4, 1);
    x.note(4, 0);
    x.keep(3, 1, 0);
    bytes(x, 5, 0, 1, 2, 3, 4, 5, 6, 7, 8, 9);
    x.keep(6, 0, 0);
    x.row(7, 0, 0);
  }

  private static void p01NewObject() {
    TongueBook x = start("1 a new object");
    for (int what = 0; what < 8; what++) {
      due(0, x.count(what));
    }
    for (int sound = 0; sound < 10; sound++) {
      due(0, x.classOf(sound, 0));
    }
    for (int speaker = 0; speaker < 8; speaker++) {
      due(0, x.speaker(speaker, 0, 0));
      due(0, x.speaker(speaker, 1, 0));
    }
    for (int d = 0; d < 8; d++) {
      due(-11, x.length(d));
    }
    due(-3, x.restore());
  }

  private static void p02Card() {
    TongueBook x = start("2 card");
    due(0, addCard(x, 0, 0, 0, 9));
    due(1, addCard(x, 1023, 731, 999, 0, 1, 2, 3, 4, 5, 6, 7));
    due(2, x.card(7, 1, 1, 1));
    wrongShelves(x);
    due(-1, x.card(-1, 1, 1, 1));
    due(-1, x.card(8, 1, 1, 1));
    due(-1, x.card(4, -1, 1, 1));
    due(-1, x.card(4, 1024, 1, 1));
    due(-1, x.card(4, 1, -1, 1));
    due(-1, x.card(4, 1, 2, 1));
    due(-1, x.card(4, 1, 41, 1));
    due(-1, x.card(4, 1, 740, 1));
    due(-1, x.card(4, 1, 800, 1));
    due(-1, x.card(4, 1, Integer.MIN_VALUE, 1));
    due(-1, x.card(4, 1, 1, -1));
    due(-1, x.card(4, 1, 1, 1000));
    due(-1, x.card(6, 1, 2, 1));
    due(-11, x.card(6, 1, 1, 1));
    due(-12, x.card(1, 1, 1, 1));
    due(-12, x.card(2, 1, 1, 1));
    due(-12, x.card(3, 1, 1, 1));
    due(-13, x.card(5, 1, 1, 1));
    due(-13, x.card(7, 1, 1, 1));
    bytes(x, 0, 1, 10);
    due(-13, x.card(0, 1, 1, 1));
    bytes(x, 0, 1, -1);
    due(-13, x.card(0, 1, 1, 1));
    due(3, x.count(0));
    for (int c = 3; c < 40; c++) {
      due(c, x.card(4, 1, 1, 1));
    }
    due(-2, x.card(4, 1, 1, 1));
    due(-2, x.card(6, 1, 1, 1));
    due(-2, x.card(3, 1, 1, 1));
    due(-1, x.card(6, 1, 1, 1000));
    due(40, x.count(0));
  }

  private static void p03About() {
    TongueBook x = start("3 about");
    addCard(x, 1023, 731, 999, 0, 1, 2, 3, 4, 5, 6, 7);
    addCard(x, 5, 120, 12, 3, 3);
    int[][] all = {{8, 1023, 7, 3, 999, 1, 0}, {2, 5, 1, 2, 12, 0, 0}};
    for (int c = 0; c < 2; c++) {
      for (int what = 0; what < 7; what++) {
        due(all[c][what], x.about(c, what));
      }
      due(-1, x.about(c, 7));
      due(-1, x.about(c, -1));
    }
    due(-1, x.about(2, 0));
    due(-1, x.about(-1, 0));
    due(-1, x.about(Integer.MAX_VALUE, 0));
    x.bar(7, true);
    due(1, x.about(0, 6));
    x.takeBack(0);
    due(2, x.about(0, 6));
    due(0, x.about(1, 6));
  }

  private static void p04Sound() {
    TongueBook x = start("4 sound");
    due(-1, x.sound(0, 0));
    addCard(x, 0, 0, 0, 4, 9, 0);
    x.put(7, 0, 8);
    due(4, x.sound(0, 0));
    due(9, x.sound(0, 1));
    due(0, x.sound(0, 2));
    due(-1, x.sound(0, 3));
    due(-1, x.sound(0, -1));
    due(-1, x.sound(1, 0));
    due(-1, x.sound(-1, 0));
  }

  private static void p05ClassOf() {
    TongueBook x = start("5 classOf");
    due(0, x.classOf(9, 3));
    due(3, x.classOf(9, 2));
    due(0, x.classOf(0, 1));
    due(-1, x.classOf(9, 4));
    due(-1, x.classOf(9, -1));
    due(-1, x.classOf(10, 0));
    due(-1, x.classOf(-1, 0));
    due(2, x.classOf(9, 0));
  }

  private static void p06Speaker() {
    TongueBook x = start("6 speaker");
    due(0, x.speaker(7, 0, 3));
    due(0, x.speaker(7, 1, 99));
    due(3, x.speaker(7, 0, 0));
    due(99, x.speaker(7, 1, 4));
    due(0, x.speaker(6, 1, 4));
    due(-1, x.speaker(8, 0, 0));
    due(-1, x.speaker(-1, 0, 0));
    due(-1, x.speaker(7, 2, 0));
    due(-1, x.speaker(7, -1, 0));
    due(-1, x.speaker(7, 0, 4));
    due(-1, x.speaker(7, 0, -1));
    due(-1, x.speaker(7, 1, 100));
    due(-1, x.speaker(7, 1, -1));
    due(0, x.speaker(7, 0, 1));
    due(4, x.speaker(7, 1, 0));
  }

  private static void p07OneOrTwo() {
    TongueBook x = start("7 oneOrTwo");
    due(-1, x.oneOrTwo(1, 1));
    due(-1, x.oneOrTwo(10, 1));
    due(-1, x.oneOrTwo(1, 10));
    due(-1, x.oneOrTwo(-1, 1));
    due(-1, x.oneOrTwo(1, -1));
    due(0, x.oneOrTwo(0, 9));
    good(x, 1, 1, 2, 3);
    good(x, 2, 1, 4, 3);
    due(2, x.oneOrTwo(2, 4));
    due(2, x.oneOrTwo(4, 2));
    due(0, x.oneOrTwo(1, 3));
    good(x, 2, 1, 5, 3);
    due(1, x.oneOrTwo(4, 5));
    due(2, x.oneOrTwo(2, 5));
    good(x, 0, 1, 6, 3);
    due(1, x.oneOrTwo(2, 6));
    good(x, 4, 1, 7, 8);
    due(0, x.oneOrTwo(2, 7));
    addCard(x, 4, 0, 0, 1, 9, 3);
    due(0, x.oneOrTwo(2, 9));
    x.takeBack(0);
    due(0, x.oneOrTwo(2, 4));
    due(0, x.oneOrTwo(4, 2));
    due(1, x.oneOrTwo(4, 6));
    x.bar(0, true);
    due(0, x.oneOrTwo(4, 6));
    x = start("7 oneOrTwo, edges and longer cards");
    good(x, 1, 1);
    good(x, 1, 2);
    due(1, x.oneOrTwo(1, 2));
    good(x, 2, 1, 1);
    due(1, x.oneOrTwo(1, 2));
    good(x, 1, 2, 2);
    due(1, x.oneOrTwo(1, 2));
    good(x, 4, 2, 1);
    due(2, x.oneOrTwo(1, 2));
    x = start("7 oneOrTwo, the edge is no sound");
    good(x, 1, 1);
    good(x, 1, 2, 0);
    due(0, x.oneOrTwo(1, 2));
    good(x, 1, 0, 3);
    due(0, x.oneOrTwo(1, 3));
    good(x, 1, 0, 0, 0, 0, 0, 0, 0, 4);
    good(x, 1, 5, 0, 0, 0, 0, 0, 0, 0);
    due(1, x.oneOrTwo(4, 3));
    due(1, x.oneOrTwo(5, 2));
    due(0, x.oneOrTwo(5, 4));
    x = start("7 oneOrTwo, both in one card");
    good(x, 1, 1, 2, 1, 3, 1);
    due(1, x.oneOrTwo(2, 3));
    due(0, x.oneOrTwo(1, 2));
  }

  private static void p08Note() {
    TongueBook x = start("8 note");
    due(0, addNote(x, 0, 1, 2, 3, 4));
    due(1, addNote(x, 4, 9));
    due(2, x.count(3));
    wrongShelves(x);
    due(3, x.count(2));
    due(-1, x.note(8, 0));
    due(-1, x.note(-1, 0));
    due(-1, x.note(4, 5));
    due(-1, x.note(4, -1));
    due(-1, x.note(6, 5));
    due(-11, x.note(6, 0));
    due(-12, x.note(1, 0));
    due(-12, x.note(2, 0));
    due(-12, x.note(3, 0));
    due(-13, x.note(5, 0));
    due(-13, x.note(7, 0));
    bytes(x, 0, 1, 2, 3, 4, 5);
    due(-13, x.note(0, 0));
    bytes(x, 0, 10);
    due(-13, x.note(0, 0));
    for (int n = 3; n < 16; n++) {
      due(n, x.note(4, n % 5));
    }
    due(-2, x.note(4, 0));
    due(-2, x.note(6, 0));
    due(-1, x.note(6, 5));
    due(16, x.count(2));
    due(16, x.count(3));
  }

  private static void p09Use() {
    TongueBook x = start("9 use");
    due(-1, x.use(0, true));
    addNote(x, 0, 1);
    addNote(x, 0, 2);
    due(0, x.use(0, true));
    due(1, x.use(0, false));
    due(0, x.use(0, false));
    due(1, x.count(3));
    due(1, x.use(0, true));
    due(2, x.count(3));
    due(-1, x.use(2, true));
    due(-1, x.use(-1, true));
    due(-1, x.use(32, false));
    due(2, x.count(3));
  }

  private static void p10Told() {
    TongueBook x = start("10 told");
    int[][] lengths = {{2, 3, 4, 5}, {4, 5, 6, 7}, {2, 3, 4, 5}, {3, 5, 7, 9}, {7, 8, 9, 10}};
    for (int kind = 0; kind < 5; kind++) {
      for (int size = 1; size <= 3; size++) {
        bytes(x, 0, new int[size]);
        int n = x.note(0, kind);
        due(lengths[kind][size - 1], x.told(n, 0));
        due(-4, x.told(n, 1));
      }
    }
    bytes(x, 0, 0, 0, 0, 0);
    due(15, x.note(0, 3));
    due(9, x.told(15, 0));
    due(-1, x.told(16, 0));
    due(-1, x.told(-1, 0));
    due(-1, x.told(0, 2));
    due(-1, x.told(0, -1));
    for (int kind = 0; kind < 5; kind++) {
      x = start("10 told, four sounds");
      addNote(x, kind, 5, 5, 5, 5);
      due(lengths[kind][3], x.told(0, 0));
    }
    x = start("10 told, meaning");
    addNote(x, 0, 1, 2);
    good(x, 7, 1, 2);
    due(7, x.told(0, 1));
    good(x, 0, 1, 2);
    due(7, x.told(0, 1));
    good(x, 13, 3, 1, 2);
    due(5, x.told(0, 1));
    addCard(x, 1, 0, 0, 1, 2);
    due(5, x.told(0, 1));
    good(x, 2, 2, 1);
    due(5, x.told(0, 1));
    good(x, 8, 1, 2, 1, 2);
    due(0, x.told(0, 1));
    x.takeBack(5);
    due(5, x.told(0, 1));
    x.use(0, false);
    due(-4, x.told(0, 1));
    x.use(0, true);
    x.bar(0, true);
    due(-4, x.told(0, 1));
  }

  private static void p11Cut() {
    TongueBook x = start("11 cut");
    due(-1, x.cut(0, -1));
    good(x, 0, 1, 2, 1, 2, 3);
    due(25, x.cut(0, -1));
    due(101, x.cut(0, 0));
    due(103, x.cut(0, 4));
    due(-4, x.cut(0, 5));
    due(-4, x.cut(0, Integer.MAX_VALUE));
    due(-1, x.cut(0, -2));
    due(-1, x.cut(1, 0));
    due(-1, x.cut(-1, 0));
    addNote(x, 0, 1, 2);
    due(9, x.cut(0, -1));
    due(0, x.cut(0, 0));
    due(0, x.cut(0, 1));
    due(103, x.cut(0, 2));
    due(-4, x.cut(0, 3));
    addNote(x, 3, 1, 2);
    due(7, x.cut(0, -1));
    due(1, x.cut(0, 0));
    due(103, x.cut(0, 1));
    addNote(x, 0, 2, 3);
    addNote(x, 4, 1, 2, 1);
    due(4, x.cut(0, -1));
    due(3, x.cut(0, 0));
    due(2, x.cut(0, 1));
    x.use(3, false);
    due(7, x.cut(0, -1));
    due(1, x.cut(0, 0));
    x = start("11 cut, the longest first, then the least note");
    good(x, 0, 1, 1, 1);
    addNote(x, 0, 1);
    addNote(x, 0, 1, 1);
    addNote(x, 1, 1, 1);
    due(4, x.cut(0, -1));
    due(1, x.cut(0, 0));
    due(0, x.cut(0, 1));
    x.use(1, false);
    due(2, x.cut(0, 0));
    addNote(x, 2, 1);
    due(0, x.cut(0, 1));
    x = start("11 cut, a note does not reach behind the card");
    good(x, 0, 1, 1, 1, 1, 1, 1, 1, 1);
    addNote(x, 3, 1, 1, 1);
    due(12, x.cut(0, -1));
    due(0, x.cut(0, 0));
    due(101, x.cut(0, 2));
    good(x, 0, 1, 1, 1, 1, 1);
    due(25, x.cut(1, -1));
    addNote(x, 3, 1, 1, 1, 1);
    due(2, x.cut(0, -1));
    due(25, x.cut(1, -1));
    x = start("11 cut, of cards however they are");
    addCard(x, 0, 0, 0, 4);
    x.takeBack(0);
    due(5, x.cut(0, -1));
    addNote(x, 0, 4);
    due(2, x.cut(0, -1));
    due(0, x.cut(0, 0));
  }

  private static void p12LeastList() {
    TongueBook x = start("12 leastList");
    due(0, x.leastList(0));
    due(0, x.leastList(1));
    due(-1, x.leastList(2));
    due(-1, x.leastList(-1));
    good(x, 0, 1, 2);
    due(10, x.leastList(0));
    addNote(x, 4, 1, 2);
    due(10, x.leastList(0));
    due(0, x.leastList(1));
    addNote(x, 0, 1, 2);
    due(5, x.leastList(0));
    due(2, x.leastList(1));
    x.use(1, false);
    due(5, x.leastList(0));
    addNote(x, 0, 1, 2);
    due(5, x.leastList(0));
    due(2, x.leastList(1));
    addCard(x, 0, 0, 0, 5, 5);
    due(5, x.leastList(0));
    good(x, 0, 5, 5);
    due(15, x.leastList(0));
    x.takeBack(2);
    due(5, x.leastList(0));
    x = start("12 leastList, of several the least set");
    good(x, 0, 1, 1);
    addNote(x, 0, 1);
    addNote(x, 1, 1, 1);
    addNote(x, 2, 1, 1);
    due(5, x.leastList(0));
    due(4, x.leastList(1));
    x.use(2, false);
    addNote(x, 0, 1, 1);
    due(4, x.leastList(1));
    due(3, x.count(3));
    x = start("12 leastList, as cheap without a note");
    good(x, 0, 1);
    addNote(x, 3, 1);
    addNote(x, 0, 1);
    due(4, x.leastList(0));
    due(2, x.leastList(1));
    x = start("12 leastList, notes from 10 on as they are");
    good(x, 0, 1, 2, 3);
    for (int n = 0; n < 10; n++) {
      addNote(x, 0, 9);
    }
    addNote(x, 0, 1, 2, 3);
    due(6, x.leastList(0));
    due(0, x.leastList(1));
    x.use(10, false);
    due(15, x.leastList(0));
    addNote(x, 0, 8);
    due(17, x.leastList(0));
    x.use(11, false);
    x.use(9, false);
    due(15, x.leastList(0));
  }

  private static void p13Fault() {
    TongueBook x = start("13 fault");
    due(-4, faultOf(x, "1>2/._."));
    due(-4, faultOf(x, "C3>-/#_C0"));
    due(-4, faultOf(x, "0>9/C3_#"));
    due(-4, faultOf(x, "9>0/0_9"));
    due(0, faultOf(x, ""));
    due(0, faultOf(x, "->2/._."));
    due(0, faultOf(x, "#>2/._."));
    due(0, faultOf(x, "c1>2/._."));
    due(1, faultOf(x, "C"));
    due(1, faultOf(x, "C4>2/._."));
    due(2, faultOf(x, "C0"));
    due(1, faultOf(x, "12>2/._."));
    due(2, faultOf(x, "1>"));
    due(2, faultOf(x, "1>C1/._."));
    due(2, faultOf(x, "1> 2/._."));
    due(3, faultOf(x, "1>22/._."));
    due(4, faultOf(x, "1>2/-_."));
    due(5, faultOf(x, "1>2/C5_."));
    due(5, faultOf(x, "1>2/."));
    due(5, faultOf(x, "1>2/.."));
    due(6, faultOf(x, "1>2/._"));
    due(6, faultOf(x, "1>2/.__"));
    due(7, faultOf(x, "1>2/._C"));
    due(7, faultOf(x, "1>2/._C9"));
    due(7, faultOf(x, "1>2/._.."));
    due(8, faultOf(x, "1>2/._C1C"));
    bytes(x, 0, '1', '>' + 256, '2', '/', '.', '_', '.');
    due(-4, x.fault(0));
    bytes(x, 0, 1, '>');
    due(0, x.fault(0));
    wrongShelves(x);
    due(-1, x.fault(8));
    due(-1, x.fault(-1));
    due(-11, x.fault(6));
    due(-12, x.fault(1));
    due(-12, x.fault(2));
    due(-12, x.fault(3));
    due(0, x.count(4));
  }

  private static void p14Rule() {
    TongueBook x = start("14 rule");
    due(0, addRule(x, "1>2/._."));
    due(-100, addRule(x, ""));
    due(-106, addRule(x, "1>2/._"));
    due(1, x.count(4));
    wrongShelves(x);
    due(-1, x.rule(8));
    due(-1, x.rule(-1));
    due(-11, x.rule(6));
    due(-12, x.rule(1));
    due(-12, x.rule(2));
    due(-12, x.rule(3));
    due(-100, x.rule(4));
    text(x, 4, "C1>-/#_C0");
    for (int r = 1; r < 8; r++) {
      due(r, x.rule(4));
    }
    due(-2, x.rule(4));
    due(-2, x.rule(6));
    due(-2, x.rule(3));
    due(-2, x.rule(5));
    due(-1, x.rule(9));
    due(8, x.count(4));
  }

  private static void p15Heard() {
    TongueBook x = start("15 heard");
    hears(x, "12345", "12345");
    hears(x, "", "");
    addRule(x, "1>1/1_1");
    hears(x, "111", "111");
    addRule(x, "1>2/1_.");
    hears(x, "1111", "1222");
    hears(x, "0111", "0122");
    x = start("15 heard, falling sounds all at once");
    addRule(x, "3>-/3_.");
    hears(x, "3334", "34");
    addRule(x, "4>-/._#");
    hears(x, "44", "4");
    hears(x, "3", "3");
    x = start("15 heard, the edge");
    addRule(x, "5>6/#_.");
    addRule(x, "5>7/._#");
    hears(x, "555", "657");
    hears(x, "5", "6");
    addRule(x, "6>8/#_#");
    hears(x, "5", "8");
    hears(x, "56", "66");
    x = start("15 heard, classes");
    x.classOf(1, 2);
    x.classOf(2, 2);
    addRule(x, "C2>9/C2_C0");
    hears(x, "121", "121");
    hears(x, "1203", "1903");
    hears(x, "120", "190");
    hears(x, "20", "20");
    x.classOf(1, 0);
    hears(x, "121", "121");
    hears(x, "2201", "2901");
    x = start("15 heard, a class never is the edge");
    addRule(x, "0>1/C0_C0");
    hears(x, "000", "010");
    x = start("15 heard, rules in order");
    addRule(x, "1>2/._.");
    addRule(x, "2>3/._.");
    addRule(x, "1>4/._.");
    hears(x, "121", "333");
    x = start("15 heard, rows");
    bytes(x, 0, new int[80]);
    due(80, x.heard(0, 0));
    due(-13, x.put(0, 80, 1));
    addRule(x, "0>-/._.");
    due(0, x.heard(0, 2));
    due(-13, x.put(2, 0, 1));
    x.row(3, 2, 5);
    due(0, x.heard(2, 3));
    due(0, x.heard(3, 2));
    wrongShelves(x);
    due(-1, x.heard(8, 0));
    due(-1, x.heard(0, 8));
    due(-1, x.heard(-1, 0));
    due(-1, x.heard(6, -1));
    due(-11, x.heard(6, 0));
    due(-12, x.heard(1, 0));
    due(-12, x.heard(2, 0));
    due(-12, x.heard(3, 0));
    bytes(x, 5, 0, 10);
    due(-13, x.heard(5, 0));
    bytes(x, 5, 0, -1);
    due(-13, x.heard(5, 0));
    due(-12, x.length(0));
    due(1, x.heard(4, 3));
    due(-12, x.length(3));
    due(1, x.element(3, 0));
  }

  private static void p16Deep() {
    TongueBook x = start("16 deep");
    due(-1, x.deep(0, -1));
    good(x, 0, 1, 1, 1, 2);
    due(-4, x.deep(0, -1));
    due(-4, x.deep(0, 0));
    due(-1, x.deep(0, -2));
    due(-1, x.deep(1, -1));
    due(-1, x.deep(-1, -1));
    addNote(x, 0, 1);
    addNote(x, 0, 1, 2);
    due(3, x.deep(0, -1));
    due(0, x.deep(0, 0));
    due(0, x.deep(0, 1));
    due(1, x.deep(0, 2));
    due(-4, x.deep(0, 3));
    due(-4, x.deep(0, Integer.MAX_VALUE));
    addNote(x, 3, 1);
    due(2, x.deep(0, -1));
    due(2, x.deep(0, 0));
    due(1, x.deep(0, 1));
    due(-4, x.deep(0, 2));
    addNote(x, 0, 1, 1, 1, 2);
    due(1, x.deep(0, -1));
    due(3, x.deep(0, 0));
    x.use(3, false);
    due(2, x.deep(0, -1));
    addRule(x, "1>2/._#");
    addRule(x, "3>-/._.");
    due(2, x.deep(0, -1));
    due(2, x.deep(0, 0));
    due(1, x.deep(0, 1));
    x.use(1, false);
    due(2, x.deep(0, -1));
    due(2, x.deep(0, 0));
    due(2, x.deep(0, 1));
    addNote(x, 1, 3, 1, 3, 1);
    due(2, x.deep(0, -1));
    due(2, x.deep(0, 1));
    x.use(2, false);
    due(4, x.deep(0, 0));
    due(4, x.deep(0, 1));
    x.use(4, false);
    x.use(0, false);
    due(-4, x.deep(0, -1));
    x = start("16 deep, sound 0");
    good(x, 0, 0, 5);
    good(x, 0, 5, 5);
    addNote(x, 3, 0);
    due(-4, x.deep(0, 0));
    addRule(x, "0>5/._#");
    due(0, x.deep(0, 0));
    due(-4, x.deep(1, 0));
    addRule(x, "C0>5/#_.");
    due(-4, x.deep(0, 0));
    due(0, x.deep(1, 0));
    x.classOf(0, 1);
    due(0, x.deep(0, 0));
    x = start("16 deep, of cards however they are");
    addCard(x, 0, 0, 0, 4);
    x.takeBack(0);
    addNote(x, 0, 4);
    due(0, x.deep(0, 0));
    x = start("16 deep, three times a doubled one");
    addNote(x, 3, 1, 2, 3, 4);
    addNote(x, 0, 9);
    addRule(x, "C0>-/C0_.");
    good(x, 0, 1);
    due(1, x.deep(0, -1));
    due(0, x.deep(0, 0));
    addRule(x, "1>8/._.");
    due(-4, x.deep(0, -1));
    good(x, 0, 9);
    due(1, x.deep(1, 0));
  }

  private static void p17Said() {
    TongueBook x = start("17 said");
    due(0, say(x, 7, 999, true, 3));
    due(1, say(x, 0, 0, false, 3, 2, 1, 0));
    wrongShelves(x);
    due(-1, x.said(8, 0, 0, true));
    due(-1, x.said(-1, 0, 0, true));
    due(-1, x.said(4, 8, 0, true));
    due(-1, x.said(4, -1, 0, true));
    due(-1, x.said(4, 0, 1000, true));
    due(-1, x.said(6, 0, -1, true));
    due(-11, x.said(6, 0, 0, true));
    due(-12, x.said(1, 0, 0, true));
    due(-12, x.said(2, 0, 0, true));
    due(-12, x.said(3, 0, 0, true));
    due(-13, x.said(5, 0, 0, true));
    due(-13, x.said(7, 0, 0, true));
    due(-13, say(x, 0, 0, true, 4));
    due(-13, say(x, 0, 0, true, -1));
    due(-13, say(x, 0, 0, true, 1, 2, 1));
    due(-13, say(x, 0, 0, true, 0, 1, 2, 3, 0));
    due(2, x.count(5));
    for (int k = 2; k < 20; k++) {
      due(k, x.said(4, 1, 1, true));
    }
    due(-2, x.said(4, 1, 1, true));
    due(-2, x.said(6, 1, 1, true));
    due(-1, x.said(6, 1, 1000, true));
    due(20, x.count(5));
  }

  private static void p18Orders() {
    TongueBook x = start("18 orders");
    for (int village = -1; village < 4; village++) {
      due(24, x.orders(village, -1));
      due(0, x.orders(village, 0));
      due(23, x.orders(village, 23));
      due(-4, x.orders(village, 24));
      due(-4, x.orders(village, Integer.MAX_VALUE));
      due(-1, x.orders(village, -2));
    }
    due(-1, x.orders(-2, -1));
    due(-1, x.orders(4, -1));
    say(x, 0, 0, true, 0, 1, 2);
    due(4, x.orders(-1, -1));
    int[] fitting = {0, 1, 4, 18};
    for (int i = 0; i < 4; i++) {
      due(fitting[i], x.orders(0, i));
    }
    due(-4, x.orders(0, 4));
    due(24, x.orders(1, -1));
    say(x, 1, 0, false, 0, 1, 2, 3);
    due(1, x.orders(-1, 0));
    due(3, x.orders(-1, -1));
    x.speaker(1, 0, 2);
    due(4, x.orders(0, -1));
    due(23, x.orders(2, -1));
    due(1, x.orders(2, 0));
    due(3, x.orders(-1, -1));
    say(x, 1, 0, false, 2);
    due(0, x.orders(2, -1));
    due(-4, x.orders(2, 0));
    due(0, x.orders(-1, -1));
  }

  private static void p19Fits() {
    TongueBook x = start("19 fits");
    bytes(x, 0, 3, 0);
    due(0, x.fits(0, 0));
    due(1, x.fits(0, 18));
    due(1, x.fits(0, 9));
    due(0, x.fits(0, 5));
    bytes(x, 0, 3, 2, 1, 0);
    due(1, x.fits(0, 23));
    due(0, x.fits(0, 22));
    bytes(x, 0, 2);
    for (int order = 0; order < 24; order++) {
      due(1, x.fits(0, order));
    }
    due(-1, x.fits(0, 24));
    due(-1, x.fits(0, -1));
    wrongShelves(x);
    due(-1, x.fits(8, 0));
    due(-1, x.fits(-1, 0));
    due(-1, x.fits(6, 24));
    due(-11, x.fits(6, 0));
    due(-12, x.fits(1, 0));
    due(-12, x.fits(2, 0));
    due(-12, x.fits(3, 0));
    due(-13, x.fits(5, 0));
    due(-13, x.fits(7, 0));
    bytes(x, 0, 0, 0);
    due(-13, x.fits(0, 0));
    bytes(x, 0, 0, 4);
    due(-13, x.fits(0, 0));
  }

  private static void p20Ask() {
    TongueBook x = start("20 ask");
    for (int village = -1; village < 4; village++) {
      due(1 + 5 * 2, x.ask(village, 0));
      due(12, x.ask(village, 1));
    }
    due(-1, x.ask(-2, 0));
    due(-1, x.ask(4, 0));
    due(-1, x.ask(0, 2));
    due(-1, x.ask(0, -1));
    say(x, 0, 0, true, 0, 1, 2);
    due(2 + 5 * 4, x.ask(0, 0));
    due(2, x.ask(0, 1));
    say(x, 0, 0, false, 3, 0);
    due(22, x.ask(0, 0));
    due(2, x.ask(0, 1));
    say(x, 0, 0, false, 3, 1);
    due(2, x.orders(0, -1));
    due(3 + 5 * 4, x.ask(0, 0));
    due(1, x.ask(0, 1));
    say(x, 0, 0, true, 3, 2);
    due(-4, x.ask(0, 0));
    due(-4, x.ask(0, 1));
    due(-4, x.ask(-1, 0));
    due(11, x.ask(1, 0));
    due(-1, x.ask(0, 2));
    x.speaker(0, 0, 1);
    due(11, x.ask(0, 0));
    due(-4, x.ask(1, 1));
  }

  private static void p21Who() {
    TongueBook x = start("21 who");
    due(0, x.who(0, 0));
    due(-4, x.who(3, 999));
    due(-1, x.who(-1, 0));
    due(-1, x.who(4, 0));
    due(-1, x.who(0, -1));
    due(-1, x.who(0, 1000));
    say(x, 0, 10, true, 0, 1);
    due(1, x.who(0, 20));
    for (int one = 2; one < 8; one++) {
      x.speaker(one, 0, 3);
    }
    say(x, 1, 12, false, 0, 1);
    due(-4, x.who(0, 9));
    due(0, x.who(0, 10));
    due(0, x.who(0, 12));
    x.speaker(0, 1, 5);
    due(1, x.who(0, 14));
    due(0, x.who(0, 15));
    say(x, 0, 3, true, 0, 1);
    due(1, x.who(0, 15));
    due(-4, x.who(0, 11));
    x.speaker(1, 1, 99);
    due(0, x.who(0, 15));
    due(-4, x.who(0, 14));
    due(0, x.who(0, 110));
    due(1, x.who(0, 111));
    due(2, x.who(3, 0));
    x = start("21 who, all said by one");
    x.speaker(5, 0, 1);
    for (int k = 0; k < 20; k++) {
      due(k, say(x, 5, 7, true, 0, 1));
    }
    due(5, x.who(1, 7));
    due(-4, x.who(1, 6));
    due(0, x.who(0, 0));
  }

  private static void p22None() {
    TongueBook x = start("22 none");
    due(-4, x.none(-1));
    due(-1, x.none(-2));
    due(-1, x.none(4));
    say(x, 0, 0, true, 0, 1);
    say(x, 1, 0, true, 1, 2);
    say(x, 2, 0, true, 2, 3);
    say(x, 3, 0, true, 3, 0);
    due(-4, x.none(-1));
    say(x, 4, 0, true, 2, 0);
    due(19, x.none(-1));
    due(19, x.none(0));
    x.speaker(0, 0, 1);
    due(-4, x.none(0));
    due(-4, x.none(1));
    due(19, x.none(-1));
    x.speaker(0, 0, 0);
    say(x, 5, 0, false, 2, 3);
    due(36, x.none(0));
    say(x, 6, 0, true, 1, 0);
    due(36, x.none(0));
    x.speaker(2, 0, 3);
    due(65, x.none(0));
    due(36, x.none(-1));
    say(x, 7, 0, false, 3);
    due(128, x.none(0));
    due(-4, x.none(3));
    x.speaker(7, 0, 2);
    due(128, x.none(2));
    due(65, x.none(0));
  }

  private static void p22NoneOfFirst() {
    TongueBook x = start("22 none, the first alone");
    say(x, 0, 0, false, 2);
    due(1, x.none(-1));
    due(1, x.none(0));
    due(-4, x.none(1));
    x = start("22 none, three, the least as bits");
    say(x, 0, 0, true, 0, 1);
    say(x, 0, 0, true, 3, 0);
    say(x, 0, 0, true, 2, 3);
    say(x, 0, 0, true, 1, 2);
    say(x, 0, 0, true, 1, 3);
    due(19, x.none(-1));
    x = start("22 none, four are too many");
    say(x, 0, 0, true, 0, 1);
    say(x, 0, 0, true, 1, 2);
    say(x, 0, 0, true, 2, 3);
    say(x, 0, 0, true, 3, 0);
    due(0, x.orders(0, -1));
    due(-4, x.none(0));
  }

  private static void p23Reader() {
    TongueBook x = start("23 reader");
    due(-4, x.reader(0, 0, 0));
    good(x, 0, 1, 2);
    good(x, 0, 1, 2, 1, 2);
    good(x, 0, 1, 2, 3);
    good(x, 0, 1, 2, 3, 4);
    addNote(x, 0, 1, 2);
    due(-4, x.reader(0, 0, 0));
    due(0, x.reader(0, 1, 0));
    due(1, x.reader(0, 1, 1));
    due(-4, x.reader(0, 9, 2));
    due(0, x.reader(1, 0, 0));
    addNote(x, 0, 3);
    due(2, x.reader(1, 1, 2));
    due(2, x.reader(2, 1, 2));
    due(-4, x.reader(0, 1, 2));
    due(2, x.reader(0, 2, 2));
    due(-4, x.reader(65535, 9, 3));
    addNote(x, 0, 4);
    due(3, x.reader(0, 3, 3));
    due(-4, x.reader(65535, 9, 39));
    x.takeBack(0);
    due(1, x.reader(65535, 0, 0));
    addCard(x, 0, 110, 0, 1, 2);
    due(-4, x.reader(65535, 0, 4));
    x.bar(0, true);
    due(-4, x.reader(65535, 0, 0));
    due(-1, x.reader(-1, 0, 0));
    due(-1, x.reader(65536, 0, 0));
    due(-1, x.reader(0, -1, 0));
    due(-1, x.reader(0, 10, 0));
    due(-1, x.reader(0, 0, -1));
    due(-1, x.reader(0, 0, Integer.MIN_VALUE));
    readerFromBehind();
  }

  /** i has no range of its own: from behind the last CARD on there is none. */
  private static void readerFromBehind() {
    TongueBook x = start("23 reader, from behind the last card");
    int[] behind = {0, 1, 39, 40, 41, 47, 1000, Integer.MAX_VALUE};
    for (int i : behind) {
      due(-4, x.reader(0, 0, i));
      due(-1, x.reader(-1, 0, i));
      due(-1, x.reader(0, 10, i));
    }
    addNote(x, 0, 1);
    for (int k = 0; k < 40; k++) {
      good(x, 0, 1);
    }
    due(39, x.reader(1, 0, 39));
    due(-4, x.reader(1, 0, 40));
    due(-4, x.reader(65535, 9, 47));
    due(-4, x.reader(65535, 9, Integer.MAX_VALUE));
    due(-1, x.reader(1, 0, -1));
  }

  private static void p24Neighbour() {
    TongueBook x = start("24 neighbour");
    due(-1, addWord(x, 0, 1));
    good(x, 0, 1, 2);
    addCard(x, 0, 0, 0, 1, 2);
    x.takeBack(1);
    due(0, addWord(x, 0, 1));
    due(1, addWord(x, 1, 1, 2, 3, 4, 5, 6, 7, 8));
    wrongShelves(x);
    due(-1, x.neighbour(8, 0));
    due(-1, x.neighbour(-1, 0));
    due(-1, x.neighbour(4, 2));
    due(-1, x.neighbour(6, -1));
    due(-11, x.neighbour(6, 0));
    due(-12, x.neighbour(1, 0));
    due(-12, x.neighbour(2, 0));
    due(-12, x.neighbour(3, 0));
    due(-13, x.neighbour(5, 0));
    due(-13, x.neighbour(7, 0));
    bytes(x, 0, 0, 10);
    due(-13, x.neighbour(0, 0));
    bytes(x, 0, 0, 1, 2, 3, 4, 5, 6, 7, 8);
    due(-13, x.neighbour(0, 0));
    due(2, x.count(6));
    for (int w = 2; w < 10; w++) {
      due(w, x.neighbour(4, 0));
    }
    due(-2, x.neighbour(4, 0));
    due(-2, x.neighbour(6, 0));
    due(-1, x.neighbour(6, 2));
    due(10, x.count(6));
  }

  private static void p25Law() {
    TongueBook x = start("25 law");
    due(-4, x.law(0));
    due(-1, x.law(10));
    due(-1, x.law(-1));
    good(x, 0, 1, 2, 1);
    good(x, 0, 2, 2);
    addWord(x, 0, 9, 0, 8);
    due(8, x.law(1));
    due(0, x.law(2));
    due(-4, x.law(3));
    addWord(x, 0, 9, 7, 3);
    due(9, x.law(1));
    due(0, x.law(2));
    addWord(x, 0, 4, 4);
    due(9, x.law(1));
    addWord(x, 1, 7, 4);
    due(7, x.law(2));
    x.takeBack(1);
    x.bar(0, true);
    due(7, x.law(2));
    due(9, x.law(1));
  }

  private static void p26Led() {
    TongueBook x = start("26 led");
    due(0, x.led(0));
    due(0, x.led(1));
    due(-1, x.led(2));
    due(-1, x.led(-1));
    good(x, 0, 1, 2, 1);
    good(x, 0, 2, 2);
    good(x, 0, 1);
    addWord(x, 0, 5, 6, 5);
    due(3, x.led(0));
    due(1, x.led(1));
    addWord(x, 1, 6, 7);
    due(4, x.led(0));
    due(1, x.led(1));
    addWord(x, 2, 5, 5);
    due(4, x.led(0));
    due(1, x.led(1));
    addWord(x, 2, 5);
    due(5, x.led(0));
    due(2, x.led(1));
    addWord(x, 2, 4);
    due(5, x.led(0));
    due(2, x.led(1));
  }

  private static void p27Odds() {
    TongueBook x = start("27 odds");
    due(1, x.odds(0));
    due(1, x.odds(1));
    due(-1, x.odds(2));
    due(-1, x.odds(-1));
    good(x, 0, 1, 2, 1);
    good(x, 0, 2, 2);
    addWord(x, 0, 5, 6, 5);
    due(1, x.odds(0));
    addWord(x, 1, 6, 7);
    due(1, x.odds(0));
    due(2, x.odds(1));
    addWord(x, 0, 6, 7);
    due(4, x.odds(0));
    due(6, x.odds(1));
    due(4, x.led(0));
    x = start("27 odds, of seven at most");
    int[] ways = {1, 1, 2, 6, 24, 120, 720, 5040};
    for (int w = 0; w < 7; w++) {
      due(w, good(x, 0, w));
      due(w, addWord(x, w, w));
      due(ways[w + 1], x.odds(1));
      due(ways[w + 1], x.odds(0));
      due(w + 1, x.led(0));
    }
    addWord(x, 0, 1);
    due(-3, x.odds(0));
    due(-3, x.odds(1));
    due(-1, x.odds(2));
    x = start("27 odds, laws made anew");
    good(x, 0, 1);
    good(x, 0, 1);
    good(x, 0, 2);
    addWord(x, 0, 3);
    addWord(x, 1, 3);
    addWord(x, 2, 4);
    due(3, x.led(0));
    due(2, x.odds(0));
    due(6, x.odds(1));
    due(3, x.led(0));
  }

  private static void p28Bar() {
    TongueBook x = start("28 bar");
    due(0, x.bar(0, true));
    good(x, 0, 1);
    addCard(x, 0, 10, 0, 1);
    addCard(x, 0, 100, 0, 1);
    due(2, x.bar(0, true));
    due(0, x.bar(0, true));
    due(1, x.count(1));
    due(1, x.about(1, 6));
    due(0, x.about(2, 6));
    good(x, 0, 1);
    due(0, x.about(3, 6));
    due(1, x.bar(0, true));
    x.takeBack(0);
    due(2, x.bar(0, false));
    due(2, x.about(0, 6));
    due(0, x.about(1, 6));
    due(0, x.bar(0, false));
    due(1, x.bar(1, true));
    due(0, x.bar(7, true));
    due(-1, x.bar(8, true));
    due(-1, x.bar(-1, false));
  }

  private static void p29TakeBack() {
    TongueBook x = start("29 takeBack");
    due(-1, x.takeBack(0));
    good(x, 0, 1);
    good(x, 0, 1);
    due(1, x.takeBack(0));
    due(0, x.takeBack(0));
    x.bar(0, true);
    due(1, x.takeBack(1));
    due(2, x.about(1, 6));
    due(0, x.bar(0, false));
    due(0, x.takeBack(1));
    due(-1, x.takeBack(2));
    due(-1, x.takeBack(-1));
    due(2, x.count(0));
    due(0, x.count(1));
  }

  private static void p30Leaned() {
    TongueBook x = start("30 leaned");
    due(-1, x.leaned(0));
    good(x, 0, 1, 2);
    due(0, x.leaned(0));
    addNote(x, 0, 1);
    addNote(x, 0, 2);
    due(3, x.leaned(0));
    good(x, 0, 2, 3);
    due(1, x.leaned(0));
    due(0, x.leaned(1));
    addNote(x, 0, 3);
    due(4, x.leaned(1));
    addCard(x, 0, 0, 0, 1);
    due(1, x.leaned(0));
    due(0, x.leaned(2));
    x.takeBack(1);
    due(3, x.leaned(0));
    due(0, x.leaned(1));
    x.use(0, false);
    due(2, x.leaned(0));
    x.bar(0, true);
    due(0, x.leaned(0));
    due(-1, x.leaned(3));
    due(-1, x.leaned(-1));
  }

  private static void p31Weight() {
    TongueBook x = start("31 weight");
    due(0, x.weight(0, 0));
    due(0, x.weight(3, 1));
    due(-1, x.weight(4, 0));
    due(-1, x.weight(-1, 0));
    due(-1, x.weight(0, 2));
    due(-1, x.weight(0, -1));
    addCard(x, 1, 1, 3, 1, 2);
    addCard(x, 2, 10, 3, 1, 2);
    due(1, x.weight(0, 0));
    due(1, x.weight(0, 1));
    due(1, x.weight(1, 0));
    due(0, x.weight(2, 1));
    addCard(x, 1, 21, 3, 1, 2, 3);
    due(1, x.weight(0, 0));
    due(2, x.weight(0, 1));
    due(0, x.weight(2, 0));
    due(2, x.weight(2, 1));
    addCard(x, 1, 0, 3, 1, 3);
    due(1, x.weight(0, 0));
    due(4, x.weight(0, 1));
    due(1, x.weight(1, 0));
    due(3, x.weight(1, 1));
    addCard(x, 1, 31, 4, 1, 2);
    addCard(x, 1, 131, 3, 1, 2);
    due(0, x.weight(3, 1));
    x.takeBack(1);
    due(0, x.weight(0, 0));
    due(2, x.weight(0, 1));
    x.bar(0, true);
    due(0, x.weight(0, 1));
  }

  private static void p32Image() {
    TongueBook x = start("32 image");
    due(0, x.image());
    good(x, 0, 1);
    due(1, x.image());
    good(x, 0, 1);
    due(1, x.restore());
    due(2, good(x, 0, 1) + 1);
    due(2, x.image());
    due(2, x.restore());
  }

  private static void p33Restore() {
    TongueBook x = start("33 restore");
    due(-3, x.restore());
    fillAll(x);
    due(2, x.image());
    changeAll(x);
    due(2, x.restore());
    checkAll(x);
    changeAll(x);
    due(2, x.restore());
    checkAll(x);
    x = start("33 restore, shelves stay");
    x.image();
    addNote(x, 4, 8, 9);
    x.keep(0, 1, 0);
    bytes(x, 1, 5);
    due(0, x.restore());
    due(8, x.length(0));
    due(100, x.toss(0));
    due(5, x.element(1, 0));
    addNote(x, 0, 3, 3, 3);
    due(8, x.length(0));
    due(100, x.toss(0));
  }

  private static void fillAll(TongueBook x) {
    x.classOf(3, 2);
    x.speaker(1, 0, 1);
    x.speaker(1, 1, 9);
    addCard(x, 3, 111, 5, 1, 2);
    addCard(x, 5, 111, 5, 3);
    x.takeBack(1);
    addNote(x, 0, 1, 2);
    addNote(x, 0, 2);
    x.use(1, false);
    addRule(x, "1>2/._.");
    say(x, 1, 5, true, 0, 1);
    addWord(x, 0, 5, 6);
  }

  private static void changeAll(TongueBook x) {
    x.classOf(3, 1);
    x.speaker(1, 0, 0);
    x.speaker(1, 1, 1);
    x.bar(1, true);
    addCard(x, 1, 1, 1, 4);
    x.use(0, false);
    x.use(1, true);
    addNote(x, 0, 7);
    addRule(x, "2>3/._.");
    say(x, 0, 1, false, 1);
    addWord(x, 1, 5);
  }

  private static void checkAll(TongueBook x) {
    due(2, x.classOf(3, 2));
    due(1, x.speaker(1, 0, 1));
    due(9, x.speaker(1, 1, 9));
    int[] counts = {2, 1, 2, 1, 1, 1, 1, 0};
    for (int what = 0; what < counts.length; what++) {
      due(counts[what], x.count(what));
    }
    due(0, x.about(0, 6));
    due(2, x.about(1, 6));
    due(3, x.about(0, 1));
    due(0, x.cut(0, 0));
    hears(x, "12", "22");
    due(12, x.orders(1, -1));
    due(24, x.orders(0, -1));
    due(5, x.law(1));
    due(-4, x.law(3));
  }

  private static void p34Count() {
    TongueBook x = start("34 count");
    due(-1, x.count(8));
    due(-1, x.count(-1));
    good(x, 0, 1, 2);
    good(x, 0, 1);
    addCard(x, 0, 0, 0, 3);
    addCard(x, 0, 101, 0, 3);
    addNote(x, 0, 1);
    due(4, x.count(0));
    due(4, x.count(1));
    due(1, x.count(2));
    due(1, x.count(3));
    due(2, x.count(7));
    x.bar(1, true);
    due(3, x.count(1));
    due(1, x.count(7));
    x.takeBack(0);
    due(2, x.count(1));
    due(0, x.count(7));
    x.use(0, false);
    due(1, x.count(2));
    due(0, x.count(3));
    due(1, x.count(7));
    addRule(x, "1>2/._.");
    due(1, x.count(4));
    say(x, 0, 0, true, 1);
    due(1, x.count(5));
    addWord(x, 0, 1);
    addWord(x, 0, 1);
    due(2, x.count(6));
  }

  private static void p35Keep() {
    TongueBook x = start("35 keep");
    due(-1, x.keep(0, 1, 0));
    due(0, x.keep(0, 0, -9));
    addNote(x, 0, 1, 2);
    addNote(x, 1, 1);
    due(0, x.keep(0, 1, 1));
    due(4, x.length(0));
    x.use(0, false);
    due(0, x.keep(0, 1, 0));
    due(3, x.length(0));
    due(-1, x.keep(0, 1, 2));
    due(-1, x.keep(0, 1, -1));
    due(-1, x.keep(0, 2, 0));
    due(-1, x.keep(0, -1, 0));
    due(-1, x.keep(8, 1, 0));
    due(-1, x.keep(8, 0, 0));
    due(-1, x.keep(-1, 0, 0));
    due(3, x.length(0));
    due(0, x.keep(0, 0, 77));
    due(-11, x.length(0));
  }

  private static void p36Row() {
    TongueBook x = start("36 row");
    due(0, x.row(0, 0, 80));
    due(0, x.element(0, 79));
    due(0, x.put(0, 79, 4));
    due(0, x.row(0, 2, 80));
    due(0, x.element(0, 79));
    due(0, x.row(7, 1, 0));
    due(-13, x.put(7, 0, 1));
    due(-1, x.row(0, 0, 81));
    due(-1, x.row(0, 3, 1));
    due(-1, x.row(0, -1, 1));
    due(-1, x.row(8, 0, 1));
    due(-1, x.row(-1, 0, 1));
    due(-1, x.row(8, 0, -1));
    due(-1, x.row(0, 3, -1));
    due(-14, x.row(0, 0, -1));
    due(-14, x.row(0, 2, Integer.MIN_VALUE));
    due(0, x.put(0, 79, 4));
    due(4, x.element(0, 79));
  }

  private static void p37Put() {
    TongueBook x = start("37 put");
    int[][] kept = {{-1, 0, -128, 127}, {-1, 256, 128, -129}, {-1, 65792, 128, -129}};
    int[] put = {-1, 65792, 128, -129};
    for (int sort = 0; sort < 3; sort++) {
      x.row(0, sort, 4);
      for (int i = 0; i < 4; i++) {
        due(0, x.put(0, i, put[i]));
        due(kept[sort][i], x.element(0, i));
      }
    }
    x.row(0, 1, 1);
    due(0, x.put(0, 0, 32768));
    due(-32768, x.element(0, 0));
    due(-13, x.put(0, 1, 0));
    due(-13, x.put(0, -1, 0));
    due(-1, x.put(8, 0, 0));
    due(-1, x.put(-1, 0, 0));
    due(-11, x.put(1, 0, 0));
    due(-11, x.put(1, -1, 0));
    addNote(x, 0, 1);
    x.keep(1, 1, 0);
    due(-12, x.put(1, 0, 0));
    due(-12, x.put(1, 99, 0));
  }

  private static String thrown(TongueBook x, int d, int i) {
    try {
      return "" + x.element(d, i);
    } catch (RuntimeException e) {
      return e.getClass().getSimpleName();
    }
  }

  private static void dueText(String want, String got) {
    due(0, want.equals(got) ? 0 : 1);
  }

  private static void p38Element() {
    TongueBook x = start("38 element");
    x.row(0, 2, 2);
    x.put(0, 0, Integer.MIN_VALUE);
    x.put(0, 1, Integer.MAX_VALUE);
    due(Integer.MIN_VALUE, x.element(0, 0));
    due(Integer.MAX_VALUE, x.element(0, 1));
    dueText("IllegalArgumentException", thrown(x, 8, 0));
    dueText("IllegalArgumentException", thrown(x, -1, 0));
    dueText("IllegalArgumentException", thrown(x, 8, -1));
    dueText("IllegalStateException", thrown(x, 1, 0));
    dueText("IllegalStateException", thrown(x, 0, 2));
    dueText("IllegalStateException", thrown(x, 0, -1));
    addNote(x, 0, 1);
    x.keep(1, 1, 0);
    dueText("IllegalStateException", thrown(x, 1, 0));
  }

  private static void p39Copy() {
    TongueBook x = start("39 copy");
    bytes(x, 0, 1, 2, 3, 4, 5);
    x.row(1, 0, 3);
    due(2, x.copy(0, 3, 1, 1, 2));
    due(0, x.element(1, 0));
    due(4, x.element(1, 1));
    due(5, x.element(1, 2));
    due(4, x.copy(0, 0, 0, 1, 4));
    int[] shifted = {1, 1, 2, 3, 4};
    for (int i = 0; i < 5; i++) {
      due(shifted[i], x.element(0, i));
    }
    due(3, x.copy(0, 2, 0, 1, 3));
    int[] back = {1, 2, 3, 4, 4};
    for (int i = 0; i < 5; i++) {
      due(back[i], x.element(0, i));
    }
    due(0, x.copy(0, 5, 1, 3, 0));
    due(0, x.copy(0, 0, 1, 0, 0));
    due(-13, x.copy(0, 6, 1, 0, 0));
    due(-13, x.copy(0, 0, 1, 4, 0));
    due(-13, x.copy(0, 0, 1, 0, 4));
    due(-13, x.copy(0, 3, 1, 0, 3));
    due(-13, x.copy(0, -1, 1, 0, 1));
    due(-13, x.copy(0, 0, 1, -1, 1));
    due(-13, x.copy(0, 0, 1, 0, -1));
    due(-13, x.copy(0, 0, 1, 0, Integer.MIN_VALUE));
    due(-13, x.copy(0, 1, 1, 1, Integer.MAX_VALUE));
    due(-13, x.copy(0, Integer.MAX_VALUE, 1, 1, 1));
    due(-1, x.copy(8, 0, 1, 0, 1));
    due(-1, x.copy(0, 0, 8, 0, 1));
    due(-1, x.copy(-1, 0, 1, 0, 1));
    due(-1, x.copy(0, 0, -1, 0, 1));
    due(-11, x.copy(2, 0, 1, 0, 1));
    due(-11, x.copy(0, 0, 2, 0, -1));
    due(-1, x.copy(2, 0, 8, 0, 1));
    x.row(3, 1, 3);
    due(-12, x.copy(0, 0, 3, 0, 1));
    due(-12, x.copy(3, 0, 0, 0, -1));
    due(1, x.copy(3, 0, 3, 0, 1));
    addNote(x, 0, 1);
    x.keep(4, 1, 0);
    due(-12, x.copy(4, 0, 0, 0, 1));
    due(-12, x.copy(0, 0, 4, 0, 1));
    due(-12, x.copy(4, 0, 4, 0, 1));
    due(-11, x.copy(4, 0, 2, 0, 1));
    due(-11, x.copy(2, 0, 4, 0, 1));
  }

  private static void p40Length() {
    TongueBook x = start("40 length");
    due(-11, x.length(0));
    int[] lengths = {3, 5, 3, 5, 8};
    for (int kind = 0; kind < 5; kind++) {
      addNote(x, kind, 4, 5);
      x.keep(kind, 1, kind);
      due(lengths[kind], x.length(kind));
    }
    x.row(0, 0, 2);
    due(-12, x.length(0));
    due(-1, x.length(8));
    due(-1, x.length(-1));
  }

  private static void p41Toss() {
    TongueBook x = start("41 toss");
    due(-11, x.toss(0));
    int[] failures = {0, 1, -15, 9, 104};
    for (int kind = 0; kind < 5; kind++) {
      addNote(x, kind, 9, 5);
      x.keep(kind, 1, kind);
      due(failures[kind], x.toss(kind));
    }
    for (int kind = 0; kind < 5; kind++) {
      addNote(x, kind, 9);
      x.keep(kind, 1, 5 + kind);
      due(-15, x.toss(kind));
    }
    addNote(x, 4, 1, 2, 3, 4);
    x.keep(0, 1, 10);
    due(110, x.toss(0));
    addNote(x, 3, 0, 2);
    x.keep(0, 1, 11);
    due(0, x.toss(0));
    x.row(0, 0, 2);
    due(-12, x.toss(0));
    due(-1, x.toss(8));
    due(-1, x.toss(-1));
  }
}
