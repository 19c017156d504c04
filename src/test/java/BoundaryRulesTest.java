/** The boundaries that promises 13 to 16 name: sound rules. */
public final class BoundaryRulesTest extends Bench {
  private static final String DIGITS = "0123456789";
  private static final int DOUBLED = 3;

  public static void main(String[] args) {
    faultShelves();
    faultTexts();
    faultEnds();
    ruleNumbers();
    ruleRefusals();
    heardRows();
    heardShelves();
    heardRules();
    heardEdges();
    deepNumbers();
    deepRows();
    deepHeard();
    end("BoundaryRulesTest", 13, 16);
  }

  private static int faultOf(TongueBook x, String signs) {
    text(x, 7, signs);
    return x.fault(7);
  }

  private static void faultShelves() {
    holds(13, "-1", "shelves 0 and 7, not -1 nor 8", () -> {
      TongueBook x = new TongueBook();
      dueNoShelf(x::fault);
      text(x, 0, "1>2/._.");
      text(x, 7, "1>2/._.");
      due(-4, x.fault(0));
      due(-4, x.fault(7));
    });
    holds(13, "-11", "nothing is held", () -> {
      TongueBook x = new TongueBook();
      dueNothingHeld(x, x::fault);
    });
    holds(13, "-12 (no ROW of bytes)", "shorts, ints, a note", () -> {
      TongueBook x = new TongueBook();
      piece(x, 1);
      dueOtherKind(x, x::fault, "1>2/._.".chars().toArray());
    });
    holds(13, "-4: it is a RULE", "it does not become one", () -> {
      TongueBook x = new TongueBook();
      due(-4, faultOf(x, "1>2/._."));
      due(0, x.count(4));
      hears(x, "1", "1");
    });
    holds(13, "-4: it is a RULE", "when there is no room for one, too", () -> {
      TongueBook x = new TongueBook();
      text(x, 0, "1>2/._.");
      for (int r = 0; r < 8; r++) {
        due(r, x.rule(0));
      }
      due(-4, x.fault(0));
      due(6, faultOf(x, "1>2/._"));
    });
  }

  /** Behind these bytes a RULE goes on with one of these alone: each of the 256 is tried. */
  private static void dueGoesOn(String ahead, String with, boolean isWhole) {
    TongueBook x = new TongueBook();
    for (int sign = 0; sign < 256; sign++) {
      if (sign % 128 == 0) {
        x = new TongueBook();
        text(x, 0, ahead + " ");
      }
      x.put(0, ahead.length(), sign);
      boolean isRight = with.indexOf(sign) >= 0;
      int behind = isWhole && sign != 'C' ? -4 : ahead.length() + 1;
      due(isRight ? behind : ahead.length(), x.fault(0));
    }
  }

  private static void faultTexts() {
    String words = "the place of the first byte with which no RULE can go on";
    holds(13, words, "what: a sound or a class 0 to 3", () -> {
      dueGoesOn("", DIGITS + "C", false);
      dueGoesOn("C", "0123", false);
      dueGoesOn("1", ">", false);
      dueGoesOn("9", ">", false);
      dueGoesOn("C3", ">", false);
    });
    holds(13, words, "what it becomes: a sound, or it falls", () -> {
      dueGoesOn("1>", DIGITS + "-", false);
      dueGoesOn("1>0", "/", false);
      dueGoesOn("1>-", "/", false);
      dueGoesOn("C0>9", "/", false);
    });
    holds(13, words, "the place ahead", () -> {
      dueGoesOn("1>2/", DIGITS + "C#.", false);
      dueGoesOn("1>2/C", "0123", false);
      dueGoesOn("1>2/C3", "_", false);
      dueGoesOn("1>2/#", "_", false);
      dueGoesOn("1>2/.", "_", false);
      dueGoesOn("1>2/0", "_", false);
    });
    holds(13, words, "the place behind", () -> {
      dueGoesOn("1>2/._", DIGITS + "C#.", true);
      dueGoesOn("1>2/._C", "0123", true);
      dueGoesOn("C0>-/C0_", DIGITS + "C#.", true);
      dueGoesOn("C0>-/C0_C", "0123", true);
    });
    holds(13, words, "anything behind a whole rule", () -> {
      dueGoesOn("1>2/._.", "", true);
      dueGoesOn("1>2/#_#", "", true);
      dueGoesOn("1>2/5_9", "", true);
      dueGoesOn("C3>-/C3_C3", "", true);
    });
    holds(13, words, "the first of several", () -> {
      TongueBook x = new TongueBook();
      due(0, faultOf(x, "#<C|-!?"));
      due(2, faultOf(x, "1>C|-!?"));
      due(7, faultOf(x, "1>2/._.1>2/._."));
    });
    holds(13, "(no blanks)", "at any place", () -> {
      TongueBook x = new TongueBook();
      String rule = "C1>2/C3_.";
      for (int i = 0; i <= rule.length(); i++) {
        due(i, faultOf(x, rule.substring(0, i) + " " + rule.substring(i)));
      }
    });
    holds(13, "what is put in keeps its lowest bits", "a byte that wraps round to a sign", () -> {
      TongueBook x = new TongueBook();
      text(x, 0, "1>2/._.");
      x.put(0, 1, '>' + 256);
      due(-4, x.fault(0));
      x.put(0, 1, '>' - 256);
      due(-4, x.fault(0));
      x.put(0, 1, '>' + 128);
      due(1, x.fault(0));
    });
  }

  private static void faultEnds() {
    holds(13, "(the size, if it ends too early)", "each size from none on", () -> {
      String[] rules = {"1>2/._.", "C3>-/#_C0", "0>0/C0_#", "C0>9/C1_C2"};
      for (String rule : rules) {
        TongueBook x = new TongueBook();
        for (int size = 0; size < rule.length(); size++) {
          due(size, faultOf(x, rule.substring(0, size)));
        }
        due(-4, faultOf(x, rule));
      }
    });
    holds(13, "(the size, if it ends too early)", "80 bytes end too late", () -> {
      TongueBook x = new TongueBook();
      text(x, 0, "1>2/._.");
      x.row(1, 0, 80);
      x.copy(0, 0, 1, 0, 7);
      due(7, x.fault(1));
      x.row(1, 0, 80);
      due(0, x.fault(1));
    });
  }

  private static void ruleNumbers() {
    holds(14, "RULES are numbered, 8 at most", "0 first, 7 last, all are done", () -> {
      TongueBook x = new TongueBook();
      for (int r = 0; r < 8; r++) {
        due(r, addRule(x, r + ">" + (r + 1) + "/._."));
        due(r + 1, x.count(4));
        hears(x, "0", "" + (r + 1));
      }
      due(-2, addRule(x, "8>9/._."));
      hears(x, "0", "8");
    });
    holds(14, "-2", "no room for one more than 8", () -> {
      TongueBook x = new TongueBook();
      text(x, 0, "1>2/._.");
      for (int r = 0; r < 8; r++) {
        due(r, x.rule(0));
      }
      due(-2, x.rule(0));
      due(-2, x.rule(0));
      due(8, x.count(4));
    });
    holds(14, "-1", "shelves 0 and 7, not -1 nor 8", () -> {
      TongueBook x = new TongueBook();
      dueNoShelf(x::rule);
      text(x, 0, "1>2/._.");
      text(x, 7, "2>3/._.");
      due(0, x.rule(0));
      due(1, x.rule(7));
    });
  }

  private static void ruleRefusals() {
    holds(14, "-11", "nothing is held", () -> {
      TongueBook x = new TongueBook();
      dueNothingHeld(x, x::rule);
    });
    holds(14, "-12", "shorts, ints, a note", () -> {
      TongueBook x = new TongueBook();
      piece(x, 1);
      dueOtherKind(x, x::rule, "1>2/._.".chars().toArray());
    });
    holds(14, "-100 less a FAULT", "from -100 to -110", () -> {
      TongueBook x = new TongueBook();
      String rule = "C0>9/C1_C2";
      for (int size = 0; size < rule.length(); size++) {
        due(-100 - size, addRule(x, rule.substring(0, size)));
        due(-100 - size, addRule(x, rule.substring(0, size) + "!"));
      }
      due(-110, addRule(x, rule + "!"));
      due(0, x.count(4));
      due(0, addRule(x, rule));
    });
    holds(14, "-100 less a FAULT", "nothing of it is done", () -> {
      TongueBook x = new TongueBook();
      due(0, addRule(x, "1>2/._."));
      due(-107, addRule(x, "2>3/._.!"));
      due(-106, addRule(x, "2>3/._"));
      hears(x, "12", "22");
      due(1, addRule(x, "2>4/._."));
      hears(x, "12", "44");
    });
    holds(14, "in this order", "-2 ahead of -11, -12 and a fault, -1 ahead of all", () -> {
      TongueBook x = new TongueBook();
      due(-100, addRule(x, ""));
      piece(x, 1);
      x.keep(1, 1, 0);
      text(x, 0, "1>2/._.");
      for (int r = 0; r < 8; r++) {
        due(r, x.rule(0));
      }
      text(x, 3, "1>2/._");
      due(-2, x.rule(1));
      due(-2, x.rule(2));
      due(-2, x.rule(3));
      dueNoShelf(x::rule);
    });
    holds(14, "The text in SHELF d is a RULE", "as it was, whatever the row becomes", () -> {
      TongueBook x = new TongueBook();
      text(x, 0, "1>2/._.");
      due(0, x.rule(0));
      x.put(0, 2, '5');
      hears(x, "1", "2");
      x.fault(0);
      hears(x, "1", "2");
    });
  }

  private static void heardRows() {
    holds(15, "(none, and up to 80, may be)", "no sound", () -> {
      TongueBook x = new TongueBook();
      addRule(x, "C0>1/#_#");
      bytes(x, 0);
      due(0, x.heard(0, 1));
      dueRow(x, 1);
    });
    holds(15, "(none, and up to 80, may be)", "80 sounds", () -> {
      TongueBook x = new TongueBook();
      addRule(x, "9>8/._#");
      addRule(x, "9>7/#_.");
      bytes(x, 0, many(80, 9));
      due(80, x.heard(0, 1));
      dueElement("7", x, 1, 0);
      for (int i = 1; i < 79; i++) {
        dueElement("9", x, 1, i);
      }
      dueElement("8", x, 1, 79);
      dueElement("IllegalStateException", x, 1, 80);
    });
    holds(15, "how many SOUNDS", "all fall, and all but one", () -> {
      TongueBook x = new TongueBook();
      addRule(x, "0>-/0_.");
      bytes(x, 0, many(80, 0));
      due(1, x.heard(0, 1));
      dueRow(x, 1, 0);
      addRule(x, "0>-/._.");
      due(0, x.heard(0, 1));
      dueRow(x, 1);
    });
    holds(15, "-13: one no SOUND", "at each place", () -> {
      TongueBook x = new TongueBook();
      dueNoSound(x, d -> x.heard(d, 0), 5);
      dueNoSound(x, d -> x.heard(d, 0), 1);
      int[] places = {0, 40, 79};
      for (int place : places) {
        x.row(6, 0, 80);
        x.put(6, place, 10);
        due(-13, x.heard(6, 0));
      }
      hears(x, "0123456789", "0123456789");
    });
    holds(15, "-11", "nothing is held in d", () -> {
      TongueBook x = new TongueBook();
      dueNothingHeld(x, d -> x.heard(d, 0));
    });
    holds(15, "-12", "shorts, ints, a note in d", () -> {
      TongueBook x = new TongueBook();
      piece(x, 1);
      dueOtherKind(x, d -> x.heard(d, 0), 1, 2);
    });
  }

  private static void heardShelves() {
    holds(15, "-1 (either)", "shelves 0 and 7, not -1 nor 8", () -> {
      TongueBook x = new TongueBook();
      bytes(x, 0, 1);
      dueNoShelf(d -> x.heard(d, 0));
      dueNoShelf(e -> x.heard(0, e));
      due(1, x.heard(0, 7));
      due(1, x.heard(7, 0));
      due(1, x.heard(0, 0));
    });
    holds(15, "comes into SHELF e (a ROW of bytes)", "whatever it held", () -> {
      TongueBook x = new TongueBook();
      piece(x, 1);
      bytes(x, 0, 4, 5);
      x.keep(1, 1, 0);
      row(x, 2, 1, 300, 300, 300);
      row(x, 3, 2, 70000);
      bytes(x, 4, many(80, 7));
      for (int e = 1; e < 6; e++) {
        due(2, x.heard(0, e));
        due(-12, x.length(e));
        due(0, x.put(e, 1, 256 + 5));
        dueRow(x, e, 4, 5);
        due(2, x.copy(e, 0, 0, 0, 2));
      }
    });
    holds(15, "comes into SHELF e (a ROW of bytes)", "d stays, and d may be e", () -> {
      TongueBook x = new TongueBook();
      addRule(x, "1>-/._.");
      bytes(x, 0, 1, 2, 1, 3);
      due(2, x.heard(0, 1));
      dueRow(x, 0, 1, 2, 1, 3);
      dueRow(x, 1, 2, 3);
      due(2, x.heard(0, 0));
      dueRow(x, 0, 2, 3);
    });
  }

  private static void heardRules() {
    holds(15, "The first WHAT: a SOUND (a digit), or C and a CLASS (0 .. 3)", "0 and 9, C0 and C3", () -> {
      TongueBook x = new TongueBook();
      addRule(x, "0>9/._.");
      hears(x, "0123456789", "9123456789");
      addRule(x, "9>0/._.");
      hears(x, "0123456789", "0123456780");
      TongueBook y = new TongueBook();
      y.classOf(5, 3);
      addRule(y, "C3>9/._.");
      hears(y, "0123456789", "0123496789");
      addRule(y, "C0>5/._.");
      hears(y, "0123456789", "5555555555");
      y.classOf(5, 2);
      hears(y, "5", "5");
      hears(y, "4", "5");
    });
    holds(15, "the second: a SOUND, or - (it falls)", "alone, first, last, all", () -> {
      TongueBook x = new TongueBook();
      addRule(x, "4>-/._.");
      hears(x, "4", "");
      hears(x, "45", "5");
      hears(x, "54", "5");
      hears(x, "44544", "5");
    });
    holds(15, "A RULE is done on a row of SOUNDS all at once", "not one place after another", () -> {
      TongueBook x = new TongueBook();
      addRule(x, "1>2/1_.");
      hears(x, "11111", "12222");
      TongueBook y = new TongueBook();
      addRule(y, "1>2/._1");
      hears(y, "11111", "22221");
    });
    holds(15, "between what stands beside it ahead of the RULE", "what falls beside it still stands", () -> {
      TongueBook x = new TongueBook();
      addRule(x, "1>-/1_.");
      hears(x, "1111", "1");
      hears(x, "1211", "121");
      TongueBook y = new TongueBook();
      addRule(y, "1>-/#_.");
      hears(y, "11", "1");
      addRule(y, "1>3/#_#");
      hears(y, "11", "3");
      hears(y, "1", "");
    });
    holds(15, "what RULES make of it in order", "the one ahead first", () -> {
      TongueBook x = new TongueBook();
      addRule(x, "1>2/._.");
      addRule(x, "2>3/._.");
      addRule(x, "1>4/._.");
      hears(x, "121", "333");
      TongueBook y = new TongueBook();
      addRule(y, "2>3/._.");
      addRule(y, "1>2/._.");
      hears(y, "121", "232");
    });
  }

  private static void heardEdges() {
    holds(15, "# (the edge)", "at the first and the last place alone", () -> {
      TongueBook x = new TongueBook();
      addRule(x, "5>6/#_.");
      hears(x, "555", "655");
      addRule(x, "5>7/._#");
      hears(x, "555", "657");
      hears(x, "5", "6");
      TongueBook y = new TongueBook();
      addRule(y, "5>6/#_#");
      hears(y, "5", "6");
      hears(y, "55", "55");
    });
    holds(15, "or . (anything, the edge too)", "the edge and each sound", () -> {
      TongueBook x = new TongueBook();
      x.classOf(9, 3);
      addRule(x, "5>6/._.");
      hears(x, "5", "6");
      hears(x, "055", "066");
      hears(x, "959", "969");
    });
    holds(15, "PLACE: a SOUND, C and a CLASS", "the edge is none of these", () -> {
      for (int sound = 0; sound < 10; sound++) {
        TongueBook x = new TongueBook();
        addRule(x, sound + ">-/" + sound + "_.");
        addRule(x, sound + ">-/._" + sound);
        hears(x, "" + sound, "" + sound);
      }
      for (int n = 0; n < 4; n++) {
        TongueBook x = new TongueBook();
        x.classOf(0, n);
        x.classOf(5, n);
        addRule(x, "5>6/C" + n + "_.");
        addRule(x, "5>7/._C" + n);
        hears(x, "5", "5");
        hears(x, "05", "06");
        hears(x, "50", "70");
      }
    });
    holds(15, "PLACE: a SOUND, C and a CLASS", "both sides must agree", () -> {
      TongueBook x = new TongueBook();
      x.classOf(3, 3);
      addRule(x, "5>6/1_C3");
      hears(x, "1535", "1635");
      hears(x, "153", "163");
      hears(x, "154", "154");
      hears(x, "253", "253");
      hears(x, "15", "15");
      hears(x, "53", "53");
    });
  }

  private static void deepNumbers() {
    holds(16, "-1 (i below -1, too)", "no card yet", () -> {
      TongueBook x = new TongueBook();
      due(-1, x.deep(0, -1));
      due(-1, x.deep(0, 0));
    });
    holds(16, "-1 (i below -1, too)", "the last card, not the one behind it", () -> {
      TongueBook x = new TongueBook();
      piece(x, 1);
      good(x, 0, 2);
      good(x, 0, 1);
      due(1, x.deep(1, -1));
      int[] none = {-1, 2, 39, 40, LOWEST, HIGHEST};
      for (int card : none) {
        due(-1, x.deep(card, -1));
        due(-1, x.deep(card, 0));
      }
    });
    holds(16, "-1 (i below -1, too)", "-1 is how many, -2 is not", () -> {
      TongueBook x = new TongueBook();
      piece(x, 1);
      good(x, 0, 1);
      due(1, x.deep(0, -1));
      int[] below = {-2, -3, LOWEST};
      for (int i : below) {
        due(-1, x.deep(0, i));
      }
    });
    holds(16, "-4: none, not so many", "none", () -> {
      TongueBook x = new TongueBook();
      good(x, 0, 1, 2);
      due(-4, x.deep(0, -1));
      due(-4, x.deep(0, 0));
      due(-4, x.deep(0, HIGHEST));
      piece(x, 2);
      due(-4, x.deep(0, -1));
      due(-4, x.deep(0, 0));
    });
    holds(16, "-4: none, not so many", "the last, and one behind it", () -> {
      TongueBook x = new TongueBook();
      piece(x, 1);
      good(x, 0, 1);
      good(x, 0, 1, 1);
      good(x, 0, 1, 1, 1);
      for (int card = 0; card < 3; card++) {
        due(card + 1, x.deep(card, -1));
        for (int i = 0; i <= card; i++) {
          due(0, x.deep(card, i));
        }
        due(-4, x.deep(card, card + 1));
        due(-4, x.deep(card, 3));
        due(-4, x.deep(card, HIGHEST));
      }
    });
  }

  private static void deepRows() {
    holds(16, "1 .. 3 of them", "three are enough, four are too many", () -> {
      TongueBook x = new TongueBook();
      piece(x, 1);
      good(x, 0, 1, 1, 1);
      good(x, 0, 1, 1, 1, 1);
      due(3, x.deep(0, -1));
      due(-4, x.deep(1, -1));
    });
    holds(16, "rows of NOTES of THE LIST that are USED", "not of others", () -> {
      TongueBook x = new TongueBook();
      piece(x, 1);
      piece(x, 1);
      good(x, 0, 1, 1);
      due(0, x.deep(0, 1));
      x.use(0, false);
      due(1, x.deep(0, 0));
      due(1, x.deep(0, 1));
      x.use(1, false);
      due(-4, x.deep(0, -1));
    });
    holds(16, "rows of NOTES of THE LIST that are USED", "notes 0 and 15", () -> {
      TongueBook x = new TongueBook();
      piece(x, 1);
      for (int n = 1; n < 15; n++) {
        piece(x, 9);
      }
      piece(x, 2);
      good(x, 0, 2, 1, 2);
      due(3, x.deep(0, -1));
      due(15, x.deep(0, 0));
      due(0, x.deep(0, 1));
      due(15, x.deep(0, 2));
    });
    holds(16, "(DOUBLED ones twice)", "1 and 4 sounds", () -> {
      TongueBook x = new TongueBook();
      addNote(x, DOUBLED, 1, 2, 3, 4);
      addNote(x, DOUBLED, 5);
      good(x, 0, 1, 2, 3, 4, 1, 2, 3, 4);
      good(x, 0, 5, 5, 5, 5, 5, 5);
      good(x, 0, 5);
      good(x, 0, 1, 2, 3, 4);
      due(1, x.deep(0, -1));
      due(3, x.deep(1, -1));
      due(-4, x.deep(2, -1));
      due(-4, x.deep(3, -1));
    });
    holds(16, "the first by how few NOTES, then by numbers", "fewer ahead of lower", () -> {
      TongueBook x = new TongueBook();
      piece(x, 1);
      piece(x, 1, 1);
      piece(x, 1, 1, 1);
      good(x, 0, 1, 1, 1);
      due(1, x.deep(0, -1));
      due(2, x.deep(0, 0));
      x.use(2, false);
      due(2, x.deep(0, -1));
      due(0, x.deep(0, 0));
      due(1, x.deep(0, 1));
    });
    holds(16, "the first by how few NOTES, then by numbers", "by the first number, then the next", () -> {
      TongueBook x = new TongueBook();
      piece(x, 1, 2);
      piece(x, 3, 4);
      piece(x, 1);
      piece(x, 2, 3, 4);
      piece(x, 3, 4);
      good(x, 0, 1, 2, 3, 4);
      due(0, x.deep(0, 0));
      due(1, x.deep(0, 1));
      x.use(0, false);
      due(2, x.deep(0, 0));
      due(3, x.deep(0, 1));
    });
  }

  private static void deepHeard() {
    holds(16, "that are HEARD as the CARD", "rules see the whole row, not each note", () -> {
      TongueBook x = new TongueBook();
      piece(x, 1);
      piece(x, 2);
      good(x, 0, 3, 2);
      due(-4, x.deep(0, -1));
      addRule(x, "1>3/#_2");
      due(2, x.deep(0, -1));
      due(0, x.deep(0, 0));
      due(1, x.deep(0, 1));
    });
    holds(16, "that are HEARD as the CARD", "sounds 0 and 9", () -> {
      TongueBook x = new TongueBook();
      piece(x, 0);
      piece(x, 9, 9);
      good(x, 0, 0);
      good(x, 0, 0, 9, 9);
      due(1, x.deep(0, -1));
      due(2, x.deep(1, -1));
      addRule(x, "0>9/._.");
      addRule(x, "C0>0/9_#");
      due(-4, x.deep(0, -1));
      due(-4, x.deep(1, -1));
      good(x, 0, 9, 0);
      good(x, 0, 9, 9, 0);
      due(1, x.deep(2, -1));
      due(1, x.deep(2, 0));
      due(2, x.deep(3, -1));
      due(0, x.deep(3, 0));
      due(1, x.deep(3, 1));
    });
    holds(16, "that are HEARD as the CARD", "by rules one behind the other", () -> {
      TongueBook x = new TongueBook();
      piece(x, 0);
      for (int r = 0; r < 8; r++) {
        due(r, addRule(x, r + ">" + (r + 1) + "/._."));
      }
      good(x, 0, 8);
      good(x, 0, 7);
      due(0, x.deep(0, 0));
      due(-4, x.deep(1, 0));
    });
    holds(16, "that are HEARD as the CARD", "one longer or shorter is not", () -> {
      TongueBook x = new TongueBook();
      piece(x, 1, 0);
      addRule(x, "0>-/#_.");
      good(x, 0, 1);
      due(-4, x.deep(0, -1));
      good(x, 0, 1, 0);
      due(1, x.deep(1, -1));
      TongueBook y = new TongueBook();
      piece(y, 1, 1);
      addRule(y, "1>-/1_.");
      good(y, 0, 1, 1);
      due(-4, y.deep(0, -1));
      good(y, 0, 1);
      due(1, y.deep(1, -1));
    });
    holds(16, "that are HEARD as the CARD", "what does not stay as it is", () -> {
      TongueBook x = new TongueBook();
      piece(x, 1);
      good(x, 0, 1);
      due(1, x.deep(0, -1));
      addRule(x, "1>2/#_#");
      due(-4, x.deep(0, -1));
      good(x, 0, 2);
      due(1, x.deep(1, -1));
      good(x, 0, 1, 1);
      due(2, x.deep(2, -1));
    });
    holds(16, "that are HEARD as the CARD", "of 24 sounds, three left", () -> {
      TongueBook x = new TongueBook();
      addNote(x, DOUBLED, 1, 1, 1, 1);
      addNote(x, DOUBLED, 2, 2, 2, 2);
      addNote(x, DOUBLED, 3, 3, 3, 3);
      good(x, 0, 3, 2, 1);
      due(-4, x.deep(0, -1));
      addRule(x, "1>-/1_.");
      addRule(x, "2>-/2_.");
      addRule(x, "3>-/._3");
      due(3, x.deep(0, -1));
      due(2, x.deep(0, 0));
      due(1, x.deep(0, 1));
      due(0, x.deep(0, 2));
    });
    holds(16, "that are HEARD as the CARD", "a note of which nothing is heard is one, too", () -> {
      TongueBook x = new TongueBook();
      piece(x, 9);
      piece(x, 1);
      good(x, 0, 1);
      addRule(x, "9>-/._.");
      addRule(x, "1>5/#_.");
      due(-4, x.deep(0, -1));
      TongueBook y = new TongueBook();
      piece(y, 9);
      piece(y, 1);
      good(y, 0, 1);
      addRule(y, "1>5/#_.");
      addRule(y, "9>-/._.");
      due(2, y.deep(0, -1));
      due(0, y.deep(0, 0));
      due(1, y.deep(0, 1));
    });
    holds(16, "DEEP of a CARD", "of cards laughed at, barred, taken back, too", () -> {
      TongueBook x = new TongueBook();
      piece(x, 1);
      laughed(x, 0, 1);
      due(1, x.deep(0, -1));
      x.bar(0, true);
      due(1, x.deep(0, -1));
      x.takeBack(0);
      due(0, x.deep(0, 0));
    });
  }
}
