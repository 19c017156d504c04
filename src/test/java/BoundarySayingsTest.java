/** The boundaries that promises 17 to 22 name: sayings. */
public final class BoundarySayingsTest extends Bench {
  public static void main(String[] args) {
    saidNumbers();
    saidRows();
    ordersNumbers();
    ordersSets();
    fitsNumbers();
    fitsRows();
    askNumbers();
    askSets();
    whoNumbers();
    whoRests();
    noneNumbers();
    noneSets();
    end("BoundarySayingsTest", 17, 22);
  }

  private static void saidNumbers() {
    holds(17, "SAID: up to 20 SAYINGS", "its number: 0 first, 19 last", () -> {
      TongueBook x = new TongueBook();
      bytes(x, 0, 1);
      for (int k = 0; k < 20; k++) {
        due(k, x.said(0, 0, 0, k % 2 == 0));
        due(k + 1, x.count(5));
      }
    });
    holds(17, "-2: 20", "no room for one more", () -> {
      TongueBook x = new TongueBook();
      bytes(x, 0, 1);
      for (int k = 0; k < 20; k++) {
        due(k, x.said(0, 0, 0, true));
      }
      due(-2, x.said(0, 0, 0, true));
      due(-2, x.said(0, 7, 999, false));
      due(20, x.count(5));
      due(24, x.orders(-1, -1));
    });
    holds(17, "-1", "shelves 0 and 7, not -1 nor 8", () -> {
      TongueBook x = new TongueBook();
      dueNoShelf(d -> x.said(d, 0, 0, true));
      bytes(x, 0, 1);
      bytes(x, 7, 1);
      due(0, x.said(0, 0, 0, true));
      due(1, x.said(7, 0, 0, true));
    });
    holds(17, "a SPEAKER 0 .. 7", "0 and 7, not -1 nor 8", () -> {
      TongueBook x = new TongueBook();
      bytes(x, 0, 1);
      int[] none = {-1, 8, 9, LOWEST, HIGHEST};
      for (int speaker : none) {
        due(-1, x.said(0, speaker, 0, true));
      }
      due(0, x.said(0, 0, 0, true));
      due(1, x.said(0, 7, 0, true));
    });
    holds(17, "an HOUR (0 .. 999)", "0 and 999, not -1 nor 1000", () -> {
      TongueBook x = new TongueBook();
      bytes(x, 0, 1);
      int[] none = {-1, 1000, LOWEST, HIGHEST};
      for (int hour : none) {
        due(-1, x.said(0, 0, hour, true));
      }
      due(0, x.said(0, 0, 0, true));
      due(1, x.said(0, 0, 999, true));
    });
  }

  private static void saidRows() {
    holds(17, "-11", "nothing is held", () -> {
      TongueBook x = new TongueBook();
      dueNothingHeld(x, d -> x.said(d, 0, 0, true));
    });
    holds(17, "-12", "shorts, ints, a note", () -> {
      TongueBook x = new TongueBook();
      piece(x, 1);
      dueOtherKind(x, d -> x.said(d, 0, 0, true), 1, 2);
      dueOtherKind(x, d -> x.said(d, 0, 0, true), 9);
    });
    holds(17, "-13: not 1 .. 4 unlike parts 0 .. 3", "1 and 4 of them, not 0 nor 5", () -> {
      TongueBook x = new TongueBook();
      due(-13, say(x, 0, 0, true));
      due(-13, say(x, 0, 0, true, 0, 1, 2, 3, 0));
      due(-13, say(x, 0, 0, true, 0, 1, 2, 3, 4));
      due(-13, say(x, 0, 0, true, many(80, 1)));
      due(0, say(x, 0, 0, true, 0));
      due(1, say(x, 0, 0, true, 0, 1));
      due(2, say(x, 0, 0, true, 0, 1, 2));
      due(3, say(x, 0, 0, true, 0, 1, 2, 3));
    });
    holds(17, "-13: not 1 .. 4 unlike parts 0 .. 3", "parts 0 and 3, not -1 nor 4", () -> {
      TongueBook x = new TongueBook();
      int[] none = {-1, 4, 9, 127, -128};
      for (int part : none) {
        due(-13, say(x, 0, 0, true, part));
        due(-13, say(x, 0, 0, true, 0, 1, part));
        due(-13, say(x, 0, 0, true, part, 1, 2, 3));
      }
      due(0, say(x, 0, 0, true, 3));
      due(1, say(x, 0, 0, true, 0));
    });
    holds(17, "(0 who, 1 whom, 2 did, 3 how; each once at most)", "none twice", () -> {
      TongueBook x = new TongueBook();
      for (int part = 0; part < 4; part++) {
        due(-13, say(x, 0, 0, true, part, part));
        due(-13, say(x, 0, 0, true, part, (part + 1) % 4, part));
        due(-13, say(x, 0, 0, true, part, (part + 1) % 4, (part + 2) % 4, part));
        due(-13, say(x, 0, 0, true, (part + 1) % 4, (part + 2) % 4, part, part));
      }
      due(0, x.count(5));
    });
    holds(17, "SAID: the ROW (bytes) in SHELF d", "as it was, whatever the row becomes", () -> {
      TongueBook x = new TongueBook();
      bytes(x, 0, 0, 1, 2, 3);
      due(0, x.said(0, 0, 0, true));
      bytes(x, 0, 3);
      due(1, x.orders(-1, -1));
      due(0, x.orders(-1, 0));
    });
  }

  private static void ordersNumbers() {
    holds(18, "-1 (i below -1, too)", "villages -1 to 3, not -2 nor 4", () -> {
      TongueBook x = new TongueBook();
      int[] none = {-2, 4, 5, LOWEST, HIGHEST};
      for (int village : none) {
        due(-1, x.orders(village, -1));
        due(-1, x.orders(village, 0));
      }
      for (int village = -1; village < 4; village++) {
        due(24, x.orders(village, -1));
      }
    });
    holds(18, "-1 (i below -1, too)", "-1 is how many, -2 is not", () -> {
      TongueBook x = new TongueBook();
      due(24, x.orders(0, -1));
      int[] below = {-2, -3, LOWEST};
      for (int i : below) {
        due(-1, x.orders(0, i));
        due(-1, x.orders(-1, i));
      }
    });
    holds(18, "-4: not so many", "all 24, and one behind them", () -> {
      TongueBook x = new TongueBook();
      for (int i = 0; i < 24; i++) {
        due(i, x.orders(-1, i));
      }
      due(-4, x.orders(-1, 24));
      due(-4, x.orders(-1, 25));
      due(-4, x.orders(-1, 32));
      due(-4, x.orders(-1, HIGHEST));
    });
    holds(18, "-4: not so many", "of one, and of none", () -> {
      TongueBook x = new TongueBook();
      say(x, 0, 0, true, 3, 2, 1, 0);
      due(1, x.orders(0, -1));
      due(23, x.orders(0, 0));
      due(-4, x.orders(0, 1));
      say(x, 0, 0, false, 3, 2, 1, 0);
      due(0, x.orders(0, -1));
      due(-4, x.orders(0, 0));
      due(-4, x.orders(0, HIGHEST));
    });
  }

  private static void ordersSets() {
    holds(18, "the 24 rows of all four (numbered as they come by numbers: 0123 is 0)", "each alone", () -> {
      int order = 0;
      for (int number = 0; number < 256; number++) {
        int[] row = {number / 64, number / 16 % 4, number / 4 % 4, number % 4};
        TongueBook x = new TongueBook();
        if (say(x, 0, 0, true, row) == 0) {
          due(1, x.orders(-1, -1));
          due(order, x.orders(-1, 0));
          order++;
        }
      }
      due(24, order);
    });
    holds(18, "ORDERS that each GOOD one FITS, and no LAUGHED one", "one part fits all", () -> {
      for (int part = 0; part < 4; part++) {
        TongueBook x = new TongueBook();
        say(x, 0, 0, true, part);
        due(24, x.orders(-1, -1));
        say(x, 0, 0, false, part);
        due(0, x.orders(-1, -1));
      }
    });
    holds(18, "ORDERS that each GOOD one FITS, and no LAUGHED one", "two, three, four parts", () -> {
      TongueBook x = new TongueBook();
      say(x, 0, 0, true, 0, 3);
      say(x, 1, 0, false, 0, 3);
      say(x, 2, 0, true, 0, 3, 1);
      say(x, 3, 0, false, 0, 3, 1, 2);
      x.speaker(1, 0, 1);
      x.speaker(2, 0, 2);
      x.speaker(3, 0, 3);
      due(12, x.orders(0, -1));
      due(12, x.orders(1, -1));
      due(4, x.orders(2, -1));
      due(23, x.orders(3, -1));
      due(0, x.orders(-1, -1));
    });
    holds(18, "of SPEAKERS who are of a VILLAGE now (or of all)", "when one moves", () -> {
      TongueBook x = new TongueBook();
      say(x, 7, 0, true, 0, 1, 2, 3);
      due(1, x.orders(0, -1));
      due(24, x.orders(3, -1));
      x.speaker(7, 0, 3);
      due(24, x.orders(0, -1));
      due(1, x.orders(3, -1));
      due(1, x.orders(-1, -1));
    });
  }

  private static void fitsNumbers() {
    holds(19, "-1", "shelves 0 and 7, not -1 nor 8", () -> {
      TongueBook x = new TongueBook();
      dueNoShelf(d -> x.fits(d, 0));
      bytes(x, 0, 1);
      bytes(x, 7, 1);
      due(1, x.fits(0, 0));
      due(1, x.fits(7, 0));
    });
    holds(19, "an ORDER (0 .. 23)", "0 and 23, not -1 nor 24", () -> {
      TongueBook x = new TongueBook();
      bytes(x, 0, 1);
      for (int order = 0; order < 24; order++) {
        due(1, x.fits(0, order));
      }
      int[] none = {-1, 24, 25, 32, LOWEST, HIGHEST};
      for (int order : none) {
        due(-1, x.fits(0, order));
      }
    });
    holds(19, "A SAYING FITS an ORDER, if its parts stand in it in that order", "orders 0 and 23", () -> {
      TongueBook x = new TongueBook();
      bytes(x, 0, 0, 1, 2, 3);
      bytes(x, 1, 3, 2, 1, 0);
      for (int order = 0; order < 24; order++) {
        due(order == 0 ? 1 : 0, x.fits(0, order));
        due(order == 23 ? 1 : 0, x.fits(1, order));
      }
    });
    holds(19, "A SAYING FITS an ORDER, if its parts stand in it in that order", "first and last part", () -> {
      TongueBook x = new TongueBook();
      bytes(x, 0, 0, 3);
      due(1, x.fits(0, 0));
      due(0, x.fits(0, 23));
      bytes(x, 0, 3, 0);
      due(0, x.fits(0, 0));
      due(1, x.fits(0, 23));
      bytes(x, 0, 0, 2, 1);
      due(0, x.fits(0, 0));
      due(1, x.fits(0, 2));
      due(1, x.fits(0, 3));
    });
  }

  private static void fitsRows() {
    holds(19, "-11", "nothing is held", () -> {
      TongueBook x = new TongueBook();
      dueNothingHeld(x, d -> x.fits(d, 0));
    });
    holds(19, "-12", "shorts, ints, a note", () -> {
      TongueBook x = new TongueBook();
      piece(x, 1);
      dueOtherKind(x, d -> x.fits(d, 0), 1, 2);
    });
    holds(19, "-13", "1 and 4 parts, not 0 nor 5", () -> {
      TongueBook x = new TongueBook();
      bytes(x, 0);
      due(-13, x.fits(0, 0));
      bytes(x, 0, 0, 1, 2, 3, 0);
      due(-13, x.fits(0, 0));
      bytes(x, 0, many(80, 1));
      due(-13, x.fits(0, 0));
      bytes(x, 0, 0);
      due(1, x.fits(0, 23));
      bytes(x, 0, 0, 1, 2, 3);
      due(1, x.fits(0, 0));
    });
    holds(19, "-13", "parts 0 and 3, each once", () -> {
      TongueBook x = new TongueBook();
      int[] none = {-1, 4, 127, -128};
      for (int part : none) {
        bytes(x, 0, part);
        due(-13, x.fits(0, 0));
        bytes(x, 0, 0, 1, part);
        due(-13, x.fits(0, 0));
      }
      bytes(x, 0, 0, 0);
      due(-13, x.fits(0, 0));
      bytes(x, 0, 3, 0, 3);
      due(-13, x.fits(0, 0));
      bytes(x, 0, 0, 3);
      due(1, x.fits(0, 0));
    });
  }

  private static void askNumbers() {
    holds(20, "-1", "villages -1 to 3, not -2 nor 4", () -> {
      TongueBook x = new TongueBook();
      int[] none = {-2, 4, 5, LOWEST, HIGHEST};
      for (int village : none) {
        due(-1, x.ask(village, 0));
        due(-1, x.ask(village, 1));
      }
      for (int village = -1; village < 4; village++) {
        due(11, x.ask(village, 0));
        due(12, x.ask(village, 1));
      }
    });
    holds(20, "-1", "what 0 and 1, not -1 nor 2", () -> {
      TongueBook x = new TongueBook();
      int[] none = {-1, 2, 3, LOWEST, HIGHEST};
      for (int what : none) {
        due(-1, x.ask(-1, what));
        due(-1, x.ask(0, what));
      }
    });
    holds(20, "-1", "ahead of -4", () -> {
      TongueBook x = new TongueBook();
      say(x, 0, 0, false, 1);
      due(-4, x.ask(0, 0));
      due(-1, x.ask(0, 2));
      due(-1, x.ask(4, 0));
    });
    holds(20, "-4 if THE SET has fewer than two", "two, one, none", () -> {
      TongueBook x = new TongueBook();
      say(x, 0, 0, true, 0, 1, 2);
      say(x, 0, 0, true, 0, 3);
      say(x, 0, 0, true, 1, 3);
      due(2, x.orders(0, -1));
      due(23, x.ask(0, 0));
      due(1, x.ask(0, 1));
      say(x, 0, 0, true, 2, 3);
      due(1, x.orders(0, -1));
      due(-4, x.ask(0, 0));
      due(-4, x.ask(0, 1));
      due(-4, x.ask(-1, 0));
      due(11, x.ask(1, 0));
      say(x, 0, 0, false, 2, 3);
      due(0, x.orders(0, -1));
      due(-4, x.ask(0, 0));
      due(-4, x.ask(0, 1));
    });
  }

  private static void askSets() {
    holds(20, "of all SAYINGS of two or more parts", "two are as good: fewer parts first", () -> {
      TongueBook x = new TongueBook();
      due(1 + 5 * 2, x.ask(-1, 0));
      say(x, 0, 0, true, 0, 1);
      due(12, x.orders(-1, -1));
      due(3 + 5 * 4, x.ask(-1, 0));
      due(6, x.ask(-1, 1));
    });
    holds(20, "of all SAYINGS of two or more parts", "three part it better", () -> {
      TongueBook x = new TongueBook();
      say(x, 0, 0, true, 0, 2);
      say(x, 0, 0, true, 1, 3);
      say(x, 0, 0, false, 1, 0, 3, 2);
      say(x, 0, 0, false, 1, 3, 0, 2);
      due(4, x.orders(-1, -1));
      due(1 + 5 * 2 + 25 * 3, x.ask(-1, 0));
      due(2, x.ask(-1, 1));
    });
    holds(20, "of all SAYINGS of two or more parts", "three part it better, the last by numbers", () -> {
      TongueBook x = new TongueBook();
      say(x, 0, 0, true, 0, 1);
      say(x, 0, 0, true, 3, 1);
      say(x, 0, 0, false, 0, 2, 3, 1);
      say(x, 0, 0, false, 2, 0, 3, 1);
      due(6, x.orders(-1, -1));
      due(4 + 5 * 3 + 25 * 2, x.ask(-1, 0));
      due(3, x.ask(-1, 1));
    });
    holds(20, "by how many parts, then by numbers", "the first of several", () -> {
      TongueBook x = new TongueBook();
      say(x, 0, 0, true, 0, 1, 2);
      due(2 + 5 * 4, x.ask(-1, 0));
      due(2, x.ask(-1, 1));
      say(x, 0, 0, false, 0, 1, 2, 3);
      due(3, x.orders(-1, -1));
      due(1 + 5 * 4, x.ask(-1, 0));
      due(2, x.ask(-1, 1));
    });
    holds(20, "at worst (FIT, or not)", "what fits more, and what fits fewer", () -> {
      TongueBook x = new TongueBook();
      say(x, 0, 0, true, 3, 2, 1, 0);
      say(x, 1, 0, true, 2, 1, 0);
      x.speaker(1, 0, 1);
      due(4, x.orders(1, -1));
      due(2 + 5 * 4, x.ask(1, 0));
      due(2, x.ask(1, 1));
      due(-4, x.ask(0, 0));
    });
    holds(20, "ASK of a VILLAGE (-1: of all)", "as speakers are now", () -> {
      TongueBook x = new TongueBook();
      say(x, 7, 0, true, 0, 1, 2, 3);
      due(-4, x.ask(0, 0));
      due(11, x.ask(3, 0));
      x.speaker(7, 0, 3);
      due(11, x.ask(0, 0));
      due(-4, x.ask(3, 0));
      due(-4, x.ask(-1, 0));
    });
  }

  private static void whoNumbers() {
    holds(21, "-1", "villages 0 to 3, not -1 nor 4", () -> {
      TongueBook x = new TongueBook();
      int[] none = {-1, -2, 4, LOWEST, HIGHEST};
      for (int village : none) {
        due(-1, x.who(village, 0));
      }
      x.speaker(6, 0, 3);
      due(0, x.who(0, 0));
      due(-4, x.who(1, 0));
      due(6, x.who(3, 0));
    });
    holds(21, "-1", "hours 0 to 999, not -1 nor 1000", () -> {
      TongueBook x = new TongueBook();
      int[] none = {-1, 1000, LOWEST, HIGHEST};
      for (int hour : none) {
        due(-1, x.who(0, hour));
      }
      due(0, x.who(0, 0));
      due(0, x.who(0, 999));
    });
    holds(21, "-1", "ahead of -4", () -> {
      TongueBook x = new TongueBook();
      due(-4, x.who(1, 0));
      due(-1, x.who(1, 1000));
      due(-1, x.who(1, -1));
    });
    holds(21, "-4 none", "nobody in the village, then one", () -> {
      TongueBook x = new TongueBook();
      due(-4, x.who(3, 999));
      x.speaker(7, 0, 3);
      due(7, x.who(3, 999));
      x.speaker(7, 0, 2);
      due(-4, x.who(3, 999));
    });
  }

  /** Speaker 3 alone in village 1, who said something in these hours. */
  private static TongueBook oneWhoSaid(int rest, int... hours) {
    TongueBook x = new TongueBook();
    x.speaker(3, 0, 1);
    x.speaker(3, 1, rest);
    for (int hour : hours) {
      say(x, 3, hour, true, 1);
    }
    return x;
  }

  private static void whoRests() {
    String rested = "whose greatest HOUR of SAID is REST HOURS or more below an HOUR";
    holds(21, rested, "by as many hours, and by one fewer", () -> {
      TongueBook x = oneWhoSaid(5, 10);
      due(-4, x.who(1, 0));
      due(-4, x.who(1, 10));
      due(-4, x.who(1, 14));
      due(3, x.who(1, 15));
      due(3, x.who(1, 999));
    });
    holds(21, rested, "rest 0: in that hour, not in the one ahead", () -> {
      TongueBook x = oneWhoSaid(0, 10);
      due(-4, x.who(1, 9));
      due(3, x.who(1, 10));
      TongueBook y = oneWhoSaid(0, 0);
      due(3, y.who(1, 0));
      TongueBook z = oneWhoSaid(0, 999);
      due(-4, z.who(1, 998));
      due(3, z.who(1, 999));
    });
    holds(21, rested, "rest 99, up to the last hour", () -> {
      TongueBook x = oneWhoSaid(99, 900);
      due(-4, x.who(1, 998));
      due(3, x.who(1, 999));
      TongueBook y = oneWhoSaid(99, 901);
      due(-4, y.who(1, 999));
    });
    holds(21, rested, "the greatest one, not the last one said", () -> {
      TongueBook x = oneWhoSaid(5, 3, 20, 10);
      due(-4, x.who(1, 24));
      due(3, x.who(1, 25));
    });
    holds(21, "of SPEAKERS of a VILLAGE who have SAID nothing", "whatever their rest", () -> {
      TongueBook x = oneWhoSaid(99);
      due(3, x.who(1, 0));
      say(x, 3, 0, false, 1);
      due(-4, x.who(1, 98));
      due(3, x.who(1, 99));
    });
    holds(21, "the one with the fewest SAID, of several the least", "fewer by one, and as many", () -> {
      TongueBook x = new TongueBook();
      for (int speaker = 0; speaker < 6; speaker++) {
        x.speaker(speaker, 0, 1);
      }
      due(6, x.who(0, 5));
      say(x, 6, 0, true, 1);
      due(7, x.who(0, 5));
      say(x, 7, 0, false, 1);
      due(6, x.who(0, 5));
      say(x, 6, 0, false, 1);
      due(7, x.who(0, 5));
      say(x, 7, 9, true, 1);
      due(6, x.who(0, 9));
      due(6, x.who(0, 8));
      say(x, 7, 9, true, 1);
      due(6, x.who(0, 9));
    });
    holds(21, "the one with the fewest SAID, of several the least", "one who said all twenty", () -> {
      TongueBook x = new TongueBook();
      x.speaker(5, 0, 1);
      bytes(x, 0, 1);
      for (int k = 0; k < 20; k++) {
        due(k, x.said(0, 5, 7, true));
      }
      due(5, x.who(1, 7));
      due(-4, x.who(1, 6));
    });
  }

  private static void noneNumbers() {
    holds(22, "-1", "villages -1 to 3, not -2 nor 4", () -> {
      TongueBook x = new TongueBook();
      say(x, 0, 0, false, 1);
      int[] none = {-2, 4, 5, LOWEST, HIGHEST};
      for (int village : none) {
        due(-1, x.none(village));
      }
      due(1, x.none(-1));
      due(1, x.none(0));
      x.speaker(0, 0, 3);
      due(1, x.none(3));
    });
    holds(22, "-4", "nothing said yet, and what an order fits", () -> {
      TongueBook x = new TongueBook();
      for (int village = -1; village < 4; village++) {
        due(-4, x.none(village));
      }
      say(x, 0, 0, true, 1);
      say(x, 0, 0, true, 0, 1, 2, 3);
      say(x, 0, 0, false, 3, 2, 1, 0);
      for (int village = -1; village < 4; village++) {
        due(-4, x.none(village));
      }
    });
  }

  private static void noneSets() {
    holds(22, "the fewest SAID (3 at most)", "one, two, three, not four", () -> {
      TongueBook x = new TongueBook();
      say(x, 0, 0, true, 0, 1);
      say(x, 0, 0, true, 1, 2);
      say(x, 0, 0, true, 2, 3);
      say(x, 0, 0, true, 3, 0);
      due(0, x.orders(-1, -1));
      due(-4, x.none(-1));
      say(x, 0, 0, true, 2, 0);
      due(0b10011, x.none(-1));
      say(x, 0, 0, false, 2, 3);
      due(0b100100, x.none(-1));
      say(x, 0, 0, false, 2);
      due(0b1000000, x.none(-1));
    });
    holds(22, "the fewest SAID (3 at most)", "fewer, though higher as bits", () -> {
      TongueBook x = new TongueBook();
      say(x, 0, 0, true, 0, 1);
      say(x, 0, 0, true, 1, 2);
      say(x, 0, 0, true, 2, 0);
      due(0b111, x.none(-1));
      say(x, 0, 0, true, 3, 1);
      say(x, 0, 0, true, 1, 3);
      due(0b11000, x.none(-1));
    });
    holds(22, "as bits; of several the least as bits", "of pairs", () -> {
      TongueBook x = new TongueBook();
      say(x, 0, 0, true, 3, 0);
      say(x, 0, 0, true, 1, 2);
      say(x, 0, 0, true, 2, 1);
      say(x, 0, 0, true, 0, 3);
      due(0b0110, x.none(-1));
      TongueBook y = new TongueBook();
      say(y, 0, 0, true, 0, 1);
      say(y, 0, 0, true, 0, 1);
      say(y, 0, 0, true, 1, 0);
      due(0b101, y.none(-1));
    });
    holds(22, "as bits; of several the least as bits", "of threes", () -> {
      TongueBook x = new TongueBook();
      say(x, 0, 0, true, 0, 1);
      say(x, 0, 0, true, 3, 0);
      say(x, 0, 0, true, 2, 3);
      say(x, 0, 0, true, 1, 2);
      say(x, 0, 0, true, 1, 3);
      due(0b10011, x.none(-1));
    });
    holds(22, "as bits; of several the least as bits", "the first and the last of twenty", () -> {
      TongueBook x = new TongueBook();
      bytes(x, 0, 0, 1);
      for (int k = 0; k < 19; k++) {
        due(k, x.said(0, 0, 0, true));
      }
      due(-4, x.none(-1));
      due(19, say(x, 0, 0, true, 1, 0));
      due(1 << 19 | 1, x.none(-1));
      TongueBook y = new TongueBook();
      bytes(y, 0, 0, 1);
      for (int k = 0; k < 17; k++) {
        due(k, y.said(0, 0, 0, true));
      }
      say(y, 0, 0, true, 1, 2);
      say(y, 0, 0, true, 2, 3);
      due(-4, y.none(-1));
      say(y, 0, 0, true, 2, 0);
      due(1 << 19 | 1 << 17 | 1, y.none(-1));
    });
    holds(22, "NONE of a VILLAGE (-1: of all)", "as speakers are now", () -> {
      TongueBook x = new TongueBook();
      say(x, 1, 0, true, 0, 1);
      say(x, 2, 0, true, 1, 0);
      due(3, x.none(0));
      due(-4, x.none(3));
      x.speaker(2, 0, 3);
      due(-4, x.none(0));
      due(-4, x.none(3));
      due(3, x.none(-1));
      x.speaker(1, 0, 3);
      due(3, x.none(3));
      due(-4, x.none(0));
    });
  }
}
