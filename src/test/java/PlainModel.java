import java.util.ArrayList;
import java.util.HashMap;
import java.util.HashSet;
import java.util.List;
import java.util.Map;
import java.util.Set;
import java.util.TreeSet;
import java.util.regex.Matcher;
import java.util.regex.Pattern;

/** The document once more, in the plainest and slowest words: what the fuzz test compares with. */
final class PlainModel {
  private static final Pattern RULE =
      Pattern.compile("([0-9]|C[0-3])>([0-9]|-)/([0-9]|C[0-3]|#|\\.)_([0-9]|C[0-3]|#|\\.)");
  private static final List<List<Integer>> ALL_ORDERS = sayingsOf(4);

  record Note(int number, int kind, List<Integer> sounds) {
    List<Integer> spoken() {
      List<Integer> all = new ArrayList<>(sounds);
      if (kind == 3) {
        all.addAll(sounds);
      }
      return all;
    }

    int length() {
      int piece = sounds.size() + 1;
      return switch (kind) {
        case 1 -> piece + 2;
        case 3 -> 2 * piece - 1;
        case 4 -> piece + 5;
        default -> piece;
      };
    }
  }

  record Card(List<Integer> sounds, int meaning, int speaker, int hearer, int hour, boolean good) {}

  record Rule(String what, String becomes, String ahead, String behind) {}

  record Saying(List<Integer> parts, int speaker, int hour, boolean good) {}

  record Word(List<Integer> sounds, int card) {}

  record Row(int sort, int[] elements) {}

  record Cut(int cost, List<Integer> parts) {}

  static final class State {
    int[] classes = new int[10];
    int[] villages = new int[8];
    int[] rests = new int[8];
    List<Card> cards = new ArrayList<>();
    List<Integer> standings = new ArrayList<>();
    List<Note> notes = new ArrayList<>();
    Set<Integer> used = new TreeSet<>();
    List<Rule> rules = new ArrayList<>();
    List<Saying> said = new ArrayList<>();
    List<Word> words = new ArrayList<>();

    State copy() {
      State s = new State();
      s.classes = classes.clone();
      s.villages = villages.clone();
      s.rests = rests.clone();
      s.cards = new ArrayList<>(cards);
      s.standings = new ArrayList<>(standings);
      s.notes = new ArrayList<>(notes);
      s.used = new TreeSet<>(used);
      s.rules = new ArrayList<>(rules);
      s.said = new ArrayList<>(said);
      s.words = new ArrayList<>(words);
      return s;
    }
  }

  private State s = new State();
  private State image;
  private final Object[] shelves = new Object[8];

  // ---- what the shelves refuse

  private boolean noShelf(int d) {
    return d < 0 || d > 7;
  }

  private int bytesRefusal(int d) {
    if (shelves[d] == null) {
      return -11;
    }
    return shelves[d] instanceof Row r && r.sort() == 0 ? 0 : -12;
  }

  private List<Integer> elements(int d) {
    List<Integer> all = new ArrayList<>();
    for (int v : ((Row) shelves[d]).elements()) {
      all.add(v);
    }
    return all;
  }

  private int soundsRefusal(int d, int least, int most) {
    int r = bytesRefusal(d);
    if (r != 0) {
      return r;
    }
    List<Integer> all = elements(d);
    boolean right = all.size() >= least && all.size() <= most;
    return right && all.stream().allMatch(v -> v >= 0 && v <= 9) ? 0 : -13;
  }

  private int sayingRefusal(int d) {
    int r = bytesRefusal(d);
    if (r != 0) {
      return r;
    }
    List<Integer> all = elements(d);
    boolean right = all.size() >= 1 && all.size() <= 4 && new HashSet<>(all).size() == all.size();
    return right && all.stream().allMatch(v -> v >= 0 && v <= 3) ? 0 : -13;
  }

  private boolean noCard(int card) {
    return card < 0 || card >= s.cards.size();
  }

  private boolean counted(int card) {
    return s.standings.get(card) == 0 && s.cards.get(card).good();
  }

  private List<Integer> countedCards() {
    List<Integer> all = new ArrayList<>();
    for (int c = 0; c < s.cards.size(); c++) {
      if (counted(c)) {
        all.add(c);
      }
    }
    return all;
  }

  // ---- cards, speakers, sounds

  int card(int d, int meaning, int told, int hour) {
    if (noShelf(d) || meaning < 0 || meaning > 1023 || hour < 0 || hour > 999 || told < 0) {
      return -1;
    }
    int speaker = told / 100;
    int hearer = told % 100 / 10;
    int good = told % 10;
    if (speaker > 7 || hearer > 3 || good > 1) {
      return -1;
    }
    if (s.cards.size() == 40) {
      return -2;
    }
    int r = soundsRefusal(d, 1, 8);
    if (r != 0) {
      return r;
    }
    s.cards.add(new Card(elements(d), meaning, speaker, hearer, hour, good == 1));
    s.standings.add(0);
    return s.cards.size() - 1;
  }

  int about(int card, int what) {
    if (noCard(card) || what < 0 || what > 6) {
      return -1;
    }
    Card c = s.cards.get(card);
    int[] all = {c.sounds().size(), c.meaning(), c.speaker(), c.hearer(), c.hour(),
        c.good() ? 1 : 0, s.standings.get(card)};
    return all[what];
  }

  int sound(int card, int i) {
    if (noCard(card) || i < 0 || i >= s.cards.get(card).sounds().size()) {
      return -1;
    }
    return s.cards.get(card).sounds().get(i);
  }

  int classOf(int sound, int n) {
    if (sound < 0 || sound > 9 || n < 0 || n > 3) {
      return -1;
    }
    int was = s.classes[sound];
    s.classes[sound] = n;
    return was;
  }

  int speaker(int speaker, int what, int n) {
    if (speaker < 0 || speaker > 7 || n < 0) {
      return -1;
    }
    if (what == 0 && n <= 3) {
      int was = s.villages[speaker];
      s.villages[speaker] = n;
      return was;
    }
    if (what == 1 && n <= 99) {
      int was = s.rests[speaker];
      s.rests[speaker] = n;
      return was;
    }
    return -1;
  }

  int oneOrTwo(int a, int b) {
    if (a < 0 || a > 9 || b < 0 || b > 9 || a == b) {
      return -1;
    }
    Set<String> placesA = new HashSet<>();
    Set<String> placesB = new HashSet<>();
    for (int c : countedCards()) {
      Card one = s.cards.get(c);
      for (int e : countedCards()) {
        Card other = s.cards.get(e);
        if (one.meaning() != 0 && other.meaning() != 0 && one.meaning() != other.meaning()
            && one.sounds().size() == other.sounds().size()) {
          List<List<Integer>> unlike = new ArrayList<>();
          for (int i = 0; i < one.sounds().size(); i++) {
            if (!one.sounds().get(i).equals(other.sounds().get(i))) {
              unlike.add(List.of(one.sounds().get(i), other.sounds().get(i)));
            }
          }
          if (unlike.equals(List.of(List.of(a, b)))) {
            return 2;
          }
        }
      }
      String edged = edged(one.sounds());
      for (int i = 1; i + 1 < edged.length(); i++) {
        String place = "" + edged.charAt(i - 1) + edged.charAt(i + 1);
        if (edged.charAt(i) == '0' + a) {
          placesA.add(place);
        }
        if (edged.charAt(i) == '0' + b) {
          placesB.add(place);
        }
      }
    }
    placesA.retainAll(placesB);
    return placesA.isEmpty() ? 0 : 1;
  }

  private static String edged(List<Integer> sounds) {
    StringBuilder text = new StringBuilder("#");
    sounds.forEach(text::append);
    return text.append('#').toString();
  }

  // ---- pieces

  int note(int d, int kind) {
    if (noShelf(d) || kind < 0 || kind > 4) {
      return -1;
    }
    if (s.notes.size() == 16) {
      return -2;
    }
    int r = soundsRefusal(d, 1, 4);
    if (r != 0) {
      return r;
    }
    int number = s.notes.size();
    s.notes.add(new Note(number, kind, elements(d)));
    s.used.add(number);
    return number;
  }

  int use(int note, boolean is) {
    if (note < 0 || note >= s.notes.size()) {
      return -1;
    }
    return (is ? s.used.add(note) : s.used.remove(note)) ? 1 : 0;
  }

  int told(int note, int what) {
    if (note < 0 || note >= s.notes.size() || what < 0 || what > 1) {
      return -1;
    }
    if (what == 0) {
      return s.notes.get(note).length();
    }
    Set<Integer> common = null;
    for (int c : countedCards()) {
      int meaning = s.cards.get(c).meaning();
      if (meaning != 0 && leastCut(c).parts().contains(note)) {
        Set<Integer> bits = new HashSet<>();
        for (int bit = 0; bit < 10; bit++) {
          if ((meaning & 1 << bit) != 0) {
            bits.add(bit);
          }
        }
        if (common == null) {
          common = bits;
        } else {
          common.retainAll(bits);
        }
      }
    }
    return common == null ? -4 : common.stream().mapToInt(bit -> 1 << bit).sum();
  }

  private Cut leastCut(int card) {
    List<Integer> best = leastFrom(s.cards.get(card).sounds(), s.used, new HashMap<>());
    return new Cut(costOf(best), best);
  }

  /** The least of all cuts of what is left; what is left is cut once for all that may lie ahead. */
  private List<Integer> leastFrom(List<Integer> sounds, Set<Integer> used,
      Map<List<Integer>, List<Integer>> known) {
    if (sounds.isEmpty()) {
      return List.of();
    }
    if (known.containsKey(sounds)) {
      return known.get(sounds);
    }
    List<Integer> best = null;
    List<Integer> firstParts = new ArrayList<>(used);
    firstParts.add(100 + sounds.get(0));
    for (int part : firstParts) {
      List<Integer> spoken = part < 100 ? s.notes.get(part).spoken() : List.of(part - 100);
      if (spoken.size() <= sounds.size() && sounds.subList(0, spoken.size()).equals(spoken)) {
        List<Integer> cut = new ArrayList<>(List.of(part));
        cut.addAll(leastFrom(sounds.subList(spoken.size(), sounds.size()), used, known));
        if (best == null || isLess(cut, best)) {
          best = cut;
        }
      }
    }
    known.put(sounds, best);
    return best;
  }

  private static int costOf(List<Integer> cut) {
    return cut.stream().mapToInt(part -> part < 100 ? 2 : 5).sum();
  }

  private boolean isLess(List<Integer> cut, List<Integer> best) {
    if (costOf(cut) != costOf(best)) {
      return costOf(cut) < costOf(best);
    }
    for (int i = 0; i < Math.min(cut.size(), best.size()); i++) {
      int mine = cut.get(i);
      int theirs = best.get(i);
      if (mine != theirs) {
        int span = mine < 100 ? s.notes.get(mine).spoken().size() : 1;
        int theirSpan = theirs < 100 ? s.notes.get(theirs).spoken().size() : 1;
        return span != theirSpan ? span > theirSpan : mine < theirs;
      }
    }
    return false;
  }

  int cut(int card, int i) {
    if (noCard(card) || i < -1) {
      return -1;
    }
    Cut least = leastCut(card);
    if (i == -1) {
      return least.cost();
    }
    return i < least.parts().size() ? least.parts().get(i) : -4;
  }

  int leastList(int what) {
    if (what < 0 || what > 1) {
      return -1;
    }
    int best = Integer.MAX_VALUE;
    int bestSet = 0;
    for (int set = 0; set < 1 << Math.min(10, s.notes.size()); set++) {
      Set<Integer> used = new TreeSet<>();
      for (int n = 0; n < s.notes.size(); n++) {
        if (n < 10 ? (set & 1 << n) != 0 : s.used.contains(n)) {
          used.add(n);
        }
      }
      int sum = used.stream().mapToInt(n -> s.notes.get(n).length()).sum();
      for (int c : countedCards()) {
        sum += costOf(leastFrom(s.cards.get(c).sounds(), used, new HashMap<>()));
      }
      if (sum < best) {
        best = sum;
        bestSet = set;
      }
    }
    return what == 0 ? best : bestSet;
  }

  // ---- sound rules

  private String text(int d) {
    StringBuilder text = new StringBuilder();
    for (int v : elements(d)) {
      text.append((char) (v & 255));
    }
    return text.toString();
  }

  private static int faultOf(String text) {
    if (RULE.matcher(text).matches()) {
      return -4;
    }
    for (int end = 1; end <= text.length(); end++) {
      Matcher m = RULE.matcher(text.substring(0, end));
      if (!m.matches() && !m.hitEnd()) {
        return end - 1;
      }
    }
    return text.length();
  }

  int fault(int d) {
    if (noShelf(d)) {
      return -1;
    }
    int r = bytesRefusal(d);
    return r != 0 ? r : faultOf(text(d));
  }

  int rule(int d) {
    if (noShelf(d)) {
      return -1;
    }
    if (s.rules.size() == 8) {
      return -2;
    }
    int r = bytesRefusal(d);
    if (r != 0) {
      return r;
    }
    int fault = faultOf(text(d));
    if (fault != -4) {
      return -100 - fault;
    }
    Matcher m = RULE.matcher(text(d));
    m.matches();
    s.rules.add(new Rule(m.group(1), m.group(2), m.group(3), m.group(4)));
    return s.rules.size() - 1;
  }

  private boolean agrees(String place, char sound) {
    if (place.equals(".")) {
      return true;
    }
    if (place.startsWith("C")) {
      return sound != '#' && s.classes[sound - '0'] == place.charAt(1) - '0';
    }
    return place.charAt(0) == sound;
  }

  private List<Integer> heardOf(List<Integer> sounds) {
    List<Integer> row = sounds;
    for (Rule rule : s.rules) {
      String edged = edged(row);
      List<Integer> next = new ArrayList<>();
      for (int i = 1; i + 1 < edged.length(); i++) {
        boolean fits = agrees(rule.what(), edged.charAt(i))
            && agrees(rule.ahead(), edged.charAt(i - 1))
            && agrees(rule.behind(), edged.charAt(i + 1));
        if (!fits) {
          next.add(edged.charAt(i) - '0');
        } else if (!rule.becomes().equals("-")) {
          next.add(Integer.parseInt(rule.becomes()));
        }
      }
      row = next;
    }
    return row;
  }

  int heard(int d, int e) {
    if (noShelf(d) || noShelf(e)) {
      return -1;
    }
    int r = soundsRefusal(d, 0, 80);
    if (r != 0) {
      return r;
    }
    List<Integer> row = heardOf(elements(d));
    shelves[e] = new Row(0, row.stream().mapToInt(v -> v).toArray());
    return row.size();
  }

  int deep(int card, int i) {
    if (noCard(card) || i < -1) {
      return -1;
    }
    List<Integer> wanted = s.cards.get(card).sounds();
    for (int many = 1; many <= 3; many++) {
      List<Integer> way = deepOf(wanted, many, new ArrayList<>(), new ArrayList<>());
      if (way != null) {
        return i == -1 ? many : i < many ? way.get(i) : -4;
      }
    }
    return -4;
  }

  private List<Integer> deepOf(List<Integer> wanted, int more, List<Integer> way, List<Integer> row) {
    if (more == 0) {
      return heardOf(row).equals(wanted) ? way : null;
    }
    for (int n : s.used) {
      List<Integer> longerWay = new ArrayList<>(way);
      longerWay.add(n);
      List<Integer> longerRow = new ArrayList<>(row);
      longerRow.addAll(s.notes.get(n).spoken());
      List<Integer> found = deepOf(wanted, more - 1, longerWay, longerRow);
      if (found != null) {
        return found;
      }
    }
    return null;
  }

  // ---- sayings

  private static List<List<Integer>> sayingsOf(int many) {
    List<List<Integer>> all = new ArrayList<>();
    if (many == 0) {
      all.add(List.of());
      return all;
    }
    for (List<Integer> ahead : sayingsOf(many - 1)) {
      for (int part = 0; part < 4; part++) {
        if (!ahead.contains(part)) {
          List<Integer> one = new ArrayList<>(ahead);
          one.add(part);
          all.add(one);
        }
      }
    }
    return all;
  }

  private static boolean doesFit(List<Integer> saying, List<Integer> order) {
    List<Integer> left = new ArrayList<>(order);
    left.retainAll(saying);
    return left.equals(saying);
  }

  private boolean isOf(Saying one, int village) {
    return village == -1 || s.villages[one.speaker()] == village;
  }

  private boolean isLeft(int order, List<Saying> sayings) {
    for (Saying one : sayings) {
      if (doesFit(one.parts(), ALL_ORDERS.get(order)) != one.good()) {
        return false;
      }
    }
    return true;
  }

  private List<Integer> setOf(int village) {
    List<Integer> set = new ArrayList<>();
    List<Saying> theirs = new ArrayList<>(s.said);
    theirs.removeIf(one -> !isOf(one, village));
    for (int order = 0; order < 24; order++) {
      if (isLeft(order, theirs)) {
        set.add(order);
      }
    }
    return set;
  }

  int said(int d, int speaker, int hour, boolean good) {
    if (noShelf(d) || speaker < 0 || speaker > 7 || hour < 0 || hour > 999) {
      return -1;
    }
    if (s.said.size() == 20) {
      return -2;
    }
    int r = sayingRefusal(d);
    if (r != 0) {
      return r;
    }
    s.said.add(new Saying(elements(d), speaker, hour, good));
    return s.said.size() - 1;
  }

  int orders(int village, int i) {
    if (village < -1 || village > 3 || i < -1) {
      return -1;
    }
    List<Integer> set = setOf(village);
    return i == -1 ? set.size() : i < set.size() ? set.get(i) : -4;
  }

  int fits(int d, int order) {
    if (noShelf(d) || order < 0 || order > 23) {
      return -1;
    }
    int r = sayingRefusal(d);
    return r != 0 ? r : doesFit(elements(d), ALL_ORDERS.get(order)) ? 1 : 0;
  }

  int ask(int village, int what) {
    if (village < -1 || village > 3 || what < 0 || what > 1) {
      return -1;
    }
    List<Integer> set = setOf(village);
    if (set.size() < 2) {
      return -4;
    }
    int best = 99;
    List<Integer> asked = null;
    for (int many = 2; many <= 4; many++) {
      for (List<Integer> saying : sayingsOf(many)) {
        int fit = (int) set.stream().filter(o -> doesFit(saying, ALL_ORDERS.get(o))).count();
        int worst = Math.max(fit, set.size() - fit);
        if (worst < best) {
          best = worst;
          asked = saying;
        }
      }
    }
    int code = 0;
    int place = 1;
    for (int part : asked) {
      code += (part + 1) * place;
      place *= 5;
    }
    return what == 0 ? code : best;
  }

  int who(int village, int hour) {
    if (village < 0 || village > 3 || hour < 0 || hour > 999) {
      return -1;
    }
    int best = -4;
    long fewest = 99;
    for (int one = 0; one < 8; one++) {
      int speaker = one;
      long many = s.said.stream().filter(k -> k.speaker() == speaker).count();
      int last = s.said.stream().filter(k -> k.speaker() == speaker).mapToInt(Saying::hour).max()
          .orElse(-1000);
      if (s.villages[one] == village && hour - last >= s.rests[one] && many < fewest) {
        best = one;
        fewest = many;
      }
    }
    return best;
  }

  int none(int village) {
    if (village < -1 || village > 3) {
      return -1;
    }
    for (int many = 1; many <= 3; many++) {
      for (int bits = 0; bits < 1 << s.said.size(); bits++) {
        if (Integer.bitCount(bits) == many && leavesNone(bits, village)) {
          return bits;
        }
      }
    }
    return -4;
  }

  private boolean leavesNone(int bits, int village) {
    List<Saying> chosen = new ArrayList<>();
    for (int k = 0; k < s.said.size(); k++) {
      if ((bits & 1 << k) != 0) {
        if (!isOf(s.said.get(k), village)) {
          return false;
        }
        chosen.add(s.said.get(k));
      }
    }
    for (int order = 0; order < 24; order++) {
      if (isLeft(order, chosen)) {
        return false;
      }
    }
    return true;
  }

  // ---- readers, neighbours

  int reader(int known, int most, int i) {
    if (known < 0 || known > 65535 || most < 0 || most > 9 || i < 0) {
      return -1;
    }
    for (int c : countedCards()) {
      List<Integer> parts = leastCut(c).parts();
      if (c >= i && parts.stream().allMatch(part -> part < 100)
          && parts.stream().distinct().filter(n -> (known & 1 << n) == 0).count() <= most) {
        return c;
      }
    }
    return -4;
  }

  int neighbour(int d, int card) {
    if (noShelf(d) || noCard(card)) {
      return -1;
    }
    if (s.words.size() == 10) {
      return -2;
    }
    int r = soundsRefusal(d, 1, 8);
    if (r != 0) {
      return r;
    }
    s.words.add(new Word(elements(d), card));
    return s.words.size() - 1;
  }

  private int lawOf(int sound, List<Word> words) {
    int[] seen = new int[10];
    for (Word word : words) {
      List<Integer> ours = s.cards.get(word.card()).sounds();
      if (ours.size() == word.sounds().size()) {
        for (int i = 0; i < ours.size(); i++) {
          if (ours.get(i) == sound) {
            seen[word.sounds().get(i)]++;
          }
        }
      }
    }
    int best = -4;
    for (int theirs = 9; theirs >= 0; theirs--) {
      if (seen[theirs] > 0 && (best == -4 || seen[theirs] >= seen[best])) {
        best = theirs;
      }
    }
    return best;
  }

  int law(int sound) {
    return sound < 0 || sound > 9 ? -1 : lawOf(sound, s.words);
  }

  private int[] ledOf(List<Word> words) {
    int[] laws = new int[10];
    for (int sound = 0; sound < 10; sound++) {
      laws[sound] = lawOf(sound, words);
    }
    int places = 0;
    int pairs = 0;
    for (Word word : words) {
      List<Integer> ours = s.cards.get(word.card()).sounds();
      if (ours.size() == word.sounds().size()) {
        int here = 0;
        for (int i = 0; i < ours.size(); i++) {
          here += laws[ours.get(i)] == word.sounds().get(i) ? 1 : 0;
        }
        places += here;
        pairs += here == ours.size() ? 1 : 0;
      }
    }
    return new int[] {places, pairs};
  }

  int led(int what) {
    return what < 0 || what > 1 ? -1 : ledOf(s.words)[what];
  }

  int odds(int what) {
    if (what < 0 || what > 1) {
      return -1;
    }
    if (s.words.size() > 7) {
      return -3;
    }
    List<Integer> led = new ArrayList<>();
    deal(new ArrayList<>(), new ArrayList<>(s.words), led);
    int now = ledOf(s.words)[0];
    return what == 1 ? led.size() : (int) led.stream().filter(v -> v >= now).count();
  }

  private void deal(List<Word> dealt, List<Word> left, List<Integer> led) {
    if (left.isEmpty()) {
      led.add(ledOf(dealt)[0]);
      return;
    }
    for (int k = 0; k < left.size(); k++) {
      List<Word> more = new ArrayList<>(dealt);
      more.add(new Word(left.get(k).sounds(), s.words.get(dealt.size()).card()));
      List<Word> fewer = new ArrayList<>(left);
      fewer.remove(k);
      deal(more, fewer, led);
    }
  }

  // ---- rights, hearers

  int bar(int speaker, boolean is) {
    if (speaker < 0 || speaker > 7) {
      return -1;
    }
    int changed = 0;
    for (int c = 0; c < s.cards.size(); c++) {
      int now = is ? 1 : 0;
      if (s.cards.get(c).speaker() == speaker && s.standings.get(c) != 2
          && s.standings.get(c) != now) {
        s.standings.set(c, now);
        changed++;
      }
    }
    return changed;
  }

  int takeBack(int card) {
    if (noCard(card)) {
      return -1;
    }
    return s.standings.set(card, 2) == 2 ? 0 : 1;
  }

  int leaned(int card) {
    if (noCard(card)) {
      return -1;
    }
    Set<Integer> mine = new HashSet<>();
    if (counted(card)) {
      mine.addAll(leastCut(card).parts());
      for (int c : countedCards()) {
        if (c != card) {
          mine.removeAll(leastCut(c).parts());
        }
      }
    }
    return mine.stream().filter(part -> part < 100).mapToInt(n -> 1 << n).sum();
  }

  int weight(int hearer, int what) {
    if (hearer < 0 || hearer > 3 || what < 0 || what > 1) {
      return -1;
    }
    int all = 0;
    int alike = 0;
    for (int c = 0; c < s.cards.size(); c++) {
      for (int e = 0; e < c; e++) {
        Card one = s.cards.get(c);
        Card other = s.cards.get(e);
        boolean byOne = (one.hearer() == hearer) != (other.hearer() == hearer);
        if (byOne && s.standings.get(c) == 0 && s.standings.get(e) == 0
            && one.speaker() == other.speaker() && one.hour() == other.hour()) {
          all++;
          alike += one.sounds().equals(other.sounds()) ? 1 : 0;
        }
      }
    }
    return what == 0 ? alike : all;
  }

  // ---- the image, what is told

  int image() {
    image = s.copy();
    return s.cards.size();
  }

  int restore() {
    if (image == null) {
      return -3;
    }
    s = image.copy();
    return s.cards.size();
  }

  int count(int what) {
    switch (what) {
      case 0: return s.cards.size();
      case 1: return (int) s.standings.stream().filter(v -> v == 0).count();
      case 2: return s.notes.size();
      case 3: return s.used.size();
      case 4: return s.rules.size();
      case 5: return s.said.size();
      case 6: return s.words.size();
      case 7: return (int) countedCards().stream()
          .filter(c -> leastCut(c).parts().stream().anyMatch(part -> part >= 100)).count();
      default: return -1;
    }
  }

  // ---- shelves

  int keep(int d, int what, int k) {
    if (noShelf(d) || what < 0 || what > 1 || what == 1 && (k < 0 || k >= s.notes.size())) {
      return -1;
    }
    shelves[d] = what == 0 ? null : s.notes.get(k);
    return 0;
  }

  int row(int d, int sort, int n) {
    if (noShelf(d) || sort < 0 || sort > 2 || n > 80) {
      return -1;
    }
    if (n < 0) {
      return -14;
    }
    shelves[d] = new Row(sort, new int[n]);
    return 0;
  }

  int put(int d, int i, int v) {
    if (noShelf(d)) {
      return -1;
    }
    if (shelves[d] == null) {
      return -11;
    }
    if (!(shelves[d] instanceof Row r)) {
      return -12;
    }
    if (i < 0 || i >= r.elements().length) {
      return -13;
    }
    int[] kept = {(byte) v, (short) v, v};
    r.elements()[i] = kept[r.sort()];
    return 0;
  }

  long element(int d, int i) {
    if (noShelf(d)) {
      throw new IllegalArgumentException();
    }
    if (!(shelves[d] instanceof Row r) || i < 0 || i >= r.elements().length) {
      throw new IllegalStateException();
    }
    return r.elements()[i];
  }

  int copy(int d, int i, int e, int j, int n) {
    if (noShelf(d) || noShelf(e)) {
      return -1;
    }
    if (shelves[d] == null || shelves[e] == null) {
      return -11;
    }
    if (!(shelves[d] instanceof Row from) || !(shelves[e] instanceof Row to)
        || from.sort() != to.sort()) {
      return -12;
    }
    if (n < 0 || i < 0 || j < 0 || (long) i + n > from.elements().length
        || (long) j + n > to.elements().length) {
      return -13;
    }
    int[] were = from.elements().clone();
    for (int k = 0; k < n; k++) {
      to.elements()[j + k] = were[i + k];
    }
    return n;
  }

  int length(int d) {
    if (noShelf(d)) {
      return -1;
    }
    if (shelves[d] == null) {
      return -11;
    }
    return shelves[d] instanceof Note n ? n.length() : -12;
  }

  int toss(int d) {
    if (noShelf(d)) {
      return -1;
    }
    if (shelves[d] == null) {
      return -11;
    }
    if (!(shelves[d] instanceof Note n)) {
      return -12;
    }
    if (n.kind() == 2 || n.sounds().size() == 1) {
      return -15;
    }
    return n.kind() == 3 ? n.sounds().get(0) : n.kind() == 4 ? 100 + n.number() : n.number();
  }
}
