import java.lang.management.ManagementFactory;
import java.lang.reflect.Array;
import java.lang.reflect.Field;
import java.lang.reflect.Modifier;
import java.util.ArrayDeque;
import java.util.Collections;
import java.util.Deque;
import java.util.IdentityHashMap;
import java.util.Set;

/** How much room a new object takes, and that a full run of calls takes none more. */
public final class RoomTest {
  private static final long MOST_OBJECTS = 800;
  private static final long MOST_ELEMENTS = 8000;
  /** What the machine itself may take while it runs: far below one byte for each dear step. */
  private static final long MOST_BYTES = 64 * 1024;

  public static void main(String[] args) throws IllegalAccessException {
    boolean right = isSmall(new TongueBook());
    for (int run = 0; run < 3; run++) {
      fullRun(new TongueBook());
    }
    TongueBook x = new TongueBook();
    com.sun.management.ThreadMXBean threads =
        (com.sun.management.ThreadMXBean) ManagementFactory.getThreadMXBean();
    long before = threads.getCurrentThreadAllocatedBytes();
    fullRun(x);
    long taken = threads.getCurrentThreadAllocatedBytes() - before;
    System.out.println("RoomTest: a full run takes " + taken + " bytes");
    if (!right || taken > MOST_BYTES) {
      System.exit(1);
    }
  }

  private static boolean isSmall(TongueBook x) throws IllegalAccessException {
    Set<Object> seen = Collections.newSetFromMap(new IdentityHashMap<>());
    Deque<Object> open = new ArrayDeque<>();
    open.add(x);
    seen.add(x);
    long elements = 0;
    while (!open.isEmpty()) {
      Object one = open.remove();
      if (one.getClass().isArray()) {
        elements += Array.getLength(one);
        if (one instanceof Object[] all) {
          for (Object part : all) {
            addTo(seen, open, part);
          }
        }
        continue;
      }
      for (Field field : one.getClass().getDeclaredFields()) {
        if (!Modifier.isStatic(field.getModifiers())) {
          elements++;
          field.setAccessible(true);
          if (!field.getType().isPrimitive()) {
            addTo(seen, open, field.get(one));
          }
        }
      }
    }
    System.out.println("RoomTest: " + seen.size() + " objects, " + elements + " fields and elements");
    return seen.size() <= MOST_OBJECTS && elements <= MOST_ELEMENTS;
  }

  private static void addTo(Set<Object> seen, Deque<Object> open, Object part) {
    if (part != null && seen.add(part)) {
      open.add(part);
    }
  }

  /** 512 calls: cards, notes, rules, sayings and words as many as there may be, then dear calls. */
  private static void fullRun(TongueBook x) {
    int calls = 0;
    x.row(0, 0, 8);
    for (int c = 0; c < 40; c++) {
      x.put(0, c % 8, c % 3);
      x.card(0, 1 + c, 1 + 10 * (c % 4), 5);
      calls += 2;
    }
    x.row(1, 0, 4);
    for (int n = 0; n < 16; n++) {
      x.put(1, n % 4, n % 3);
      x.note(1, n % 5);
      calls += 2;
    }
    String rule = "C0>-/9_.";
    x.row(2, 0, rule.length());
    for (int i = 0; i < rule.length(); i++) {
      x.put(2, i, rule.charAt(i));
      x.rule(2);
      calls += 2;
    }
    x.row(3, 0, 2);
    x.put(3, 1, 1);
    for (int k = 0; k < 20; k++) {
      x.said(3, k % 8, k, true);
      calls++;
    }
    for (int w = 0; w < 7; w++) {
      x.neighbour(0, w);
      calls++;
    }
    for (int round = 0; calls < 480; round++) {
      calls += dearCalls(x, round % 40);
    }
  }

  private static int dearCalls(TongueBook x, int card) {
    x.leastList(0);
    x.deep(card, -1);
    x.odds(0);
    x.ask(-1, 0);
    x.none(-1);
    x.told(card % 16, 1);
    x.leaned(card);
    x.reader(0, 9, 0);
    x.count(7);
    x.oneOrTwo(1, 2);
    x.weight(1, 0);
    x.heard(0, 4);
    x.image();
    x.restore();
    return 14;
  }
}
