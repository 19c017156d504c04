import java.io.IOException;
import java.lang.reflect.InvocationTargetException;
import java.lang.reflect.Method;
import java.lang.reflect.Modifier;
import java.nio.charset.StandardCharsets;
import java.nio.file.Files;
import java.nio.file.Path;
import java.util.List;
import java.util.regex.Matcher;
import java.util.regex.Pattern;
import java.util.stream.Collectors;
import java.util.stream.Stream;

/** What README.md shows is answered so, and it names all calls and all tests. */
public final class ReadmeTest {
  private static final String NEW_OBJECT = "TongueBook x = new TongueBook();";
  private static final Pattern CALL = Pattern.compile("x\\.(\\w+)\\(([^)]*)\\);");
  private static final Pattern ANSWER = Pattern.compile("// (-?\\d+)\\b");
  private static int lines;
  private static int wrong;

  public static void main(String[] args) throws IOException {
    String page = Files.readString(Path.of("README.md"), StandardCharsets.UTF_8);
    String[] blocks = page.split("```");
    for (int i = 1; i < blocks.length; i += 2) {
      if (blocks[i].startsWith("java\n")) {
        runBlock(blocks[i].substring(5));
      }
    }
    hold(lines > 40, "only " + lines + " lines of calls are shown");
    checkNames(page);
    System.out.println("ReadmeTest: " + lines + " lines, " + wrong + " wrong");
    if (wrong != 0) {
      System.exit(1);
    }
  }

  private static void hold(boolean right, String what) {
    if (!right) {
      wrong++;
      System.out.println("ReadmeTest: " + what);
    }
  }

  private static void runBlock(String block) {
    TongueBook x = null;
    for (String line : block.split("\n")) {
      if (line.equals(NEW_OBJECT)) {
        x = new TongueBook();
      } else {
        runLine(x, line);
      }
    }
  }

  /** The number behind the calls is what the last one answers. */
  private static void runLine(TongueBook x, String line) {
    lines++;
    Long got = null;
    Matcher call = CALL.matcher(line);
    int end = 0;
    while (call.find()) {
      got = answerOf(x, call.group(1), call.group(2).split(", *", -1));
      end = call.end();
    }
    Matcher due = ANSWER.matcher(line.substring(end));
    boolean isShown = due.find();
    hold(isShown, "no answer is shown: " + line);
    if (isShown) {
      hold(got != null && got == Long.parseLong(due.group(1)), line + " answered " + got);
    }
  }

  private static Long answerOf(TongueBook x, String name, String[] told) {
    for (Method method : TongueBook.class.getMethods()) {
      if (method.getName().equals(name)) {
        Object[] values = new Object[method.getParameterCount()];
        for (int i = 0; i < values.length; i++) {
          values[i] = valueOf(told[i]);
        }
        try {
          return ((Number) method.invoke(x, values)).longValue();
        } catch (IllegalAccessException | InvocationTargetException e) {
          hold(false, name + " threw " + e.getCause());
          return null;
        }
      }
    }
    hold(false, "no call is named " + name);
    return null;
  }

  private static Object valueOf(String told) {
    if (told.equals("true") || told.equals("false")) {
      return told.equals("true");
    }
    return told.startsWith("'") ? (int) told.charAt(1) : Integer.parseInt(told);
  }

  private static void checkNames(String page) throws IOException {
    for (Method method : TongueBook.class.getDeclaredMethods()) {
      if (Modifier.isPublic(method.getModifiers())) {
        hold(page.contains("`" + method.getName() + "`"), "does not name " + method.getName());
      }
    }
    for (String test : namesIn("src/test/java")) {
      boolean isNamed = test.startsWith("Boundary") ? page.contains("/Boundary*Test.java`")
          : page.contains("/" + test + "`") || page.contains("`" + test + "`");
      hold(isNamed, "does not name " + test);
    }
  }

  private static List<String> namesIn(String place) throws IOException {
    try (Stream<Path> files = Files.list(Path.of(place))) {
      return files.map(file -> file.getFileName().toString()).collect(Collectors.toList());
    }
  }
}
