import java.io.IOException;
import java.lang.reflect.Field;
import java.lang.reflect.Method;
import java.lang.reflect.Modifier;
import java.nio.charset.StandardCharsets;
import java.nio.file.Files;
import java.nio.file.Path;
import java.util.ArrayList;
import java.util.List;
import java.util.Set;
import java.util.TreeSet;
import java.util.regex.Matcher;
import java.util.regex.Pattern;

/** What can be seen from outside of the rules in ../shared/LANGUAGE.md, and the document's face. */
public final class LanguageTest {
  private static final Path SOURCE = Path.of("src/main/java/TongueBook.java");
  private static final Path DOCUMENT = Path.of("../shared/DOC.md");
  private static final String[] BARRED_SIGNS = {"->", "::", "finally", "synchronized", "assert ",
      "volatile", "Exact(", "catch", "try ", "instanceof", "@", "lambda", "var ", "record ", "goto",
      "Object", "Math.random", "Thread", "getClass", "hashCode", "toString", "equals(", "String"};
  private static int wrong;

  public static void main(String[] args) throws IOException {
    String source = Files.readString(SOURCE, StandardCharsets.ISO_8859_1);
    checkText(source);
    checkLengths(source);
    checkFace();
    checkClasses();
    System.out.println("LanguageTest: " + wrong + " wrong");
    if (wrong != 0) {
      System.exit(1);
    }
  }

  private static void hold(boolean right, String rule) {
    if (!right) {
      wrong++;
      System.out.println("LanguageTest: " + rule);
    }
  }

  private static void checkText(String source) {
    hold(source.chars().allMatch(c -> c < 127), "signs are 1 to 126");
    hold(!source.contains("package "), "no package line");
    String code = source.replaceAll("(?s)/\\*.*?\\*/", "").replaceAll("//.*", "");
    for (String sign : BARRED_SIGNS) {
      hold(!code.contains(sign), "holds " + sign);
    }
    only(code, "import ([\\w.]+);", Set.of("java.util.Arrays"));
    only(code, "\\bMath\\.(\\w+)", Set.of("min", "max"));
    only(code, "\\bArrays\\.(\\w+)", Set.of("fill"));
    only(code, "\\bSystem\\.(\\w+)", Set.of("arraycopy"));
    only(code, "\\bInteger\\.(\\w+)", Set.of("bitCount", "numberOfTrailingZeros"));
    only(code, "throw new (\\w+)", Set.of("IllegalArgumentException", "IllegalStateException"));
  }

  private static void only(String code, String pattern, Set<String> allowed) {
    Matcher m = Pattern.compile(pattern).matcher(code);
    while (m.find()) {
      hold(allowed.contains(m.group(1)), "uses " + m.group());
    }
  }

  private static void checkLengths(String source) {
    int start = 0;
    String[] lines = source.split("\n");
    for (int i = 0; i < lines.length; i++) {
      if (lines[i].matches(" {2}(  )?\\S.*\\) ?(throws .*)?\\{")) {
        start = i;
      }
      if (lines[i].matches(" {2}(  )?}")) {
        hold(i - start < 60 || lines[i].matches(" {2}}"), "a long method ends in line " + (i + 1));
      }
    }
  }

  /** The face as it stands in the document, a line each: type, name, types of what it takes. */
  private static Set<String> faceOfDocument() throws IOException {
    String text = Files.readString(DOCUMENT, StandardCharsets.UTF_8);
    String block = text.substring(text.indexOf("```java"), text.indexOf("```", text.indexOf("```java") + 3));
    Set<String> face = new TreeSet<>();
    Matcher m = Pattern.compile("public (int|long) (\\w+)\\(([^)]*)\\)").matcher(block);
    while (m.find()) {
      face.add(m.group(1) + " " + m.group(2) + " " + m.group(3).replaceAll("(\\w+) \\w+", "$1").replace(" ", ""));
    }
    return face;
  }

  private static void checkFace() throws IOException {
    Set<String> face = new TreeSet<>();
    Set<String> names = new TreeSet<>();
    for (Method method : TongueBook.class.getDeclaredMethods()) {
      if (Modifier.isPublic(method.getModifiers())) {
        List<String> types = new ArrayList<>();
        for (Class<?> type : method.getParameterTypes()) {
          types.add(type.getName());
        }
        face.add(method.getReturnType() + " " + method.getName() + " " + String.join(",", types));
        names.add(method.getName());
      } else {
        hold(Modifier.isPrivate(method.getModifiers()), method + " is seen");
      }
    }
    hold(face.equals(faceOfDocument()), "the face is " + face);
    hold(face.size() == 40, "the face has " + face.size() + " methods");
    hold(Modifier.isFinal(TongueBook.class.getModifiers()), "the class is final");
    hold(TongueBook.class.getConstructors().length == 1, "one constructor");
    for (Class<?> type : classes()) {
      for (Method method : type.getDeclaredMethods()) {
        hold(type == TongueBook.class && Modifier.isPublic(method.getModifiers())
            || !names.contains(method.getName()), method + " bears a public name");
      }
    }
  }

  private static List<Class<?>> classes() {
    List<Class<?>> all = new ArrayList<>(List.of(TongueBook.class.getDeclaredClasses()));
    all.add(TongueBook.class);
    return all;
  }

  private static void checkClasses() {
    hold(classes().size() <= 12, "classes: " + classes().size());
    for (Class<?> type : classes()) {
      hold(type == TongueBook.class || Modifier.isPrivate(type.getModifiers())
          && Modifier.isStatic(type.getModifiers()), type + " is private and static");
      int fields = 0;
      for (Field field : type.getDeclaredFields()) {
        boolean isStatic = Modifier.isStatic(field.getModifiers());
        fields += isStatic ? 0 : 1;
        hold(!isStatic || Modifier.isFinal(field.getModifiers()) && field.getType().isPrimitive(),
            field + " is a constant");
        hold(type != TongueBook.class || Modifier.isPrivate(field.getModifiers()), field + " is seen");
      }
      hold(fields <= 20, type + " has " + fields + " fields");
      for (Method method : type.getDeclaredMethods()) {
        hold(method.getParameterCount() <= 7, method + " takes too many");
      }
    }
  }
}
