import java.io.IOException;
import java.lang.reflect.Constructor;
import java.lang.reflect.Field;
import java.lang.reflect.Method;
import java.lang.reflect.Modifier;
import java.nio.file.Files;
import java.nio.file.Path;
import java.util.Arrays;
import java.util.Set;
import java.util.TreeSet;
import java.util.regex.Matcher;
import java.util.regex.Pattern;

/** The class's face, and what can be seen of LANGUAGE.md in the class and in its text. */
public final class RulesTest {
  private static final Due due = new Due("RulesTest");
  private static final Set<String> FACE = new TreeSet<>(Arrays.asList(
      "int page(int)", "int marks(int, int)", "int campaign(int, int, int)", "int budget(int, int, int)",
      "int cap(int, int, int)", "int apart(int, int, int)", "int promise(int, int, int)", "int stop(int, int)",
      "int rule(int)", "int pace(int, int)", "int tick(int)", "int come(int, int)", "int why(int, int, int)",
      "long best(int, int)", "int give(int, int, int)", "int sale(int, int)", "int press(int)", "int refund(int)",
      "int told(int, int)", "int chance(int)", "int draw(int, int)", "int income(int)", "int count(int)"));

  public static void main(String[] args) throws IOException {
    face();
    for (Class<?> inside : NoticeMarket.class.getDeclaredClasses()) classInside(inside);
    text(Files.readString(Path.of(System.getProperty("market.source", "src/main/java/NoticeMarket.java"))));
    due.end();
  }

  private static void face() {
    Class<?> market = NoticeMarket.class;
    due.is("modifiers of the class", market.getModifiers(), Modifier.PUBLIC | Modifier.FINAL);
    Set<String> seen = new TreeSet<>();
    Set<String> names = new TreeSet<>();
    for (Method m : market.getDeclaredMethods()) {
      if (Modifier.isPrivate(m.getModifiers())) continue;
      due.isTrue(m + " is public and not static", m.getModifiers() == Modifier.PUBLIC);
      String types = Arrays.toString(m.getParameterTypes());
      seen.add(m.getReturnType() + " " + m.getName() + "(" + types.substring(1, types.length() - 1) + ")");
      names.add(m.getName());
    }
    due.isTrue("the methods are the document's: " + seen, seen.equals(FACE));
    Constructor<?>[] constructors = market.getDeclaredConstructors();
    due.is("one constructor", constructors.length, 1);
    due.isTrue("it is public", Modifier.isPublic(constructors[0].getModifiers()));
    due.is("it takes nothing", constructors[0].getParameterCount(), 0);
    for (Field f : market.getDeclaredFields()) {
      boolean constant = Set.of("BAD", "NOT", "FULL").contains(f.getName());
      due.isTrue(f + " is seen as it must be", Modifier.isPublic(f.getModifiers()) == constant);
      due.isTrue(f + " is public or private", constant || Modifier.isPrivate(f.getModifiers()));
    }
    notNamedAsPublic(market, names);
    for (Class<?> inside : market.getDeclaredClasses()) notNamedAsPublic(inside, names);
    staticsAndFields(market);
  }

  private static void notNamedAsPublic(Class<?> type, Set<String> names) {
    for (Method m : type.getDeclaredMethods()) {
      due.isTrue(m + " has its own name", Modifier.isPublic(m.getModifiers()) || !names.contains(m.getName()));
    }
  }

  private static void classInside(Class<?> inside) {
    due.isTrue(inside + " is static", Modifier.isStatic(inside.getModifiers()));
    due.isTrue(inside + " is not public", (inside.getModifiers() & (Modifier.PUBLIC | Modifier.PROTECTED)) == 0);
    staticsAndFields(inside);
  }

  private static void staticsAndFields(Class<?> type) {
    int fields = 0;
    for (Field f : type.getDeclaredFields()) {
      if (!Modifier.isStatic(f.getModifiers())) fields++;
      else due.isTrue(f + " is final", Modifier.isFinal(f.getModifiers()));
    }
    due.isTrue(type + " has at most twenty fields", fields <= 20);
    for (Method m : type.getDeclaredMethods()) due.isTrue(m + " takes at most seven", m.getParameterCount() <= 7);
  }

  private static void text(String source) {
    String code = Pattern.compile("/\\*.*?\\*/|//[^\\n]*", Pattern.DOTALL).matcher(source).replaceAll("");
    String[] words = {"throw", "throws", "try", "catch", "finally", "synchronized", "assert", "import", "package",
        "var", "hashCode", "toString", "System", "Object", "double", "float"};
    for (String word : words) {
      due.isTrue("no " + word, !Pattern.compile("\\b" + word + "\\b").matcher(code).find());
    }
    String[] parts = {"->", "::", "\"", "Exact("};
    for (String part : parts) due.isTrue("no " + part, !code.contains(part));
    due.isTrue("at most twelve classes", count(code, "\\bclass\\s+\\w+") <= 12);
    due.is("one public class", count(code, "\\bpublic\\s+(final\\s+)?class\\b"), 1);
    onlyListedLibrary(code);
    methodsAreShort(code);
  }

  /** The class needs so little of what the rules list that each name can be told here. */
  private static void onlyListedLibrary(String code) {
    Set<String> own = new TreeSet<>(Set.of("NoticeMarket", "Math"));
    for (Class<?> inside : NoticeMarket.class.getDeclaredClasses()) own.add(inside.getSimpleName());
    Matcher types = Pattern.compile("\\b[A-Z]\\w*[a-z]\\w*").matcher(code);
    while (types.find()) due.isTrue(types.group() + " is the class's own or listed", own.contains(types.group()));
    Matcher uses = Pattern.compile("\\bMath\\s*\\.\\s*\\w+").matcher(code);
    while (uses.find()) due.isTrue(uses.group() + " is listed", Set.of("Math.max", "Math.min").contains(uses.group()));
  }

  private static int count(String code, String pattern) {
    Matcher m = Pattern.compile(pattern).matcher(code);
    int n = 0;
    while (m.find()) n++;
    return n;
  }

  private static void methodsAreShort(String code) {
    Matcher m = Pattern.compile("(?m)^(\\s+)[\\w\\[\\] ]+\\([^)]*\\) \\{\\n(?:.*\\n)*?\\1\\}").matcher(code);
    int methods = 0;
    while (m.find()) {
      methods++;
      due.isTrue("a method of at most sixty lines", m.group().split("\n").length <= 62);
    }
    due.isTrue("the methods were found", methods > 40);
  }
}
