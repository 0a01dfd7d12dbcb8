import java.io.IOException;
import java.lang.reflect.Method;
import java.nio.file.Files;
import java.nio.file.Path;
import java.util.List;
import java.util.regex.Matcher;
import java.util.regex.Pattern;
import java.util.stream.Collectors;
import java.util.stream.Stream;

/** The calls that README.md shows answer what it says, and it names every call and every test. */
public final class ReadmeTest {
  private static final Due due = new Due("ReadmeTest");
  private static final Pattern CALL = Pattern.compile("(?m)^market\\.(\\w+)\\(([\\d, ]*)\\); +// (-?\\d+)\\b");

  public static void main(String[] args) throws IOException, ReflectiveOperationException {
    Path source = Path.of(System.getProperty("market.source", "src/main/java/NoticeMarket.java"));
    Path root = source.toAbsolutePath().resolve("../../../..").normalize();
    String readme = Files.readString(root.resolve("README.md"));
    shownCalls(readme);
    for (Method method : NoticeMarket.class.getMethods()) {
      if (method.getDeclaringClass() != NoticeMarket.class) continue;
      due.isTrue("README.md names the call " + method.getName(), readme.contains("`" + method.getName() + "`"));
    }
    for (String test : testsIn(root.resolve("src/test/java"))) {
      due.isTrue("README.md names " + test, readme.contains("`" + test + "`"));
    }
    due.end();
  }

  private static void shownCalls(String readme) throws ReflectiveOperationException {
    NoticeMarket market = new NoticeMarket();
    Matcher shown = CALL.matcher(readme);
    int calls = 0;
    for (; shown.find(); calls++) {
      String call = shown.group(1) + "(" + shown.group(2) + ")";
      due.is(call, ask(market, shown.group(1), shown.group(2).split(", ")), Long.parseLong(shown.group(3)));
    }
    due.is("calls shown with an answer", calls, readme.lines().filter(line -> line.startsWith("market.")).count());
    due.isTrue("there are some", calls > 0);
  }

  private static long ask(NoticeMarket market, String name, String[] numbers) throws ReflectiveOperationException {
    Class<?>[] types = new Class<?>[numbers.length];
    Object[] values = new Object[numbers.length];
    for (int i = 0; i < numbers.length; i++) {
      types[i] = int.class;
      values[i] = Integer.parseInt(numbers[i]);
    }
    return ((Number) NoticeMarket.class.getMethod(name, types).invoke(market, values)).longValue();
  }

  private static List<String> testsIn(Path folder) throws IOException {
    try (Stream<Path> files = Files.list(folder)) {
      return files.map(file -> file.getFileName().toString()).filter(name -> name.endsWith("Test.java"))
          .map(name -> name.replace(".java", "")).sorted().collect(Collectors.toList());
    }
  }
}
