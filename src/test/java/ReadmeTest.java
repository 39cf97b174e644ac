import java.io.IOException;
import java.lang.reflect.Method;
import java.lang.reflect.Modifier;
import java.nio.charset.StandardCharsets;
import java.nio.file.DirectoryStream;
import java.nio.file.Files;
import java.nio.file.Path;
import java.util.List;
import java.util.Set;
import java.util.TreeSet;
import java.util.regex.Matcher;
import java.util.regex.Pattern;

// README.md: each call that it shows answers what stands beside it, and the tests that it names are there.
public final class ReadmeTest {
  private static final Pattern CALL = Pattern.compile("x\\.(\\w+)\\(([-\\d, ]*)\\); +// (-?\\d+|[A-Z]+)\\b.*");
  private static final Pattern TEXT = Pattern.compile("String text = \"([^\"]*)\";");
  private static final String MAKE = "ChurnedTime x = new ChurnedTime();";
  private static final String TYPE = "for (int i = 0; i < text.length(); i++) x.type(text.charAt(i));";

  private static ChurnedTime x = new ChurnedTime();
  private static String text = "";
  private static final Set<String> shown = new TreeSet<>();

  public static void main(String[] args) throws Exception {
    List<String> lines = Files.readAllLines(Path.of("README.md"), StandardCharsets.UTF_8);
    boolean inJava = false;
    for (String line : lines) {
      boolean fence = line.startsWith("```");
      if (inJava && !fence && !line.isBlank()) follow(line);
      if (fence) inJava = line.equals("```java");
    }
    showsEachCall();
    namesEachTest(String.join("\n", lines));
    Due.end();
  }

  private static void follow(String line) throws Exception {
    Matcher told = TEXT.matcher(line);
    Matcher call = CALL.matcher(line);
    if (line.equals(MAKE)) {
      x = new ChurnedTime();
    } else if (told.matches()) {
      text = told.group(1);
    } else if (line.equals(TYPE)) {
      for (int i = 0; i < text.length(); i++) Due.is("type " + i, x.type(text.charAt(i)), i + 1);
      shown.add("type");
    } else {
      Due.holds("a line that this test can read: " + line, call.matches());
      if (call.matches()) ask(call.group(1), call.group(2), call.group(3));
    }
  }

  private static void ask(String name, String numbers, String answer) throws Exception {
    String[] parts = numbers.isEmpty() ? new String[0] : numbers.split(", *");
    Class<?>[] takes = new Class<?>[parts.length];
    Object[] given = new Object[parts.length];
    for (int i = 0; i < parts.length; i++) {
      takes[i] = int.class;
      given[i] = Integer.valueOf(parts[i]);
    }
    Method method = ChurnedTime.class.getMethod(name, takes);
    Number got = (Number) method.invoke(x, given);
    Due.is("README: " + name + "(" + numbers + ")", got.longValue(), due(answer));
    shown.add(name);
  }

  private static long due(String answer) throws Exception {
    if (!Character.isUpperCase(answer.charAt(0))) return Long.parseLong(answer);
    return ChurnedTime.class.getField(answer).getInt(null);
  }

  private static void showsEachCall() {
    Set<String> calls = new TreeSet<>();
    for (Method m : ChurnedTime.class.getDeclaredMethods()) {
      if (Modifier.isPublic(m.getModifiers())) calls.add(m.getName());
    }
    Due.same("calls that README shows", shown.toString(), calls.toString());
  }

  private static void namesEachTest(String readme) throws IOException {
    Set<String> there = new TreeSet<>();
    try (DirectoryStream<Path> files = Files.newDirectoryStream(Path.of("src/test/java"), "*Test.java")) {
      for (Path file : files) there.add(file.getFileName().toString().replace(".java", ""));
    }
    Set<String> named = new TreeSet<>();
    Matcher name = Pattern.compile("`(\\w+Test)`").matcher(readme);
    while (name.find()) named.add(name.group(1));
    Due.same("tests that README names", named.toString(), there.toString());
  }
}
