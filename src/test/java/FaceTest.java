import java.io.IOException;
import java.lang.reflect.Constructor;
import java.lang.reflect.Field;
import java.lang.reflect.Method;
import java.lang.reflect.Modifier;
import java.nio.charset.StandardCharsets;
import java.nio.file.Files;
import java.nio.file.Path;
import java.util.Set;
import java.util.TreeSet;
import java.util.regex.Pattern;

// The public face, and the rules of LANGUAGE.md that can be looked up by a program.
public final class FaceTest {
  private static final Set<String> FACE = Set.of(
      "int type(int)", "int clear()", "int dairy()", "int day(int,int)", "int work(int,int)",
      "int now(int)", "int fresh(int)", "int stands()", "int beats(int)", "int salts(int)",
      "int quarrels(int)", "int feeds(int)", "int night()", "int undo()", "int coming(int)",
      "int menu(int)", "int tasted(int,int)", "int forget()", "int cheats(int)", "int taste()",
      "int share(int,int)", "int back(int,int,int,int,int)", "int odds(int,int,int,int)",
      "int rate(int,int)", "int keep(int)", "int again(int)", "int count(int)", "long trace()");

  public static void main(String[] args) throws IOException {
    constants();
    methods();
    fields();
    inside();
    source();
    Due.end();
  }

  private static void constants() {
    Due.is("BAD", ChurnedTime.BAD, -1);
    Due.is("STATE", ChurnedTime.STATE, -2);
    Due.is("FULL", ChurnedTime.FULL, -3);
    Due.is("NONE", ChurnedTime.NONE, -9);
    Due.is("NO", ChurnedTime.NO, -1000000);
  }

  private static void methods() {
    Due.holds("public and final", Modifier.isPublic(ChurnedTime.class.getModifiers())
        && Modifier.isFinal(ChurnedTime.class.getModifiers()));
    Set<String> seen = new TreeSet<>();
    Set<String> names = new TreeSet<>();
    for (Method m : ChurnedTime.class.getDeclaredMethods()) {
      if (!Modifier.isPublic(m.getModifiers())) continue;
      String whole = m.toGenericString().replace("ChurnedTime.", "");
      seen.add(whole.substring("public ".length()));
      names.add(m.getName());
    }
    Due.same("the face", seen.toString(), new TreeSet<>(FACE).toString());
    for (Method m : ChurnedTime.class.getDeclaredMethods()) {
      boolean isPublic = Modifier.isPublic(m.getModifiers());
      boolean isPrivate = Modifier.isPrivate(m.getModifiers());
      Due.holds(m.getName() + " is public or private", isPublic || isPrivate);
      if (isPrivate) Due.holds(m.getName() + " is no public name", !names.contains(m.getName()));
      Due.holds(m.getName() + " takes seven at most", m.getParameterCount() <= 7);
    }
    Constructor<?>[] makers = ChurnedTime.class.getDeclaredConstructors();
    Due.is("constructors", makers.length, 1);
    Due.holds("it is public", Modifier.isPublic(makers[0].getModifiers()));
    Due.is("it takes nothing", makers[0].getParameterCount(), 0);
  }

  private static void fields() {
    Set<String> open = new TreeSet<>();
    for (Field f : ChurnedTime.class.getDeclaredFields()) {
      if (!Modifier.isPrivate(f.getModifiers())) open.add(f.getName());
      if (Modifier.isStatic(f.getModifiers())) {
        Due.holds(f.getName() + " is final", Modifier.isFinal(f.getModifiers()));
      }
    }
    Due.same("open fields", open.toString(), "[BAD, FULL, NO, NONE, STATE]");
  }

  private static void inside() {
    Class<?>[] classes = ChurnedTime.class.getDeclaredClasses();
    Due.holds("some twelve classes at most", classes.length < 15);
    for (Class<?> c : classes) {
      Due.holds(c.getName() + " is static", Modifier.isStatic(c.getModifiers()));
      Due.holds(c.getName() + " is not public", !Modifier.isPublic(c.getModifiers()));
      int own = 0;
      for (Field f : c.getDeclaredFields()) {
        if (!Modifier.isStatic(f.getModifiers())) own++;
        else Due.holds(f.getName() + " is final", Modifier.isFinal(f.getModifiers()));
      }
      Due.holds(c.getName() + " has some twenty fields at most", own <= 24);
      for (Method m : c.getDeclaredMethods()) methodInside(m);
    }
  }

  private static void methodInside(Method m) {
    Due.holds(m.getName() + " takes seven at most", m.getParameterCount() <= 7);
    Due.holds(m.getName() + " is not one of every object",
        !Set.of("equals", "hashCode", "toString").contains(m.getName()));
  }

  private static void source() throws IOException {
    Path file = Path.of("src/main/java/ChurnedTime.java");
    String text = Files.readString(file, StandardCharsets.US_ASCII);
    String code = text.replaceAll("//[^\n]*", "").replaceAll("(?s)/\\*.*?\\*/", "");
    code = code.replaceAll("\"(\\\\.|[^\"\\\\\n])*\"", "0");
    String[] words = {"throw", "throws", "try", "catch", "finally", "synchronized", "assert", "package",
      "volatile", "native", "hashCode", "Thread", "Random", "Object", "Class", "Scanner", "File"};
    for (String word : words) {
      Due.holds("no " + word, !Pattern.compile("\\b" + word + "\\b").matcher(code).find());
    }
    Due.holds("of System arraycopy alone", !Pattern.compile("\\bSystem\\.(?!arraycopy\\b)").matcher(code).find());
    Due.holds("no lambda", !Pattern.compile("(?m)^(?!\\s*(case|default)\\b).*->").matcher(code).find());
    Due.holds("no method reference", !code.contains("::"));
    Due.holds("nothing whose name ends in Exact", !Pattern.compile("Exact\\b").matcher(code).find());
    shortMethods(text.split("\n"));
  }

  // From a line that opens a body to the one that closes it at the same indent.
  private static void shortMethods(String[] lines) {
    for (int i = 0; i < lines.length; i++) {
      if (!lines[i].endsWith(") {")) continue;
      String indent = lines[i].substring(0, lines[i].length() - lines[i].stripLeading().length());
      int end = i;
      while (end < lines.length && !lines[end].startsWith(indent + "}")) end++;
      Due.holds("sixty lines at most behind line " + (i + 1), end - i <= 60);
    }
  }
}
