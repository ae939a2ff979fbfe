import java.io.IOException;
import java.lang.reflect.Field;
import java.lang.reflect.Member;
import java.lang.reflect.Method;
import java.lang.reflect.Modifier;
import java.nio.file.Files;
import java.nio.file.Path;
import java.util.ArrayList;
import java.util.Arrays;
import java.util.Collections;
import java.util.HashSet;
import java.util.List;
import java.util.Set;
import java.util.regex.Matcher;
import java.util.regex.Pattern;

/** The document's face and nothing beside it, and the rules of LANGUAGE.md that a program can look at. */
public final class FaceTest {
  private static final String SOURCE = "src/main/java/SilverFleets.java";

  private static final String[] METHODS = {
      "int type(int)", "int clear()", "int season()", "int week(int,int)", "int ship(int,int)", "int waits()",
      "int sails(int,int)", "int lists(int,int)", "int hides(int,int)", "int throwsOff(int,int)", "int raises(int)",
      "int undo()", "int now(int)", "int worth(int,int)", "int plan(int)", "int late()",
      "int game(int,int,int,int)", "int odds(int,int,int,int)", "int register(int,int)", "int mark(int,int)",
      "int keep(int)", "int back(int)", "int count(int)", "long trace()"};
  private static final String[] CONSTANTS = {"BAD", "STATE", "FULL", "NONE", "NO"};

  public static void main(String[] args) throws IOException {
    constants();
    face();
    classesInside();
    words(Files.readString(Path.of(SOURCE)));
    Checks.end();
  }

  private static void constants() {
    Checks.due("BAD", SilverFleets.BAD, -1);
    Checks.due("STATE", SilverFleets.STATE, -2);
    Checks.due("FULL", SilverFleets.FULL, -3);
    Checks.due("NONE", SilverFleets.NONE, -9);
    Checks.due("NO", SilverFleets.NO, -1000000);
  }

  private static void face() {
    Class<?> face = SilverFleets.class;
    Checks.due("public final", face.getModifiers(), Modifier.PUBLIC | Modifier.FINAL);
    List<String> found = new ArrayList<>();
    for (Method m : face.getDeclaredMethods()) {
      if (!Modifier.isPrivate(m.getModifiers())) {
        Checks.due(m + " is public and no more", m.getModifiers(), Modifier.PUBLIC);
        found.add(told(m));
      }
    }
    sameNames("methods", found, METHODS);
    List<String> fields = new ArrayList<>();
    for (Field f : face.getDeclaredFields()) {
      if (!Modifier.isPrivate(f.getModifiers())) {
        Checks.due(f + " is a public constant", f.getModifiers(), Modifier.PUBLIC | Modifier.STATIC | Modifier.FINAL);
        fields.add(f.getName());
      }
    }
    sameNames("constants", fields, CONSTANTS);
    Checks.due("one constructor", face.getDeclaredConstructors().length, 1);
    Checks.due("a public one", face.getDeclaredConstructors()[0].getModifiers(), Modifier.PUBLIC);
  }

  private static String told(Method m) {
    StringBuilder b = new StringBuilder(m.getReturnType().getName()).append(' ').append(m.getName()).append('(');
    for (int i = 0; i < m.getParameterCount(); i++) {
      b.append(i == 0 ? "" : ",").append(m.getParameterTypes()[i].getName());
    }
    return b.append(')').toString();
  }

  private static void sameNames(String what, List<String> found, String[] due) {
    List<String> wanted = new ArrayList<>(Arrays.asList(due));
    Collections.sort(wanted);
    Collections.sort(found);
    Checks.due(what + " are " + found, found.equals(wanted));
  }

  private static void classesInside() {
    Set<String> publicNames = new HashSet<>();
    for (String m : METHODS) {
      publicNames.add(m.substring(m.indexOf(' ') + 1, m.indexOf('(')));
    }
    Class<?>[] inside = SilverFleets.class.getDeclaredClasses();
    Checks.due("twelve classes at most", inside.length < 12);
    for (Class<?> c : inside) {
      Checks.due(c + " is static", Modifier.isStatic(c.getModifiers()));
      Checks.due(c + " isn't public", !Modifier.isPublic(c.getModifiers()) && !Modifier.isProtected(c.getModifiers()));
      ownFields(c);
      noPublicName(c, publicNames);
    }
    ownFields(SilverFleets.class);
    noPublicName(SilverFleets.class, publicNames);
  }

  private static void ownFields(Class<?> c) {
    int own = 0;
    for (Field f : c.getDeclaredFields()) {
      boolean isStatic = Modifier.isStatic(f.getModifiers());
      own += isStatic ? 0 : 1;
      Checks.due(f + ": a static field is final", !isStatic || Modifier.isFinal(f.getModifiers()));
    }
    Checks.due(c + " has twenty fields at most", own <= 20);
  }

  private static void noPublicName(Class<?> c, Set<String> publicNames) {
    for (Method m : c.getDeclaredMethods()) {
      boolean ofFace = c == SilverFleets.class && Modifier.isPublic(((Member) m).getModifiers());
      Checks.due(m + ": no other method bears a public one's name", ofFace || !publicNames.contains(m.getName()));
      Checks.due(m + ": seven parameters at most", m.getParameterCount() <= 7);
    }
  }

  private static void words(String source) {
    String code = source.replaceAll("(?s)/\\*.*?\\*/", " ").replaceAll("//[^\n]*", " ").replaceAll("'(\\\\.|[^'])'", "0");
    String[] barred = {"throw", "throws", "try", "catch", "synchronized", "assert", "import", "package", "protected",
        "native", "volatile", "transient", "strictfp", "Object", "Exception", "Error", "hashCode", "toString", "Thread",
        "Random", "var", "yield"};
    for (String word : barred) {
      Matcher m = Pattern.compile("\\b" + word + "\\b").matcher(code);
      Checks.due("no '" + word + "'", !m.find());
    }
    for (String sign : new String[] {"->", "::", "@", "Exact(", "\""}) {
      Checks.due("no '" + sign + "'", !code.contains(sign));
    }
    Matcher library = Pattern.compile("\\b(Math|Integer|Long|System|Arrays)\\s*\\.\\s*(\\w+)").matcher(code);
    Set<String> allowed = Set.of("Math.min", "Math.max", "Math.abs", "System.arraycopy", "Integer.bitCount");
    while (library.find()) {
      String call = library.group(1) + "." + library.group(2);
      Checks.due("library: " + call, allowed.contains(call));
    }
    for (int i = 0; i < source.length(); i++) {
      if (source.charAt(i) > 127) {
        Checks.due("a sign beyond 127 at " + i, false);
      }
    }
    shortMethods(code);
  }

  /** A method begins four or eight blanks in and ends with a brace as far in. */
  private static void shortMethods(String code) {
    String[] lines = code.split("\n");
    for (int i = 0; i < lines.length; i++) {
      Matcher head = Pattern.compile("^( {4}| {8})(public|private) [^=;]*\\([^;]*\\{$").matcher(lines[i]);
      if (head.find()) {
        int end = i + 1;
        while (end < lines.length && !lines[end].equals(head.group(1) + "}")) {
          end++;
        }
        Checks.due("a short method at " + lines[i].trim(), end - i < 60);
      }
    }
  }
}
