import java.io.IOException;
import java.lang.reflect.Method;
import java.lang.reflect.Modifier;
import java.nio.file.DirectoryStream;
import java.nio.file.Files;
import java.nio.file.Path;
import java.util.ArrayList;
import java.util.List;
import java.util.regex.Matcher;
import java.util.regex.Pattern;

/**
 * README.md says what is so: the calls of its example are answered as it says, every call, every constant and
 * every test is told there, and the files that its commands name are there.
 */
public final class ReadmeTest {
  private static final Path README = Path.of("README.md");
  private static final Path TESTS = Path.of("src/test/java");

  private static final Pattern TEXT = Pattern.compile("String text = \"([^\"]*)\";.*");
  /** A call, what it answers (a number or a constant), and perhaps words behind a colon. */
  private static final Pattern CALL = Pattern.compile("x\\.(\\w+)\\(([^)]*)\\);\\s*// (-?\\d+|[A-Z]+)(:.*)?");

  public static void main(String[] args) throws Exception {
    String readme = Files.readString(README);
    exampleAnswersSo(blocks(readme, "java"));
    everyCallIsTold(readme);
    everyConstantIsTold(readme);
    everyTestIsTold(readme);
    filesOfCommandsAreThere(blocks(readme, "sh"));
    Checks.end();
  }

  /** The lines of all blocks of a language, one behind another. */
  private static List<String> blocks(String readme, String language) {
    List<String> lines = new ArrayList<>();
    Matcher m = Pattern.compile("```" + language + "\n(.*?)```", Pattern.DOTALL).matcher(readme);
    while (m.find()) {
      lines.addAll(List.of(m.group(1).split("\n")));
    }
    return lines;
  }

  private static void exampleAnswersSo(List<String> lines) throws Exception {
    SilverFleets x = new SilverFleets();
    int calls = 0;
    for (String line : lines) {
      Matcher text = TEXT.matcher(line);
      if (text.matches()) {
        // the loop below that line in the example does just this
        Checks.type(x, text.group(1));
      } else if (line.startsWith("x.")) {
        Matcher call = CALL.matcher(line);
        boolean isCall = call.matches();
        Checks.due("a call and its answer: " + line, isCall);
        if (isCall) {
          Checks.due("README.md: " + line, answer(x, call.group(1), call.group(2)), number(call.group(3)));
          calls++;
        }
      }
    }
    Checks.due("the example has calls enough: " + calls, calls >= 20);
  }

  private static long answer(SilverFleets x, String name, String told) throws Exception {
    String[] words = told.isEmpty() ? new String[0] : told.split(", ");
    Class<?>[] types = new Class<?>[words.length];
    Object[] numbers = new Object[words.length];
    for (int i = 0; i < words.length; i++) {
      types[i] = int.class;
      numbers[i] = Integer.parseInt(words[i]);
    }
    return ((Number) SilverFleets.class.getMethod(name, types).invoke(x, numbers)).longValue();
  }

  private static long number(String told) throws Exception {
    return Character.isLetter(told.charAt(0)) ? SilverFleets.class.getField(told).getInt(null) : Long.parseLong(told);
  }

  private static void everyCallIsTold(String readme) {
    for (Method m : SilverFleets.class.getDeclaredMethods()) {
      if (Modifier.isPublic(m.getModifiers())) {
        Checks.due("README.md tells " + m.getName(), readme.contains("| `" + m.getName() + "("));
      }
    }
  }

  private static void everyConstantIsTold(String readme) throws Exception {
    for (String name : new String[] {"BAD", "STATE", "FULL", "NONE", "NO"}) {
      String row = "| `" + name + "` | " + SilverFleets.class.getField(name).getInt(null) + " | ";
      Checks.due("README.md has a row '" + row + "'", readme.contains(row));
    }
  }

  private static void everyTestIsTold(String readme) throws IOException {
    try (DirectoryStream<Path> files = Files.newDirectoryStream(TESTS, "*Test.java")) {
      for (Path file : files) {
        String name = file.getFileName().toString().replace(".java", "");
        Checks.due("README.md tells " + name, readme.contains("| " + name + " |"));
      }
    }
    Matcher rows = Pattern.compile("(?m)^\\| (\\w+Test) \\|").matcher(readme);
    while (rows.find()) {
      Checks.due(rows.group(1) + " is there", Files.exists(TESTS.resolve(rows.group(1) + ".java")));
    }
  }

  private static void filesOfCommandsAreThere(List<String> commands) {
    Checks.due("README.md has .ci/run as a command", commands.contains(".ci/run"));
    int files = 0;
    for (String command : commands) {
      for (String word : command.split(" ")) {
        // what stands under ../shared is not the project's to keep
        boolean ofProject = !word.startsWith("..");
        if (ofProject && (word.endsWith(".java") || word.endsWith("/run"))) {
          Checks.due(word + " is there", Files.exists(Path.of(word)));
          files++;
        }
      }
    }
    Checks.due("the commands name files", files > 1);
  }
}
