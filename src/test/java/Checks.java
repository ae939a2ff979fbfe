/** What the tests share: answers that are due, texts typed, and the end with its exit code. */
final class Checks {
  private static int asked = 0;
  private static int wrong = 0;

  private Checks() {
  }

  static void due(String call, long got, long want) {
    asked++;
    if (got != want) {
      wrong++;
      if (wrong <= 50) {
        System.out.println(call + " answered " + got + ", due is " + want);
      }
    }
  }

  static void due(String what, boolean holds) {
    due(what, holds ? 1 : 0, 1);
  }

  static void type(SilverFleets x, String text) {
    for (int i = 0; i < text.length(); i++) {
      x.type(text.charAt(i));
    }
  }

  /** A new object whose season is told by the text; a text with a fault ends the test. */
  static SilverFleets told(String text) {
    SilverFleets x = new SilverFleets();
    type(x, text);
    int items = x.season();
    if (items < 0) {
      throw new IllegalStateException("'" + text + "' has a fault: " + items);
    }
    return x;
  }

  static void end() {
    System.out.println(asked + " answers, " + wrong + " of them not as due");
    if (wrong != 0) {
      System.exit(1);
    }
  }
}
