/** The bounds of the document's part 4 and of promises 21 to 25: marks, images, counts, the trace. */
public final class KindsImagesBoundsTest {
  private static final int BAD = SilverFleets.BAD;
  private static final int STATE = SilverFleets.STATE;
  private static final int NO = SilverFleets.NO;

  public static void main(String[] args) {
    marksRefused();
    marksBelowZero();
    marksOfTheLeastAndTheMost();
    marksWherever();
    marksChangeTheTraceAlone();
    traceOfEveryKind();
    imagesZeroAndOne();
    imagesNotKept();
    imagesAreGone();
    imagesStayBehindAFault();
    imagesOfANewObject();
    imagesOfTenAndOfNone();
    imagesStandApart();
    imagesAreNotUndone();
    imagesKeepNothingElse();
    readAnew();
    countAndItsWhat();
    Checks.end();
  }

  private static void refused(String call, Twins.Call asked, int answer) {
    Twins.refused(call, Twins::everywhere, asked, answer);
  }

  // "NO: BAD."
  private static void marksRefused() {
    int[][] bad = {{-1, 0}, {6, 0}, {7, 4}, {0, -1}, {0, 5}, {5, 5}, {5, -1}, {6, 5}, {-1, -1}, {Twins.FAR_UP, 0},
        {Twins.FAR_DOWN, 0}, {0, Twins.FAR_UP}, {0, Twins.FAR_DOWN}};
    for (int[] b : bad) {
      refused("mark(" + b[0] + ", " + b[1] + ")", x -> x.mark(b[0], b[1]), NO);
    }
    for (int ships = 0; ships <= 5; ships++) {
      SilverFleets x = Checks.told("s3 0 0 0;".repeat(ships));
      if (ships > 0) {
        Checks.due("mark of the last of " + ships, x.mark(5, ships - 1), 3);
      }
      Checks.due("mark of the one behind it", x.mark(5, ships), NO);
    }
  }

  /** A mark may be any of the numbers by which other calls refuse. */
  private static void marksBelowZero() {
    for (int ready = 0; ready <= 11; ready++) {
      SilverFleets x = Checks.told("s0 0 0 " + ready + ";s0 0 0 " + ready + ";s3 0 0 " + ready + ";");
      Checks.due("SLOW, ready " + ready, x.mark(2, 0), -ready);
      Checks.due("LETTER of ship 0, ready " + ready, x.mark(4, 0), -ready);
      Checks.due("LETTER of ship 1, ready " + ready, x.mark(4, 1), 1 - ready);
      Checks.due("LETTER of ship 2, ready " + ready, x.mark(4, 2), 5 - ready);
    }
  }

  private static void marksOfTheLeastAndTheMost() {
    String ships = "s0 0 0 0;s0 60 0 11;s60 0 9 11;s60 60 9 0;s60 0 9 11;";
    SilverFleets x = Checks.told("w0 0;".repeat(12) + ships);
    int[][] due = {
        {0, 0, 0, 0, 0, 0},
        {0, 0, -11, 0, -10, 0},
        {60, 69, 49, 138, 51, 60},
        {60, 69, 60, 138, 63, 60},
        {60, 69, 49, 138, 53, 60}};
    for (int s = 0; s < 5; s++) {
      for (int kind = 0; kind <= 5; kind++) {
        Checks.due("mark(" + kind + ", " + s + ")", x.mark(kind, s), due[s][kind]);
      }
    }
    for (int w = 1; w <= 12; w++) {
      x.waits();
      Checks.due("PILOT in week " + w, x.mark(5, 4), 60 + w);
      Checks.due("SHIP in week " + w, x.mark(0, 4), 60);
    }
  }

  private static void marksWherever() {
    // LISTED now: 0 (RAISED), 30 (WRECKED), 40 (TAKEN), 11 (HOME), 27 (PORT); GUNS 0 0 0 2 5; READY 0 0 1 2 3
    int[][] due = {
        {0, 0, 0, 0, 0, 2},
        {30, 30, 30, 60, 31, 32},
        {40, 40, 39, 80, 41, 42},
        {11, 13, 9, 26, 12, 13},
        {27, 32, 24, 64, 28, 29}};
    for (int s = 0; s < 5; s++) {
      for (int kind = 0; kind <= 5; kind++) {
        SilverFleets x = new SilverFleets();
        Twins.everywhere(x);
        Checks.due("mark(" + kind + ", " + s + ") wherever", x.mark(kind, s), due[s][kind]);
      }
    }
  }

  private static void marksChangeTheTraceAlone() {
    for (int kind = 0; kind <= 5; kind++) {
      SilverFleets calm = new SilverFleets();
      SilverFleets bold = new SilverFleets();
      Twins.over(calm);
      Twins.over(bold);
      bold.mark(kind, 4);
      for (int what = 0; what < 6; what++) {
        Checks.due("mark(" + kind + ", 4): now(" + what + ")", bold.now(what), calm.now(what));
        Checks.due("mark(" + kind + ", 4): count(" + what + ")", bold.count(what), calm.count(what));
        Checks.due("mark(" + kind + ", 4): ship(4, " + what + ")", bold.ship(4, what), calm.ship(4, what));
      }
    }
  }

  // "numbers in brackets come to THE TRACE as often as mark() asks that body"
  private static void traceOfEveryKind() {
    long[] of = {1, 11, 101, 1011, 10101, 100001};
    for (int kind = 0; kind <= 5; kind++) {
      SilverFleets x = Checks.told("w0 0;s9 9 9 9;s1 1 1 1;");
      Checks.due("trace at first", x.trace(), 0);
      for (int i = 1; i <= 400; i++) {
        x.mark(kind, i % 2);
      }
      Checks.due("trace of 400 marks of kind " + kind, x.trace(), 400 * of[kind]);
      x.mark(kind, 2);
      x.mark(6, 0);
      x.mark(-1, 0);
      Checks.due("refused ones leave none", x.trace(), 400 * of[kind]);
      Checks.due("asking leaves none", x.trace(), 400 * of[kind]);
    }
  }

  // "IMAGES 0, 1"
  private static void imagesZeroAndOne() {
    for (int image : new int[] {-1, 2, 3, Twins.FAR_UP, Twins.FAR_DOWN}) {
      refused("keep(" + image + ")", x -> x.keep(image), BAD);
      refused("back(" + image + ")", x -> x.back(image), BAD);
    }
    for (int image = 0; image <= 1; image++) {
      SilverFleets x = Checks.told("w0 0;w0 0;w0 0;s5 5 0 0;");
      x.waits();
      Checks.due("keep(" + image + ")", x.keep(image), 1);
      x.waits();
      x.waits();
      Checks.due("back(" + image + ")", x.back(image), 1);
      Checks.due("the week then", x.now(0), 1);
      Checks.due("back to the other, which is none", x.back(1 - image), STATE);
    }
  }

  // "STATE: none was kept."
  private static void imagesNotKept() {
    refused("back(1)", x -> x.back(1), STATE);
    Twins.refused("back(1) when over", Twins::over, x -> x.back(1), STATE);
    Twins.refused("back(2) where none was kept", x -> x.type('w'), x -> x.back(2), BAD);
    Twins.refused("back(0) of a new object", x -> x.type('w'), x -> x.back(0), STATE);
    Twins.refused("back(1) of a new object", x -> x.type('w'), x -> x.back(1), STATE);
  }

  // "(Read anew: .. IMAGES are gone.)"
  private static void imagesAreGone() {
    String[] texts = {"", "   ", "k1;", "w0 0;s1 1 1 1;"};
    for (String text : texts) {
      SilverFleets x = new SilverFleets();
      Twins.everywhere(x);
      x.keep(1);
      x.clear();
      Checks.type(x, text);
      x.season();
      Checks.due("gone: back(0) behind '" + text + "'", x.back(0), STATE);
      Checks.due("gone: back(1) behind '" + text + "'", x.back(1), STATE);
      Checks.due("keep(0) anew", x.keep(0), 0);
      Checks.due("back(0) anew", x.back(0), 0);
      Checks.due("back(1) is gone still", x.back(1), STATE);
    }
  }

  private static void imagesStayBehindAFault() {
    SilverFleets x = new SilverFleets();
    Twins.everywhere(x);
    x.keep(1);
    x.waits();
    Checks.due("a fault", x.season(), -16);
    Checks.due("back(0)", x.back(0), 1);
    Checks.due("where ship 3 was", x.ship(3, 4), 0);
    Checks.due("back(1)", x.back(1), 2);
    Checks.due("where ship 3 is", x.ship(3, 4), 1);
  }

  private static void imagesOfANewObject() {
    SilverFleets x = new SilverFleets();
    Checks.due("keep(0) of nothing", x.keep(0), 0);
    Checks.due("back(0) to nothing", x.back(0), 0);
    Checks.due("it is over", x.now(4), 1);
    Checks.type(x, "w0 0;");
    x.season();
    Checks.due("gone", x.back(0), STATE);
  }

  // "what may be UNDONE"
  private static void imagesOfTenAndOfNone() {
    for (int kept : new int[] {0, 1, 9, 10, 11}) {
      SilverFleets x = Checks.told("s60 60 0 0;");
      for (int i = 0; i < kept; i++) {
        x.throwsOff(0, 1);
      }
      x.keep(0);
      for (int i = 0; i < 13; i++) {
        x.throwsOff(0, 2);
      }
      int known = Math.min(kept, 10);
      x.back(0);
      Checks.due("known in the image of " + kept, x.count(3), known);
      Checks.due("hidden in it", x.ship(0, 1), 60 - kept);
      for (int i = 1; i <= known; i++) {
        Checks.due("undo " + i + " of " + kept, x.undo(), known - i);
        Checks.due("hidden then", x.ship(0, 1), 60 - kept + i);
      }
      Checks.due("none more", x.undo(), STATE);
      x.back(0);
      Checks.due("known in it again", x.count(3), known);
      Checks.due("hidden in it again", x.ship(0, 1), 60 - kept);
    }
  }

  private static void imagesStandApart() {
    SilverFleets x = Checks.told("w0 0;w0 0;s60 60 0 0;");
    x.keep(0);
    x.waits();
    x.throwsOff(0, 10);
    x.keep(1);
    Checks.due("back(0)", x.back(0), 0);
    x.throwsOff(0, 30);
    Checks.due("back(1)", x.back(1), 1);
    Checks.due("hidden in image 1", x.ship(0, 1), 50);
    Checks.due("undone in image 1", x.undo(), 1);
    Checks.due("back(0)", x.back(0), 0);
    Checks.due("hidden in image 0", x.ship(0, 1), 60);
    Checks.due("none to undo in image 0", x.undo(), STATE);
    x.back(1);
    Checks.due("kept over image 0", x.keep(0), 1);
    x.waits();
    Checks.due("over", x.now(4), 1);
    Checks.due("kept when over", x.keep(1), 2);
    x.undo();
    Checks.due("back to over", x.back(1), 2);
    Checks.due("it is over again", x.now(4), 1);
    Checks.due("back(0)", x.back(0), 1);
    Checks.due("not over", x.now(4), 0);
  }

  private static void imagesAreNotUndone() {
    SilverFleets x = Checks.told("w0 0;w0 0;s9 9 0 0;");
    x.keep(0);
    x.waits();
    x.keep(1);
    Checks.due("undo of waits", x.undo(), 0);
    Checks.due("the image stays", x.back(1), 1);
    x.back(0);
    Checks.due("back isn't undone", x.undo(), STATE);
    Checks.due("keeping again changes nothing", x.keep(0), 0);
    Checks.due("none to undo", x.count(3), 0);
  }

  // "nothing else"
  private static void imagesKeepNothingElse() {
    SilverFleets x = new SilverFleets();
    Twins.everywhere(x);
    long trace = x.trace();
    Checks.type(x, "5");
    x.keep(1);
    x.mark(5, 0);
    x.type(';');
    x.back(1);
    Checks.due("the trace stays", x.trace(), trace + 100001);
    Checks.due("THE TEXT stays", x.count(4), 8);
    x.back(0);
    Checks.due("weeks stay", x.count(0), 4);
    Checks.due("ships stay", x.count(1), 5);
    Checks.due("the share stays", x.count(2), 7);
    Checks.due("and is read", x.season(), 2);
    Checks.due("share of it", x.count(2), 5);
  }

  // "(Read anew: as told, WEEK 0, all in PORT, nothing to be UNDONE, ..)"
  private static void readAnew() {
    SilverFleets x = new SilverFleets();
    Twins.over(x);
    x.clear();
    Checks.type(x, "w1 1;s1 2 3 0;s4 5 6 1;");
    Checks.due("three items", x.season(), 3);
    int[] now = {0, 3, 0, 0, 0, 0};
    for (int what = 0; what < now.length; what++) {
      Checks.due("anew: now(" + what + ")", x.now(what), now[what]);
    }
    int[] counts = {1, 2, 2, 0, 0};
    for (int what = 0; what < counts.length; what++) {
      Checks.due("anew: count(" + what + ")", x.count(what), counts[what]);
    }
    int[][] ships = {{1, 2, 3, 0, 0}, {4, 5, 6, 1, 0}};
    for (int s = 0; s < 2; s++) {
      for (int what = 0; what < 5; what++) {
        Checks.due("anew: ship(" + s + ", " + what + ")", x.ship(s, what), ships[s][what]);
      }
    }
    Checks.due("anew: ship(2, 0)", x.ship(2, 0), BAD);
    Checks.due("anew: undo()", x.undo(), STATE);
    Checks.due("anew: the trace is as it was", x.trace(), 1011);
  }

  // "0 WEEKS, .. 4 bytes of THE TEXT. BAD."
  private static void countAndItsWhat() {
    for (int what : new int[] {-1, 5, 6, Twins.FAR_UP, Twins.FAR_DOWN}) {
      refused("count(" + what + ")", x -> x.count(what), BAD);
    }
    int[] counts = {4, 5, 7, 8, 6};
    for (int i = 0; i < counts.length; i++) {
      int what = i;
      refused("count(" + what + ")", x -> x.count(what), counts[what]);
    }
    Twins.refused("count(3) of ten", Twins::over, x -> x.count(3), 10);
    Twins.refused("trace()", Twins::over, x -> x.trace(), 1011);
  }
}
