/** Promises 1 to 6 and 24: a new object, THE TEXT and what it tells, counts. */
public final class SeasonTest {
  private static final int BAD = SilverFleets.BAD;
  private static final int STATE = SilverFleets.STATE;
  private static final int FULL = SilverFleets.FULL;

  public static void main(String[] args) {
    newObject();
    typing();
    clearing();
    textsThatTell();
    textsWithFaults();
    faultChangesNothing();
    readAnew();
    weeks();
    ships();
    counts();
    Checks.end();
  }

  private static void newObject() {
    SilverFleets x = new SilverFleets();
    int[] counts = {0, 0, 2, 0, 0};
    for (int what = 0; what < counts.length; what++) {
      Checks.due("new: count(" + what + ")", x.count(what), counts[what]);
    }
    int[] now = {0, 0, 0, 0, 1, 0};
    for (int what = 0; what < now.length; what++) {
      Checks.due("new: now(" + what + ")", x.now(what), now[what]);
    }
    Checks.due("new: trace()", x.trace(), 0);
    Checks.due("new: week(0, 0)", x.week(0, 0), BAD);
    Checks.due("new: ship(0, 0)", x.ship(0, 0), BAD);
    Checks.due("new: back(0)", x.back(0), STATE);
    Checks.due("new: back(1)", x.back(1), STATE);
    Checks.due("new: undo()", x.undo(), STATE);
    Checks.due("new: clear()", x.clear(), 0);
  }

  private static void typing() {
    SilverFleets x = new SilverFleets();
    Checks.due("type(-1)", x.type(-1), BAD);
    Checks.due("type(256)", x.type(256), BAD);
    Checks.due("type(min)", x.type(Integer.MIN_VALUE), BAD);
    Checks.due("type(max)", x.type(Integer.MAX_VALUE), BAD);
    Checks.due("count(4) behind BAD", x.count(4), 0);
    Checks.due("type(0)", x.type(0), 1);
    Checks.due("type(255)", x.type(255), 2);
    for (int n = 3; n <= 180; n++) {
      Checks.due("type(32)", x.type(32), n);
    }
    Checks.due("type(32) beyond 180", x.type(32), FULL);
    Checks.due("BAD ahead of FULL", x.type(256), BAD);
    Checks.due("count(4) full", x.count(4), 180);
  }

  private static void clearing() {
    SilverFleets x = new SilverFleets();
    Checks.type(x, "w0 0;w0");
    Checks.due("clear()", x.clear(), 7);
    Checks.due("clear() again", x.clear(), 0);
    Checks.due("type behind clear()", x.type('k'), 1);
    Checks.type(x, "7;");
    Checks.due("the text behind clear()", x.season(), 1);
    Checks.due("share of that text", x.count(2), 7);
  }

  private static void tells(String text, int items, int weeks, int ships, int share) {
    SilverFleets x = new SilverFleets();
    Checks.type(x, text);
    Checks.due("season() of '" + text + "'", x.season(), items);
    Checks.due("weeks of '" + text + "'", x.count(0), weeks);
    Checks.due("ships of '" + text + "'", x.count(1), ships);
    Checks.due("share of '" + text + "'", x.count(2), share);
    Checks.due("bytes behind '" + text + "'", x.count(4), 0);
  }

  private static void textsThatTell() {
    tells("", 0, 0, 0, 2);
    tells("    ", 0, 0, 0, 2);
    tells("w0 0;", 1, 1, 0, 2);
    tells("w10 40;", 1, 1, 0, 2);
    tells("s60 60 9 11;", 1, 0, 1, 2);
    tells("k0;", 1, 0, 0, 0);
    tells("k10;", 1, 0, 0, 10);
    tells("  w 0   0 ;  s 1 2 3 4 ; k 5 ;  ", 3, 1, 1, 5);
    tells("k1;s0 0 0 0;w0 0;s0 0 0 0;w1 1;", 5, 2, 2, 1);
    tells("w0 0;".repeat(12), 12, 12, 0, 2);
    tells("s0 0 0 0;".repeat(5), 5, 0, 5, 2);
    tells("s60 60 9 9;".repeat(5) + "w1 2;".repeat(12) + "k3;", 18, 12, 5, 3);
  }

  private static void fault(String text, int place) {
    SilverFleets x = new SilverFleets();
    Checks.type(x, text);
    Checks.due("season() of '" + text + "'", x.season(), -10 - place);
    Checks.due("bytes behind '" + text + "'", x.count(4), text.length());
    Checks.due("weeks behind '" + text + "'", x.count(0), 0);
    Checks.due("ships behind '" + text + "'", x.count(1), 0);
    Checks.due("share behind '" + text + "'", x.count(2), 2);
  }

  private static void textsWithFaults() {
    // letters that begin no item
    fault("x", 0);
    fault("ww0 0;", 0);
    fault("wa0 0;", 0);
    fault("wz0 0;", 0);
    fault("sw0 0;", 0);
    fault("w0 0;wk1;", 5);
    fault("  kk", 2);
    // a token that can't stand there
    fault(";", 0);
    fault("7", 0);
    fault("w0 0;;", 5);
    fault("w0 0;5", 5);
    fault("w;", 1);
    fault("w 0;", 3);
    fault("w0 0 0;", 5);
    fault("s0 0 0;", 6);
    fault("s0 0 0 w;", 7);
    fault("s0 0 0 0 0;", 9);
    fault("k1 1;", 3);
    fault("k1k;", 2);
    fault("w5w", 2);
    // one too many
    fault("w0 0;".repeat(13), 60);
    fault("w0 0;".repeat(12) + "w", 60);
    fault("s0 0 0 0;".repeat(6), 45);
    fault("k1;w0 0;k2;", 8);
    fault("k1;k", 3);
    // numbers beyond what they may be
    fault("w11 0;", 1);
    fault("w10 41;", 4);
    fault("w0 99;", 3);
    fault("s61 0 0 0;", 1);
    fault("s0 61 0 0;", 3);
    fault("s0 0 10 0;", 5);
    fault("s0 0 0 12;", 7);
    fault("k11;", 1);
    // numbers above 99, with a 0 ahead of others, or no numbers
    fault("w100 0;", 1);
    fault("w00 0;", 1);
    fault("w0 00;", 3);
    fault("w0 09;", 3);
    fault("w0 100;", 3);
    fault("w4294967296 0;", 1);
    fault("w18446744073709551616 0;", 1);
    fault("w0 0;100", 5);
    // bytes that begin no token
    fault("W0 0;", 0);
    fault("w0\t0;", 2);
    fault("w0\n0;", 2);
    fault("w-1 0;", 1);
    fault("w0,0;", 2);
    fault("w0 0:", 4);
    fault("w0 0;{", 5);
    fault("w0 0;`", 5);
    fault("\u0000", 0);
    fault("w0 0; \u00ff", 6);
    fault("w0 0/;", 4);
    // a text that ends too early
    fault("w", 1);
    fault("w  ", 3);
    fault("w0", 2);
    fault("w0 0", 4);
    fault("w0 0  ", 6);
    fault("w0 0;s1 2 3", 11);
    fault("k", 1);
    // the first of two
    fault("w11 100;", 1);
    fault("x W", 0);
    fault("w 0 ! x", 4);
  }

  private static void faultChangesNothing() {
    SilverFleets x = Checks.told("w1 2;w3 4;s5 6 7 1;k8;");
    x.waits();
    x.keep(1);
    x.throwsOff(0, 1);
    Checks.type(x, "w5 5;s1 1 1 1;k1;!");
    Checks.due("a fault at the end", x.season(), -27);
    Checks.due("fault: count(4)", x.count(4), 18);
    Checks.due("fault: count(0)", x.count(0), 2);
    Checks.due("fault: count(1)", x.count(1), 1);
    Checks.due("fault: count(2)", x.count(2), 8);
    Checks.due("fault: count(3)", x.count(3), 2);
    Checks.due("fault: week(0, 0)", x.week(0, 0), 1);
    Checks.due("fault: week(1, 1)", x.week(1, 1), 4);
    Checks.due("fault: ship(0, 0)", x.ship(0, 0), 5);
    Checks.due("fault: ship(0, 1)", x.ship(0, 1), 5);
    Checks.due("fault: ship(0, 2)", x.ship(0, 2), 7);
    Checks.due("fault: ship(0, 3)", x.ship(0, 3), 1);
    Checks.due("fault: now(0)", x.now(0), 1);
    Checks.due("fault: season() again", x.season(), -27);
    Checks.due("fault: back(1)", x.back(1), 1);
    Checks.due("fault: ship(0, 1) back", x.ship(0, 1), 6);
  }

  private static void readAnew() {
    SilverFleets x = Checks.told("w0 0;w10 0;s10 0 0 0;s20 5 0 0;s30 0 0 0;k9;");
    x.sails(1, 0);
    x.waits();
    x.sails(2, 0);
    x.keep(0);
    x.keep(1);
    x.mark(0, 0);
    Checks.type(x, "w4 4;s7 8 9 0;");
    Checks.due("anew: season()", x.season(), 2);
    Checks.due("anew: weeks", x.count(0), 1);
    Checks.due("anew: ships", x.count(1), 1);
    Checks.due("anew: share", x.count(2), 2);
    Checks.due("anew: undone", x.count(3), 0);
    Checks.due("anew: bytes", x.count(4), 0);
    int[] now = {0, 1, 0, 0, 0, 0};
    for (int what = 0; what < now.length; what++) {
      Checks.due("anew: now(" + what + ")", x.now(what), now[what]);
    }
    Checks.due("anew: ship(0, 4)", x.ship(0, 4), 0);
    Checks.due("anew: ship(1, 4)", x.ship(1, 4), BAD);
    Checks.due("anew: week(1, 0)", x.week(1, 0), BAD);
    Checks.due("anew: back(0)", x.back(0), STATE);
    Checks.due("anew: back(1)", x.back(1), STATE);
    Checks.due("anew: undo()", x.undo(), STATE);
    Checks.due("anew: the trace stays", x.trace(), 1);
    Checks.due("an empty text tells that there is nothing", x.season(), 0);
    Checks.due("empty: weeks", x.count(0), 0);
    Checks.due("empty: ships", x.count(1), 0);
    Checks.due("empty: over", x.now(4), 1);
  }

  private static void weeks() {
    SilverFleets x = Checks.told("w10 40;w0 1;s1 1 1 1;");
    Checks.due("week(0, 0)", x.week(0, 0), 10);
    Checks.due("week(0, 1)", x.week(0, 1), 40);
    Checks.due("week(1, 0)", x.week(1, 0), 0);
    Checks.due("week(1, 1)", x.week(1, 1), 1);
    int[][] bad = {{2, 0}, {-1, 0}, {0, 2}, {0, -1}, {12, 0}, {Integer.MAX_VALUE, 0}, {Integer.MIN_VALUE, 1}};
    for (int[] b : bad) {
      Checks.due("week(" + b[0] + ", " + b[1] + ")", x.week(b[0], b[1]), BAD);
    }
  }

  private static void ships() {
    SilverFleets x = Checks.told("w0 0;s60 59 9 11;s1 2 3 4;");
    int[][] told = {{60, 59, 9, 11, 0}, {1, 2, 3, 4, 0}};
    for (int s = 0; s < 2; s++) {
      for (int what = 0; what < 5; what++) {
        Checks.due("ship(" + s + ", " + what + ")", x.ship(s, what), told[s][what]);
      }
    }
    int[][] bad = {{2, 0}, {-1, 0}, {0, 5}, {0, -1}, {5, 0}, {Integer.MAX_VALUE, 0}, {Integer.MIN_VALUE, 4}};
    for (int[] b : bad) {
      Checks.due("ship(" + b[0] + ", " + b[1] + ")", x.ship(b[0], b[1]), BAD);
    }
  }

  private static void counts() {
    SilverFleets x = Checks.told("w0 0;w0 0;w0 0;s1 1 1 1;s1 1 1 1;k4;");
    Checks.type(x, "w ");
    x.waits();
    int[] counts = {3, 2, 4, 1, 2};
    for (int what = 0; what < counts.length; what++) {
      Checks.due("count(" + what + ")", x.count(what), counts[what]);
    }
    Checks.due("count(5)", x.count(5), BAD);
    Checks.due("count(-1)", x.count(-1), BAD);
  }
}
