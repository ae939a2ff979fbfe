/** The bounds of the document's part 1 and of promises 1 to 6: THE TEXT, TOKENS, ITEMS, FAULT, weeks and ships. */
public final class TextBoundsTest {
  private static final int BAD = SilverFleets.BAD;
  private static final int STATE = SilverFleets.STATE;
  private static final int FULL = SilverFleets.FULL;
  private static final int MOST_BYTES = 180;

  public static void main(String[] args) {
    newObjectHasNone();
    bytesOfTheText();
    textOf180();
    textIsFull();
    textIsEmpty();
    textTellsAll();
    emptyTextTellsNothing();
    numbersOfAnItem();
    twelveWeeks();
    fiveShips();
    shareOnceAtMost();
    shareAtFirst();
    firstAndLastLetters();
    bytesBesideDigits();
    bytesBesideBlankAndEnd();
    everyByteAlone();
    numbersAbove99();
    zeroAhead();
    numbersOfManyDigits();
    lettersThatBeginNoItem();
    tokensThatCannotStandThere();
    endsTooEarly();
    placesOfFaults();
    firstOfSeveralFaults();
    faultChangesNothing();
    faultLeavesNoTrace();
    weekAndItsWhat();
    shipAndItsWhat();
    Checks.end();
  }

  private static void reads(String text, int answer) {
    SilverFleets x = new SilverFleets();
    Checks.type(x, text);
    Checks.due("season() of '" + text + "'", x.season(), answer);
    Checks.due("bytes behind '" + text + "'", x.count(4), answer < 0 ? text.length() : 0);
  }

  /** The place of the fault in a text that a new object reads. */
  private static void fault(String text, int place) {
    reads(text, -10 - place);
  }

  private static String blanks(int many) {
    return " ".repeat(many);
  }

  // "As told; no WEEKS, no SHIPS."
  private static void newObjectHasNone() {
    SilverFleets x = new SilverFleets();
    Checks.due("new: week(0, 0)", x.week(0, 0), BAD);
    Checks.due("new: ship(0, 4)", x.ship(0, 4), BAD);
    Checks.due("new: it is over", x.now(4), 1);
    Checks.due("new: waits()", x.waits(), STATE);
    Checks.due("new: sails(1, 0)", x.sails(1, 0), BAD);
    Checks.due("new: worth(0, 0)", x.worth(0, 0), BAD);
    Checks.due("new: plan(0)", x.plan(0), BAD);
    Checks.due("new: plan(-1)", x.plan(-1), 0);
    Checks.due("new: late()", x.late(), 0);
    Checks.due("new: game(0, 0, 1, 0)", x.game(0, 0, 1, 0), BAD);
    Checks.due("new: odds(1, 0, 0, 0)", x.odds(1, 0, 0, 0), BAD);
    Checks.due("new: register(0, 0)", x.register(0, 0), 1);
    Checks.due("new: mark(0, 0)", x.mark(0, 0), SilverFleets.NO);
    Checks.due("new: lists(0, 1)", x.lists(0, 1), BAD);
    Checks.due("new: hides(0, 1)", x.hides(0, 1), BAD);
    Checks.due("new: throwsOff(0, 1)", x.throwsOff(0, 1), BAD);
    Checks.due("new: raises(0)", x.raises(0), BAD);
    Checks.due("new: undo()", x.undo(), STATE);
    Checks.due("new: back(0)", x.back(0), STATE);
    Checks.due("new: clear()", x.clear(), 0);
    Checks.due("new: trace()", x.trace(), 0);
    Checks.due("new: keep(0)", x.keep(0), 0);
    Checks.due("new: back(0) of that", x.back(0), 0);
  }

  // "A byte (0 .. 255) comes to THE TEXT: how many it has. BAD; FULL."
  private static void bytesOfTheText() {
    SilverFleets x = new SilverFleets();
    for (int c = 0; c <= 179; c++) {
      Checks.due("type(" + c + ")", x.type(c), c + 1);
    }
    x.clear();
    for (int c = 180; c <= 255; c++) {
      Checks.due("type(" + c + ")", x.type(c), c - 179);
    }
    int[] bad = {-1, 256, -256, 256 + 'w', 'w' - 256, 65536 + 'w', Twins.FAR_UP, Twins.FAR_DOWN};
    for (int c : bad) {
      Twins.refused("type(" + c + ")", Twins::everywhere, y -> y.type(c), BAD);
    }
  }

  // "a text (180 bytes at most)"
  private static void textOf180() {
    reads("k5;" + blanks(177), 1);
    reads(blanks(177) + "k5;", 1);
    reads(blanks(180), 0);
    SilverFleets x = new SilverFleets();
    Checks.type(x, blanks(178) + "k5");
    Checks.due("type(';') as byte 181", x.type(';'), FULL);
    Checks.due("it didn't come", x.season(), -190);
    x.clear();
    Checks.type(x, blanks(177) + "k5");
    Checks.due("type(';') as byte 180", x.type(';'), 180);
    Checks.due("it came", x.season(), 1);
    Checks.due("share", x.count(2), 5);
    Checks.due("type() behind a full text that was read", x.type('w'), 1);
  }

  private static void textIsFull() {
    Twins.Way full = x -> Checks.type(x, blanks(176) + "k5; ");
    Twins.refused("type(32) when full", full, x -> x.type(32), FULL);
    Twins.refused("type(0) when full", full, x -> x.type(0), FULL);
    Twins.refused("type(255) when full", full, x -> x.type(255), FULL);
    Twins.refused("type(-1) when full: BAD is ahead of FULL", full, x -> x.type(-1), BAD);
    Twins.refused("type(256) when full: BAD is ahead of FULL", full, x -> x.type(256), BAD);
    SilverFleets x = new SilverFleets();
    Checks.type(x, blanks(179));
    Checks.due("one byte less than full", x.type(32), MOST_BYTES);
    Checks.due("count(4)", x.count(4), MOST_BYTES);
  }

  // "THE TEXT is empty: how many bytes it had."
  private static void textIsEmpty() {
    SilverFleets x = new SilverFleets();
    Checks.due("clear() of none", x.clear(), 0);
    x.type('w');
    Checks.due("clear() of one", x.clear(), 1);
    Checks.due("count(4) behind clear()", x.count(4), 0);
    Checks.due("clear() again", x.clear(), 0);
    Checks.type(x, blanks(180));
    Checks.due("clear() of a full one", x.clear(), 180);
    Checks.due("type() behind it", x.type('k'), 1);
    x.clear();
    shorterOverLonger("w1 2;", "w", -11);
    shorterOverLonger("w1 2;", "", 0);
    shorterOverLonger("k10;", "k1", -12);
    shorterOverLonger("kkk", "k", -11);
    shorterOverLonger("k1;k1;", "k1;", 1);
    shorterOverLonger("k1     ;", "k1 ", -13);
    Twins.Way emptied = y -> {
      Twins.everywhere(y);
      y.clear();
    };
    Twins.refused("clear() of an empty text", emptied, y -> y.clear(), 0);
  }

  /** What was typed earlier isn't read again. */
  private static void shorterOverLonger(String longer, String shorter, int answer) {
    SilverFleets x = new SilverFleets();
    Checks.type(x, longer);
    x.clear();
    Checks.type(x, shorter);
    Checks.due("'" + shorter + "' behind '" + longer + "'", x.season(), answer);
  }

  // "THE TEXT tells all, and is empty then"
  private static void textTellsAll() {
    SilverFleets x = Checks.told("w1 2;s3 4 5 6;k7;");
    Checks.due("empty then", x.count(4), 0);
    Checks.type(x, "s8 9 1 0;");
    Checks.due("one item", x.season(), 1);
    Checks.due("no week is left of the earlier text", x.count(0), 0);
    Checks.due("week(0, 0)", x.week(0, 0), BAD);
    Checks.due("one ship", x.count(1), 1);
    Checks.due("ship(0, 0)", x.ship(0, 0), 8);
    Checks.due("the share is 2 again", x.count(2), 2);
    Checks.due("it is over", x.now(4), 1);
  }

  private static void emptyTextTellsNothing() {
    SilverFleets x = new SilverFleets();
    Twins.over(x);
    x.clear();
    Checks.due("season() of an empty text", x.season(), 0);
    int[] counts = {0, 0, 2, 0, 0};
    for (int what = 0; what < counts.length; what++) {
      Checks.due("empty: count(" + what + ")", x.count(what), counts[what]);
    }
    int[] now = {0, 0, 0, 0, 1, 0};
    for (int what = 0; what < now.length; what++) {
      Checks.due("empty: now(" + what + ")", x.now(what), now[what]);
    }
    Checks.due("empty: back(0)", x.back(0), STATE);
    Checks.due("empty: undo()", x.undo(), STATE);
  }

  // "STORM (0 .. 10 of 10), PIRATES (0 .. 40 guns)", "LISTED, HIDDEN (0 .. 60 ..), GUNS (0 .. 9), READY (.. 0 .. 11)"
  private static void numbersOfAnItem() {
    String[] heads = {"w", "w7 ", "s", "s7 ", "s7 7 ", "s7 7 7 ", "k"};
    String[] tails = {" 7;", ";", " 7 7 7;", " 7 7;", " 7;", ";", ";"};
    int[] most = {10, 40, 60, 60, 9, 11, 10};
    for (int i = 0; i < heads.length; i++) {
      for (int n = 0; n <= 99; n++) {
        int answer = n <= most[i] ? 1 : -10 - heads[i].length();
        reads(heads[i] + n + tails[i], answer);
        reads("w1 1;" + heads[i] + n + tails[i], answer < 0 ? answer - 5 : 2);
      }
    }
    SilverFleets x = Checks.told("w10 40;w0 0;s60 60 9 11;s0 0 0 0;k10;");
    int[][] weeks = {{10, 40}, {0, 0}};
    int[][] ships = {{60, 60, 9, 11, 0}, {0, 0, 0, 0, 0}};
    for (int i = 0; i < 2; i++) {
      for (int what = 0; what < 2; what++) {
        Checks.due("most and least: week(" + i + ", " + what + ")", x.week(i, what), weeks[i][what]);
      }
      for (int what = 0; what < 5; what++) {
        Checks.due("most and least: ship(" + i + ", " + what + ")", x.ship(i, what), ships[i][what]);
      }
    }
    Checks.due("most: share", x.count(2), 10);
    Checks.due("least: share", Checks.told("k0;").count(2), 0);
  }

  // "WEEKS 0 .. as many as are told (12 at most)", "a thirteenth week"
  private static void twelveWeeks() {
    StringBuilder twelve = new StringBuilder();
    for (int w = 0; w < 12; w++) {
      twelve.append('w').append(w % 11).append(' ').append(w + 29).append(';');
    }
    SilverFleets x = Checks.told(twelve.toString());
    Checks.due("twelve weeks", x.count(0), 12);
    for (int w = 0; w < 12; w++) {
      Checks.due("week(" + w + ", 0)", x.week(w, 0), w % 11);
      Checks.due("week(" + w + ", 1)", x.week(w, 1), w + 29);
    }
    Checks.due("week(12, 0)", x.week(12, 0), BAD);
    String many = "w0 0;".repeat(12);
    reads(many, 12);
    fault(many + "w", 60);
    fault(many + "w0 0;", 60);
    fault(many + "  w0 0;", 62);
    fault(many + "s0 0 0 0;k1;w11 0;", 72);
    reads(many + "s0 0 0 0;k1;", 14);
  }

  // "SHIPS 0 .. (5 of them at most)", "a sixth ship"
  private static void fiveShips() {
    StringBuilder five = new StringBuilder();
    for (int s = 0; s < 5; s++) {
      five.append('s').append(s + 10).append(' ').append(s + 20).append(' ').append(s + 3).append(' ').append(s + 7);
      five.append(';');
    }
    SilverFleets x = Checks.told(five.toString());
    Checks.due("five ships", x.count(1), 5);
    for (int s = 0; s < 5; s++) {
      int[] told = {s + 10, s + 20, s + 3, s + 7, 0};
      for (int what = 0; what < 5; what++) {
        Checks.due("ship(" + s + ", " + what + ")", x.ship(s, what), told[what]);
      }
    }
    Checks.due("ship(5, 0)", x.ship(5, 0), BAD);
    Checks.due("all in port", x.now(1), 31);
    String many = "s0 0 0 0;".repeat(5);
    reads(many, 5);
    fault(many + "s", 45);
    fault(many + "s0 0 0 0;", 45);
    fault(many + " s61 0 0 0;", 46);
    fault(many + "w0 0;k1;s0 0 0 0;", 53);
    reads(many + "w0 0;k1;", 7);
  }

  // "k N (the king's share; once at most)", "k again"
  private static void shareOnceAtMost() {
    fault("k1;k", 3);
    fault("k1;k1;", 3);
    fault("k2;k3;", 3);
    fault("k0;w0 0; k0;", 9);
    fault("k10;k11;", 4);
    SilverFleets x = Checks.told("k4;");
    Checks.type(x, "k5;");
    Checks.due("k in the next text", x.season(), 1);
    Checks.due("share", x.count(2), 5);
    Checks.type(x, "k6;!");
    Checks.due("k in a text with a fault", x.season(), -13);
    Checks.due("share stays", x.count(2), 5);
    x.clear();
    Checks.type(x, "k7;");
    Checks.due("k behind the text with a fault", x.season(), 1);
    Checks.due("share then", x.count(2), 7);
  }

  // "SHARE of the king (0 .. 10 of 10; 2 at first)"
  private static void shareAtFirst() {
    Checks.due("at first", new SilverFleets().count(2), 2);
    Checks.due("where it isn't told", Checks.told("w0 0;").count(2), 2);
    for (int share = 0; share <= 10; share++) {
      Checks.due("k" + share, Checks.told("k" + share + ";").count(2), share);
    }
  }

  // "TOKENS are letters a .. z side by side": beside w they belong to it, other bytes do not
  private static void firstAndLastLetters() {
    fault("wa0 0;", 0);
    fault("wz0 0;", 0);
    fault("w`0 0;", 1);
    fault("w{0 0;", 1);
    fault("wA0 0;", 1);
    fault("wZ0 0;", 1);
    fault("W0 0;", 0);
    fault("S0 0 0 0;", 0);
    fault("K0;", 0);
    fault("w0 0;a", 5);
    fault("w0 0;z", 5);
  }

  private static void bytesBesideDigits() {
    fault("w/0 0;", 1);
    fault("w:0 0;", 1);
    fault("w0/ 0;", 2);
    fault("w0: 0;", 2);
    reads("w9 0;", 1);
    reads("w0 9;", 1);
    // digits on both sides of another byte are two NUMBERS
    fault("w1.5 0;", 2);
    fault("w-1 0;", 1);
    fault("w+1 0;", 1);
  }

  // "blanks (32) between TOKENS", "ended by ;"
  private static void bytesBesideBlankAndEnd() {
    fault("w0\u001f0;", 2);
    fault("w0!0;", 2);
    fault("w0\u00a00;", 2);
    fault("w0\t0;", 2);
    fault("w0\n0;", 2);
    fault("w0\r0;", 2);
    fault("w0 0:", 4);
    fault("w0 0<", 4);
    fault("w0 0,", 4);
    reads("w 0   0    ;   ", 1);
    reads("   w0 0;", 1);
    reads("w0 0;w0 0;", 2);
    // a blank within letters or a number makes two TOKENS
    fault("w w0 0;", 2);
    fault("w1 0 5;", 5);
    reads("w1 0;", 1);
    fault("w10;", 3);
    fault("k1 0;", 3);
    reads("k10;", 1);
  }

  private static void everyByteAlone() {
    for (int c = 0; c <= 255; c++) {
      SilverFleets x = new SilverFleets();
      x.type(c);
      int answer = c == 32 ? 0 : c == 'w' || c == 's' || c == 'k' ? -11 : -10;
      Checks.due("season() of byte " + c, x.season(), answer);
      // beside w: other letters join it, digits and blanks leave the text too short
      SilverFleets y = new SilverFleets();
      y.type('w');
      y.type(c);
      int beside = c >= 'a' && c <= 'z' ? -10 : c == 32 || c >= '0' && c <= '9' ? -12 : -11;
      Checks.due("season() of w and byte " + c, y.season(), beside);
    }
  }

  // "a NUMBER above 99 .. that TOKEN's"
  private static void numbersAbove99() {
    fault("w0 99;", 3);
    fault("w0 100;", 3);
    fault("w100 0;", 1);
    fault("w999 0;", 1);
    fault("s0 0 0 100;", 7);
    fault("k100;", 1);
    fault("k100", 1);
    fault("99", 0);
    fault("100", 0);
    fault("w0 0;100;", 5);
    fault("w0 0 100;", 5);
  }

  // "or with a 0 ahead of others"
  private static void zeroAhead() {
    reads("w0 0;", 1);
    reads("w10 10;", 1);
    fault("w00 0;", 1);
    fault("w01 0;", 1);
    fault("w0 00;", 3);
    fault("w0 01;", 3);
    fault("w0 010;", 3);
    fault("s0 0 0 011;", 7);
    fault("k02;", 1);
    fault("k02", 1);
    fault("k000", 1);
    fault("k" + "0".repeat(179), 1);
    fault("0", 0);
    fault("00", 0);
  }

  private static void numbersOfManyDigits() {
    String[] wrapping = {"256", "65536", "2147483648", "4294967296", "4294967301", "18446744073709551616",
        "18446744073709551621", "340282366920938463463374607431768211456"};
    for (String n : wrapping) {
      fault("k" + n + ";", 1);
      fault("w0 " + n + ";", 3);
    }
    for (String digit : new String[] {"1", "5", "9"}) {
      fault("k" + digit.repeat(179), 1);
      fault("k" + digit.repeat(178) + ";", 1);
    }
    for (int zeros = 2; zeros <= 178; zeros++) {
      fault("k1" + "0".repeat(zeros), 1);
    }
  }

  // "letters that begin no ITEM"
  private static void lettersThatBeginNoItem() {
    for (char c = 'a'; c <= 'z'; c++) {
      if (c != 'w' && c != 's' && c != 'k') {
        fault(c + "0 0;", 0);
      }
    }
    String[] words = {"ww", "ss", "kk", "wk", "sw", "ks", "week", "ship", "king", "aw", "www"};
    for (String word : words) {
      fault(word + "0 0;", 0);
      fault("w0 0; " + word + "0 0;", 6);
    }
    fault("w".repeat(180), 0);
  }

  private static void tokensThatCannotStandThere() {
    fault(";", 0);
    fault("5;", 0);
    fault("w0 0;;", 5);
    fault("w0 0; 5", 6);
    fault("w;", 1);
    fault("ww;", 0);
    fault("w0;", 2);
    fault("w0 0 0;", 5);
    fault("w0 0 w0 0;", 5);
    fault("w0 w;", 3);
    fault("w0 0x;", 4);
    fault("s;", 1);
    fault("s0;", 2);
    fault("s0 0;", 4);
    fault("s0 0 0;", 6);
    fault("s0 0 0 0 0;", 9);
    fault("s0 0 s;", 5);
    fault("k;", 1);
    fault("k1 1;", 3);
    fault("k1 k;", 3);
    // letters, one or several, are no NUMBER and no ;
    for (String word : new String[] {"a", "ab", "w", "ww", "zzz"}) {
      fault("w " + word + " 0;", 2);
      fault("w0 " + word + ";", 3);
      fault("w0 0 " + word + ";", 5);
      fault("s0 0 0 " + word + ";", 7);
      fault("s0 0 0 0" + word, 8);
      fault("k " + word + ";", 2);
      fault("k1" + word + ";", 2);
    }
  }

  // "the text's length, if it ends too early"
  private static void endsTooEarly() {
    String[] items = {"w10 40;", " s60 60 9 11 ;", "k10;", "w 0 0;"};
    StringBuilder text = new StringBuilder();
    for (int i = 0; i < items.length; i++) {
      String before = text.toString();
      text.append(items[i]);
      int letter = items[i].startsWith(" ") ? 1 : 0;
      for (int many = 0; many <= items[i].length(); many++) {
        String cut = before + items[i].substring(0, many);
        boolean whole = many == items[i].length();
        boolean early = many > letter && !whole;
        reads(cut, early ? -10 - cut.length() : whole ? i + 1 : i);
        // blanks behind belong to its length
        reads(cut + "   ", early ? -13 - cut.length() : whole ? i + 1 : i);
      }
    }
    fault(blanks(179) + "k", 180);
    fault("k" + blanks(179), 180);
    fault("k1" + blanks(178), 180);
    fault("w", 1);
  }

  // "-10 less FAULT", from the first place to the last
  private static void placesOfFaults() {
    for (int place = 0; place < MOST_BYTES; place++) {
      fault(blanks(place) + "!", place);
      fault(blanks(place) + "x", place);
      fault(blanks(place) + "7", place);
      fault(blanks(place) + ";", place);
      fault(blanks(place) + "w", place + 1);
    }
  }

  private static void firstOfSeveralFaults() {
    fault("x !", 0);
    fault("! x", 0);
    fault("w11 !", 1);
    fault("w11 100;", 1);
    fault("w0 41!", 3);
    fault("k1;k!", 3);
    fault("w x 00", 2);
    fault("s0 0 10 12;x", 5);
    // what came late counts for nothing where something came earlier
    fault("w0 0;".repeat(12) + "wx!", 60);
    fault("s61", 1);
    fault("w0 0;k", 6);
  }

  // "-10 less FAULT: nothing changes."
  private static void faultChangesNothing() {
    String[] texts = {"w", "w5 5;s1 1 1 1;k1;!", "w5 5;".repeat(13), "s1 1 1 1;".repeat(6), "k9;k9;", "k9;w11 1;",
        "k9;w1 100;", "k9;w1 01;", "x", "k9;s0 0 0 0"};
    int[] answers = {-11, -27, -70, -55, -13, -14, -16, -16, -10, -21};
    for (int i = 0; i < texts.length; i++) {
      String text = texts[i];
      Twins.Way way = x -> {
        Twins.everywhere(x);
        x.clear();
        Checks.type(x, text);
      };
      Twins.refused("season() of '" + text + "'", way, x -> x.season(), answers[i]);
    }
    // the same text can be mended by more bytes
    SilverFleets x = new SilverFleets();
    Checks.type(x, "w3 4");
    Checks.due("too early", x.season(), -14);
    x.type(';');
    Checks.due("mended", x.season(), 1);
    Checks.due("storm", x.week(0, 0), 3);
  }

  private static void faultLeavesNoTrace() {
    SilverFleets x = new SilverFleets();
    Checks.type(x, "w1 1;".repeat(12) + "s1 1 1 1;".repeat(5) + "k1;?");
    Checks.due("a fault behind all that can be told", x.season(), -118);
    x.clear();
    Checks.type(x, "w2 2;s2 2 2 2;k3;");
    Checks.due("told anew", x.season(), 3);
    Checks.due("weeks", x.count(0), 1);
    Checks.due("ships", x.count(1), 1);
    Checks.due("share", x.count(2), 3);
  }

  // "Of a WEEK: 0 STORM, 1 PIRATES. BAD."
  private static void weekAndItsWhat() {
    int[][] bad = {{-1, 0}, {4, 0}, {12, 0}, {0, -1}, {0, 2}, {3, 2}, {3, -1}, {-1, -1}, {4, 2}, {Twins.FAR_UP, 0},
        {Twins.FAR_DOWN, 1}, {0, Twins.FAR_UP}, {0, Twins.FAR_DOWN}};
    for (int[] b : bad) {
      Twins.refused("week(" + b[0] + ", " + b[1] + ")", Twins::everywhere, x -> x.week(b[0], b[1]), BAD);
    }
    Twins.refused("the last week's storm", Twins::everywhere, x -> x.week(3, 0), 4);
    Twins.refused("the last week's pirates", Twins::everywhere, x -> x.week(3, 1), 3);
    Twins.refused("the first week's storm, which is past", Twins::over, x -> x.week(0, 0), 10);
  }

  // "Of a SHIP: 0 LISTED, .. 4 where it is (0 PORT, .. 4 RAISED). BAD."
  private static void shipAndItsWhat() {
    int[][] bad = {{-1, 0}, {5, 0}, {0, -1}, {0, 5}, {4, 5}, {4, -1}, {5, 5}, {Twins.FAR_UP, 0}, {Twins.FAR_DOWN, 4},
        {0, Twins.FAR_UP}, {0, Twins.FAR_DOWN}};
    for (int[] b : bad) {
      Twins.refused("ship(" + b[0] + ", " + b[1] + ")", Twins::everywhere, x -> x.ship(b[0], b[1]), BAD);
    }
    int[] places = {4, 3, 2, 1, 0};
    for (int s = 0; s < places.length; s++) {
      int ship = s;
      Twins.refused("where ship " + s + " is", Twins::everywhere, x -> x.ship(ship, 4), places[s]);
    }
    SilverFleets one = Checks.told("s1 2 3 4;");
    Checks.due("the only ship", one.ship(0, 4), 0);
    Checks.due("the one behind it", one.ship(1, 4), BAD);
  }
}
