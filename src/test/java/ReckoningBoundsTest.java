/** The bounds of the document's part 3 and of promises 15 to 20: worth, plan, late, game, odds, register. */
public final class ReckoningBoundsTest {
  private static final int BAD = SilverFleets.BAD;
  private static final int NONE = SilverFleets.NONE;

  public static void main(String[] args) {
    nothingIsChanged();
    worthOfAnyShips();
    worthOfGunsAsManyAsPirates();
    worthOfStorms();
    worthRefused();
    worthWherever();
    planOfWeeks();
    planOfNoShips();
    planNotAheadOfReady();
    planLeastBits();
    planLeastBitsThenTheNext();
    planOfTwelveWeeks();
    planBehindAPlan();
    planWhenOver();
    lateWhenOver();
    lateIsThePlanOfTheNextWeek();
    gameOfAlikeWeeks();
    gameRefused();
    gameOfNoShips();
    gameInLeastTerms();
    gameWithoutMixing();
    gameWhateverReady();
    registerOfN();
    registerOfNone();
    registerWherever();
    oddsOfOneAtLeast();
    oddsOfK();
    oddsOfStorms();
    oddsOfTaken();
    oddsInLeastTerms();
    Checks.end();
  }

  private static void refused(String call, Twins.Call asked, int answer) {
    Twins.refused(call, Twins::everywhere, asked, answer);
  }

  private static void same(String call, Twins.Call asked) {
    Twins.unchanged(call, Twins::everywhere, asked);
    Twins.unchanged(call + " when over", Twins::over, asked);
  }

  // "(Nothing is changed.)"
  private static void nothingIsChanged() {
    same("worth", x -> x.worth(31, 3));
    same("plan(-1)", x -> x.plan(-1));
    same("plan(3)", x -> x.plan(3));
    same("late()", x -> x.late());
    same("game", x -> x.game(31, 1, 3, 0));
    same("odds", x -> x.odds(31, 3, 2, 0));
    same("register", x -> x.register(30, 1));
  }

  // "WORTH of some SHIPS (any, none too)"
  private static void worthOfAnyShips() {
    SilverFleets x = Checks.told("w0 0;w3 40;s1 0 0 0;s2 0 0 0;s4 0 0 0;s8 0 0 0;s16 0 0 0;");
    for (int set = 0; set <= 31; set++) {
      Checks.due("worth(" + set + ", 0)", x.worth(set, 0), set * 10);
      // the richest is the one of the highest number
      Checks.due("worth(" + set + ", 1)", x.worth(set, 1), (set - Integer.highestOneBit(set)) * 7);
    }
    Checks.due("at most", Checks.told("w0 0;" + "s60 60 0 0;".repeat(5)).worth(31, 0), 6000);
    Checks.due("no ships told", Checks.told("w0 40;").worth(0, 0), 0);
  }

  private static void worthOfGunsAsManyAsPirates() {
    for (int pirates = 0; pirates <= 40; pirates++) {
      SilverFleets x = Checks.told("w0 " + pirates + ";s1 0 9 0;s2 0 9 0;s3 0 9 0;s4 0 9 0;s5 0 3 0;");
      Checks.due("39 guns against " + pirates, x.worth(31, 0), pirates <= 39 ? 150 : 100);
      Checks.due("36 guns against " + pirates, x.worth(15, 0), pirates <= 36 ? 100 : 60);
      Checks.due("3 guns against " + pirates, x.worth(16, 0), pirates <= 3 ? 50 : 0);
    }
  }

  private static void worthOfStorms() {
    for (int storm = 0; storm <= 10; storm++) {
      Checks.due("storm " + storm, Checks.told("w" + storm + " 0;s7 5 0 0;").worth(1, 0), 12 * (10 - storm));
    }
  }

  private static void worthRefused() {
    int[][] bad = {{-1, 0}, {32, 0}, {33, 0}, {0, -1}, {0, 4}, {31, 12}, {Twins.FAR_UP, 0}, {Twins.FAR_DOWN, 0},
        {0, Twins.FAR_UP}, {0, Twins.FAR_DOWN}, {32, 4}};
    for (int[] b : bad) {
      refused("worth(" + b[0] + ", " + b[1] + ")", x -> x.worth(b[0], b[1]), BAD);
    }
    for (int ships = 0; ships <= 4; ships++) {
      SilverFleets x = Checks.told("w0 0;" + "s1 0 0 0;".repeat(ships));
      Checks.due("all of " + ships, x.worth((1 << ships) - 1, 0), ships * 10);
      Checks.due("one that isn't told", x.worth(1 << ships, 0), BAD);
    }
  }

  private static void worthWherever() {
    // RAISED ones have no silver; weeks may be past
    refused("worth(31, 0)", x -> x.worth(31, 0), 0);
    refused("worth(15, 1)", x -> x.worth(15, 1), 490);
    refused("worth(31, 2)", x -> x.worth(31, 2), 1500);
    Twins.refused("worth(31, 2) when over", Twins::over, x -> x.worth(31, 2), 1500);
    Checks.due("not ready yet", Checks.told("w0 0;s7 0 0 11;").worth(1, 0), 70);
  }

  // "how much (w = -1), which SHIPS in a WEEK (bits). BAD (a WEEK ahead of THE WEEK, too)."
  private static void planOfWeeks() {
    for (int now = 0; now <= 4; now++) {
      int week = now;
      Twins.Way way = x -> {
        Checks.type(x, "w5 0;w2 0;w4 0;w3 0;s10 0 0 0;");
        x.season();
        for (int i = 0; i < week; i++) {
          x.waits();
        }
      };
      int[] most = {80, 80, 70, 70, 0};
      int[] best = {1, 1, 3, 3, 4};
      Twins.refused("plan(-1) in week " + now, way, x -> x.plan(-1), most[now]);
      for (int w = 0; w < 4; w++) {
        int asked = w;
        int due = w < now ? BAD : w == best[now] ? 1 : 0;
        Twins.refused("plan(" + w + ") in week " + now, way, x -> x.plan(asked), due);
      }
      for (int w : new int[] {-2, 4, 12, Twins.FAR_UP, Twins.FAR_DOWN}) {
        Twins.refused("plan(" + w + ") in week " + now, way, x -> x.plan(w), BAD);
      }
    }
  }

  private static void plan(String text, int most, int... sets) {
    SilverFleets x = Checks.told(text);
    Checks.due("plan(-1) of " + text, x.plan(-1), most);
    for (int w = 0; w < sets.length; w++) {
      Checks.due("plan(" + w + ") of " + text, x.plan(w), sets[w]);
    }
    Checks.due("plan(" + sets.length + ") of " + text, x.plan(sets.length), BAD);
  }

  private static void planOfNoShips() {
    plan("", 0);
    plan("w0 0;", 0, 0);
    plan("s60 60 0 0;", 0);
    plan("w0 0;".repeat(12), 0, 0, 0, 0, 0, 0, 0, 0, 0, 0, 0, 0, 0);
    SilverFleets gone = Checks.told("w0 0;w0 0;s9 0 0 0;");
    gone.sails(1, 0);
    Checks.due("none in port: how much", gone.plan(-1), 0);
    Checks.due("none in port: in week 0", gone.plan(0), 0);
    Checks.due("none in port: in week 1", gone.plan(1), 0);
    Checks.due("none in port: late()", gone.late(), 0);
  }

  // "none ahead of READY"
  private static void planNotAheadOfReady() {
    plan("w0 0;w1 0;w2 0;s1 0 0 0;", 10, 1, 0, 0);
    plan("w0 0;w1 0;w2 0;s1 0 0 1;", 9, 0, 1, 0);
    plan("w0 0;w1 0;w2 0;s1 0 0 2;", 8, 0, 0, 1);
    plan("w0 0;w1 0;w2 0;s1 0 0 3;", 0, 0, 0, 0);
    plan("w0 0;w1 0;w2 0;s1 0 0 11;", 0, 0, 0, 0);
    plan("w9 0;".repeat(11) + "w0 0;s1 0 0 11;", 10, 0, 0, 0, 0, 0, 0, 0, 0, 0, 0, 0, 1);
    // company that isn't ready is no company
    plan("w0 9;w5 9;s10 0 5 0;s10 0 4 1;", 100, 0, 3);
    plan("w0 9;w5 9;s10 0 5 0;s10 0 4 2;", 0, 0, 0);
  }

  // "of several the one by which the least bits sail in THE WEEK"
  private static void planLeastBits() {
    // one without silver, or in a storm of 10, stays
    plan("w0 0;s0 0 0 0;", 0, 0);
    plan("w10 0;s60 60 9 0;", 0, 0);
    plan("w0 1;s60 60 0 0;", 0, 0);
    // guns of 1 and 2 together or of 3 alone: 7 is less than 9
    plan("w0 4;s30 0 0 0;s0 0 2 0;s0 0 2 0;s0 0 4 0;", 300, 7);
    // of 1 or of 2: 3 is less than 5
    plan("w0 4;s30 0 0 0;s0 0 4 0;s0 0 4 0;", 300, 3);
    // one that adds nothing stays, and where one is taken of two alike, both must go
    plan("w0 0;s5 0 0 0;s0 0 9 0;s5 0 0 0;", 100, 5);
    plan("w0 1;s5 0 0 0;s5 0 0 0;s4 0 0 0;", 90, 7);
    plan("w0 1;s5 0 0 0;s5 0 0 0;s0 0 0 0;", 50, 3);
  }

  private static void planLeastBitsThenTheNext() {
    plan("w3 0;w3 0;w3 0;s1 0 0 0;s2 0 0 0;", 21, 0, 0, 3);
    plan("w3 0;w3 0;w4 0;s1 0 0 0;s2 0 0 0;", 21, 0, 3, 0);
    plan("w3 0;w4 0;w4 0;s1 0 0 0;s2 0 0 0;", 21, 3, 0, 0);
    plan("w0 0;w0 5;w0 0;s1 0 0 0;s2 0 0 0;", 30, 0, 0, 3);
    // one must go in week 0, the other may go in week 1 or 2: it goes last
    plan("w0 0;w1 0;w1 0;s1 0 0 0;s1 0 0 1;", 19, 1, 0, 2);
    plan("w0 0;w1 0;w2 0;s1 0 0 0;s1 0 0 1;", 19, 1, 2, 0);
    // as many guns as are needed, in the last week that is as good
    plan("w0 2;w0 2;s5 0 2 0;s5 0 2 0;", 100, 0, 3);
    plan("w0 2;w0 2;s5 0 1 0;s5 0 1 0;s5 0 1 0;s5 0 1 0;", 200, 0, 15);
  }

  private static void planOfTwelveWeeks() {
    String five = "s10 0 1 0;s20 0 1 3;s30 0 1 6;s40 0 1 9;s50 0 1 11;";
    plan("w5 0;".repeat(12) + five, 750, 0, 0, 0, 0, 0, 0, 0, 0, 0, 0, 0, 31);
    // worse from week to week: each goes when it is ready
    plan("w0 0;w1 0;w2 0;w3 0;w4 0;w4 0;w5 0;w6 0;w7 0;w8 0;w9 0;w9 0;" + five, 520, 1, 0, 0, 2, 0, 0, 4, 0, 0, 8, 0, 16);
    plan("w0 40;".repeat(12) + "s60 60 9 0;".repeat(4) + "s60 60 4 0;", 6000, 0, 0, 0, 0, 0, 0, 0, 0, 0, 0, 0, 31);
    plan("w0 40;".repeat(12) + "s60 60 9 0;".repeat(4) + "s60 60 3 0;", 4800, 0, 0, 0, 0, 0, 0, 0, 0, 0, 0, 0, 31);
  }

  /** What an earlier plan found is not what a later one finds. */
  private static void planBehindAPlan() {
    SilverFleets x = Checks.told("w0 0;w0 0;s9 0 0 0;s5 5 0 0;");
    Checks.due("plan(-1)", x.plan(-1), 190);
    Checks.due("plan(1)", x.plan(1), 3);
    x.throwsOff(0, 9);
    Checks.due("without the silver of one: plan(-1)", x.plan(-1), 100);
    Checks.due("without the silver of one: plan(1)", x.plan(1), 2);
    x.throwsOff(1, 10);
    Checks.due("without any silver: plan(-1)", x.plan(-1), 0);
    Checks.due("without any silver: plan(1)", x.plan(1), 0);
    x.undo();
    x.undo();
    Checks.due("all of it again: plan(-1)", x.plan(-1), 190);
    Checks.due("all of it again: plan(1)", x.plan(1), 3);
    Checks.type(x, "w1 0;s3 0 0 0;s4 0 0 0;");
    x.season();
    Checks.due("fewer weeks: plan(-1)", x.plan(-1), 63);
    Checks.due("fewer weeks: plan(0)", x.plan(0), 3);
    Checks.due("fewer weeks: late()", x.late(), 0);
    Checks.type(x, "w10 0;s3 0 0 0;s4 0 0 0;");
    x.season();
    Checks.due("nothing comes home: plan(-1)", x.plan(-1), 0);
    Checks.due("nothing comes home: plan(0)", x.plan(0), 0);
    planOfFewerAndFewerWeeks();
  }

  private static void planOfFewerAndFewerWeeks() {
    SilverFleets x = new SilverFleets();
    for (int weeks = 6; weeks >= 0; weeks--) {
      // wilder each time, so that what was found earlier would be more
      int storm = 8 - weeks;
      Checks.type(x, ("w" + storm + " 0;").repeat(weeks) + "s3 0 0 0;s4 0 0 0;");
      x.season();
      Checks.due("plan(-1) of " + weeks + " weeks", x.plan(-1), weeks == 0 ? 0 : 7 * (10 - storm));
      Checks.due("late() of " + weeks + " weeks", x.late(), weeks < 2 ? 0 : 7 * (10 - storm));
      for (int w = 0; w < weeks; w++) {
        Checks.due("plan(" + w + ") of " + weeks + " weeks", x.plan(w), w == weeks - 1 ? 3 : 0);
      }
    }
  }

  private static void planWhenOver() {
    Twins.refused("plan(-1) when over", Twins::over, x -> x.plan(-1), 0);
    for (int w = 0; w <= 4; w++) {
      int week = w;
      Twins.refused("plan(" + w + ") when over", Twins::over, x -> x.plan(week), BAD);
    }
  }

  // "LATE: .. (0: it is OVER then)"
  private static void lateWhenOver() {
    Checks.due("no weeks", Checks.told("s9 9 0 0;").late(), 0);
    SilverFleets one = Checks.told("w0 0;s9 9 0 0;");
    Checks.due("plan in the only week", one.plan(-1), 180);
    Checks.due("late in the only week", one.late(), 0);
    one.waits();
    Checks.due("late when over", one.late(), 0);
    SilverFleets two = Checks.told("w0 0;w5 0;s9 9 0 0;");
    Checks.due("late in the last week but one", two.late(), 90);
    two.waits();
    Checks.due("late in the last week", two.late(), 0);
    Twins.refused("late() when over", Twins::over, x -> x.late(), 0);
  }

  private static void lateIsThePlanOfTheNextWeek() {
    String text = "w5 0;w3 2;w4 0;w1 9;w6 0;w2 12;w0 30;w7 0;w8 0;w9 1;w2 3;w5 5;s10 5 2 0;s20 0 3 4;s7 8 4 0;s1 1 9 7;";
    SilverFleets x = Checks.told(text);
    for (int w = 0; w < 12; w++) {
      int late = x.late();
      x.waits();
      Checks.due("late() in week " + w, late, x.plan(-1));
    }
    Checks.due("late() at last", x.late(), 0);
  }

  // "BAD (alike WEEKS, too)"
  private static void gameOfAlikeWeeks() {
    for (int w = 0; w < 4; w++) {
      int week = w;
      refused("game(31, " + w + ", " + w + ", 0)", x -> x.game(31, week, week, 0), BAD);
      refused("game(31, " + w + ", " + w + ", 1)", x -> x.game(31, week, week, 1), BAD);
    }
    // weeks that are told alike are two weeks all the same
    game("w1 2;w1 2;s5 0 0 0;", 1, 0, 1, 45, 2);
    SilverFleets one = Checks.told("w0 0;s1 0 0 0;");
    Checks.due("one week alone", one.game(1, 0, 0, 0), BAD);
    Checks.due("one week and none", one.game(1, 0, 1, 0), BAD);
  }

  private static void gameRefused() {
    int[][] bad = {{-1, 0, 1, 0}, {32, 0, 1, 0}, {31, -1, 1, 0}, {31, 0, -1, 0}, {31, 4, 1, 0}, {31, 0, 4, 0},
        {31, 0, 1, -1}, {31, 0, 1, 2}, {Twins.FAR_UP, 0, 1, 0}, {Twins.FAR_DOWN, 0, 1, 0}, {31, Twins.FAR_UP, 1, 0},
        {31, 0, Twins.FAR_DOWN, 0}, {31, 0, 1, Twins.FAR_UP}, {31, 0, 1, Twins.FAR_DOWN}, {31, 4, 4, 0}, {31, -1, -1, 1}};
    for (int[] b : bad) {
      refused("game(" + b[0] + ", " + b[1] + ", " + b[2] + ", " + b[3] + ")", x -> x.game(b[0], b[1], b[2], b[3]), BAD);
    }
    SilverFleets last = Checks.told("w0 0;".repeat(11) + "w1 0;s7 0 0 0;");
    Checks.due("the last of twelve weeks", last.game(1, 11, 0, 0), 70);
    Checks.due("the one behind it", last.game(1, 12, 0, 0), BAD);
  }

  private static void game(String text, int set, int a, int b, int upper, int lower) {
    SilverFleets x = Checks.told(text);
    String call = text + " game(" + set + ", " + a + ", " + b + ", ";
    Checks.due(call + "0)", x.game(set, a, b, 0), upper);
    Checks.due(call + "1)", x.game(set, a, b, 1), lower);
    Checks.due(call + "0) the other way round", x.game(set, b, a, 0), upper);
    Checks.due(call + "1) the other way round", x.game(set, b, a, 1), lower);
  }

  private static void gameOfNoShips() {
    game("w0 40;w10 0;s60 60 0 0;", 0, 0, 1, 0, 1);
    game("w0 40;w0 40;", 0, 0, 1, 0, 1);
    game("w0 40;w0 40;s0 0 0 0;", 1, 0, 1, 0, 1);
    game("w10 40;w10 40;s60 60 0 0;", 1, 0, 1, 0, 1);
  }

  // "in least terms"
  private static void gameInLeastTerms() {
    // alone, taken where they meet: (10 S x 7 S) / (17 S)
    game("w0 1;w3 1;s1 0 0 0;", 1, 0, 1, 70, 17);
    game("w0 1;w3 1;s17 0 0 0;", 1, 0, 1, 70, 1);
    game("w0 1;w3 1;s34 0 0 0;", 1, 0, 1, 140, 1);
    game("w0 1;w3 1;s60 60 0 0;", 1, 0, 1, 8400, 17);
    game("w0 1;w0 1;s1 0 0 0;", 1, 0, 1, 5, 1);
    game("w1 1;w1 1;s1 0 0 0;", 1, 0, 1, 9, 2);
    game("w9 1;w9 1;s1 0 0 0;", 1, 0, 1, 1, 2);
    game("w8 1;w9 1;s1 0 0 0;", 1, 0, 1, 2, 3);
    // all five, at most
    game("w0 40;w0 40;" + "s60 60 0 0;".repeat(5), 31, 0, 1, 5400, 1);
    game("w0 40;w1 40;" + "s60 60 0 0;".repeat(5), 31, 0, 1, 97200, 19);
  }

  private static void gameWithoutMixing() {
    // as many guns as pirates in both weeks: the better week, met or not
    game("w0 5;w5 5;s10 0 5 0;", 1, 0, 1, 100, 1);
    // one gun too few in week 0 alone: week 1 is sure, week 0 is worth the trial only if it's better
    game("w0 6;w5 5;s10 0 5 0;", 1, 0, 1, 50, 1);
    game("w5 6;w0 5;s10 0 5 0;", 1, 0, 1, 100, 1);
    // a week that met is as good as the other missed: 20 of 40 bars in week 0, 40 in week 1 at half
    game("w0 1;w5 1;s20 0 0 0;s20 0 0 0;", 3, 0, 1, 200, 1);
    // a little calmer, and mixing helps: (400 x 240 - 200 x 120) / (640 - 320)
    game("w0 1;w4 1;s20 0 0 0;s20 0 0 0;", 3, 0, 1, 225, 1);
    // a little wilder, and it does not
    game("w0 1;w6 1;s20 0 0 0;s20 0 0 0;", 3, 0, 1, 200, 1);
    game("w10 1;w0 1;s20 0 0 0;s20 0 0 0;", 3, 0, 1, 200, 1);
  }

  // "(whatever READY)"
  private static void gameWhateverReady() {
    game("w0 1;w0 1;s10 0 0 11;", 1, 0, 1, 50, 1);
    // wherever they are, in weeks that are past
    SilverFleets x = new SilverFleets();
    Twins.over(x);
    // 57 bars of ship 4: 5 guns are too few in week 1 alone
    Checks.due("game(16, 1, 2, 0) when over", x.game(16, 1, 2, 0), 570);
    Checks.due("game(16, 1, 2, 1) when over", x.game(16, 1, 2, 1), 1);
    Checks.due("game(4, 1, 3, 0) of one taken", x.game(4, 1, 3, 0), 165);
    Checks.due("game(4, 1, 3, 1) of one taken", x.game(4, 1, 3, 1), 1);
  }

  private static void register(SilverFleets x, int n, int sets, int inAll, int inSome) {
    Checks.due("register(" + n + ", 0)", x.register(n, 0), sets);
    Checks.due("register(" + n + ", 1)", x.register(n, 1), inAll);
    Checks.due("register(" + n + ", 2)", x.register(n, 2), inSome);
  }

  // "REGISTER of n (0 .. 300)"
  private static void registerOfN() {
    for (int n : new int[] {-1, 301, 302, Twins.FAR_UP, Twins.FAR_DOWN}) {
      for (int what = -1; what <= 3; what++) {
        int half = what;
        refused("register(" + n + ", " + what + ")", x -> x.register(n, half), BAD);
      }
    }
    for (int what : new int[] {-1, 3, Twins.FAR_UP, Twins.FAR_DOWN}) {
      refused("register(0, " + what + ")", x -> x.register(0, what), BAD);
      refused("register(300, " + what + ")", x -> x.register(300, what), BAD);
    }
    SilverFleets most = Checks.told("s60 0 0 0;".repeat(5));
    register(most, 300, 1, 31, 31);
    register(most, 299, 0, NONE, 0);
    register(most, 240, 5, 0, 31);
    register(most, 0, 1, 0, 0);
    register(most, 1, 0, NONE, 0);
    Checks.due("register(301, 0)", most.register(301, 0), BAD);
    SilverFleets powers = Checks.told("s1 9 0 0;s2 9 0 0;s4 9 0 0;s8 9 0 0;s16 9 0 0;");
    for (int n = 0; n <= 31; n++) {
      register(powers, n, 1, n, n);
    }
    register(powers, 32, 0, NONE, 0);
  }

  // "in all (1; bits; NONE: no set)"
  private static void registerOfNone() {
    register(new SilverFleets(), 0, 1, 0, 0);
    register(new SilverFleets(), 1, 0, NONE, 0);
    register(new SilverFleets(), 300, 0, NONE, 0);
    register(Checks.told("s0 9 0 0;"), 0, 2, 0, 1);
    register(Checks.told("s0 9 0 0;"), 9, 0, NONE, 0);
    register(Checks.told("s0 0 0 0;".repeat(5)), 0, 32, 0, 31);
    // a ship that is in every set that has the sum
    register(Checks.told("s7 0 0 0;s0 0 0 0;"), 7, 2, 1, 3);
  }

  // "(all that were told, wherever)"
  private static void registerWherever() {
    SilverFleets x = new SilverFleets();
    Twins.everywhere(x);
    // LISTED now: 0 (RAISED), 30 (WRECKED), 40 (TAKEN), 11 (HOME), 27 (PORT)
    register(x, 30, 2, 2, 3);
    register(x, 40, 2, 4, 5);
    register(x, 11, 2, 8, 9);
    register(x, 27, 2, 16, 17);
    register(x, 108, 2, 30, 31);
    register(x, 20, 0, NONE, 0);
    register(x, 109, 0, NONE, 0);
  }

  // "ODDS for some SHIPS (one at least; ..)"
  private static void oddsOfOneAtLeast() {
    int[][] bad = {{0, 0, 0, 0}, {-1, 0, 0, 0}, {32, 0, 0, 0}, {31, -1, 0, 0}, {31, 4, 0, 0}, {31, 0, -1, 0},
        {31, 0, 6, 0}, {31, 0, 0, -1}, {31, 0, 0, 2}, {Twins.FAR_UP, 0, 0, 0}, {Twins.FAR_DOWN, 0, 0, 0},
        {31, Twins.FAR_UP, 0, 0}, {31, Twins.FAR_DOWN, 0, 0}, {31, 0, Twins.FAR_UP, 0}, {31, 0, Twins.FAR_DOWN, 0},
        {31, 0, 0, Twins.FAR_UP}, {31, 0, 0, Twins.FAR_DOWN}, {0, 4, 6, 2}};
    for (int[] b : bad) {
      refused("odds(" + b[0] + ", " + b[1] + ", " + b[2] + ", " + b[3] + ")", x -> x.odds(b[0], b[1], b[2], b[3]), BAD);
    }
    for (int ships = 1; ships <= 4; ships++) {
      SilverFleets x = Checks.told("w0 0;" + "s1 0 0 0;".repeat(ships));
      Checks.due("odds of all of " + ships, x.odds((1 << ships) - 1, 0, ships, 0), 1);
      Checks.due("odds of one that isn't told", x.odds(1 << ships, 0, 0, 0), BAD);
      Checks.due("odds of none", x.odds(0, 0, 0, 0), BAD);
    }
    Checks.due("odds without ships", Checks.told("w0 0;").odds(1, 0, 0, 0), BAD);
    Checks.due("odds without weeks", Checks.told("s1 1 1 1;").odds(1, 0, 0, 0), BAD);
  }

  private static void odds(SilverFleets x, int set, int w, int k, int upper, int lower) {
    String call = "odds(" + set + ", " + w + ", " + k + ", ";
    Checks.due(call + "0)", x.odds(set, w, k, 0), upper);
    Checks.due(call + "1)", x.odds(set, w, k, 1), lower);
  }

  // "k (0 .. 5)", "that k at least come HOME"
  private static void oddsOfK() {
    SilverFleets x = Checks.told("w5 0;" + "s1 0 0 0;".repeat(5));
    int[][] due = {{1, 1}, {31, 32}, {13, 16}, {1, 2}, {3, 16}, {1, 32}};
    for (int k = 0; k <= 5; k++) {
      odds(x, 31, 0, k, due[k][0], due[k][1]);
    }
    for (int ships = 1; ships <= 5; ships++) {
      int set = (1 << ships) - 1;
      odds(x, set, 0, 0, 1, 1);
      odds(x, set, 0, ships, 1, 1 << ships);
      for (int k = ships + 1; k <= 5; k++) {
        odds(x, set, 0, k, 0, 1);
      }
    }
  }

  private static void oddsOfStorms() {
    SilverFleets x = Checks.told("w0 0;w10 0;" + "s1 0 0 0;".repeat(5));
    for (int k = 0; k <= 5; k++) {
      odds(x, 31, 0, k, 1, 1);
      odds(x, 31, 1, k, k == 0 ? 1 : 0, 1);
    }
    int[][] one = {{1, 1}, {9, 10}, {4, 5}, {7, 10}, {3, 5}, {1, 2}, {2, 5}, {3, 10}, {1, 5}, {1, 10}, {0, 1}};
    for (int storm = 0; storm <= 10; storm++) {
      odds(Checks.told("w" + storm + " 0;s1 0 0 0;"), 1, 0, 1, one[storm][0], one[storm][1]);
    }
  }

  // "TAKEN ones of these do not come"
  private static void oddsOfTaken() {
    for (int pirates = 0; pirates <= 40; pirates++) {
      SilverFleets x = Checks.told("w0 " + pirates + ";s1 0 9 0;s2 0 9 0;s3 0 9 0;s4 0 9 0;s5 0 3 0;");
      odds(x, 31, 0, 5, pirates <= 39 ? 1 : 0, 1);
      odds(x, 31, 0, 4, 1, 1);
      odds(x, 1, 0, 1, pirates <= 9 ? 1 : 0, 1);
      odds(x, 1, 0, 0, 1, 1);
    }
    // one of two is taken: one comes by the storm alone
    SilverFleets two = Checks.told("w3 1;s1 0 0 0;s1 0 0 0;");
    odds(two, 3, 0, 1, 7, 10);
    odds(two, 3, 0, 2, 0, 1);
    odds(two, 1, 0, 1, 0, 1);
  }

  private static void oddsInLeastTerms() {
    SilverFleets x = Checks.told("w1 0;w3 0;w4 0;w9 0;" + "s1 0 0 0;".repeat(5));
    odds(x, 31, 0, 1, 99999, 100000);
    odds(x, 31, 0, 5, 59049, 100000);
    odds(x, 31, 1, 5, 16807, 100000);
    odds(x, 31, 2, 5, 243, 3125);
    odds(x, 31, 3, 5, 1, 100000);
    odds(x, 3, 2, 1, 21, 25);
    odds(x, 3, 2, 2, 9, 25);
    odds(x, 7, 1, 2, 98, 125);
  }
}
