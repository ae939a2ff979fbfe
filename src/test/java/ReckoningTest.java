/** Promises 15 to 20: worth, plan, late, game, odds, register; none of them changes anything. */
public final class ReckoningTest {
  private static final int BAD = SilverFleets.BAD;
  private static final int NONE = SilverFleets.NONE;

  public static void main(String[] args) {
    worths();
    plans();
    plansOfSeveral();
    plansAsShipsGo();
    lates();
    games();
    gamesRefused();
    odds();
    oddsRefused();
    registers();
    Checks.end();
  }

  private static void worths() {
    SilverFleets x = Checks.told("w3 9;w10 0;w0 0;s10 5 4 0;s20 20 5 2;s0 40 0 0;");
    Checks.due("guns enough", x.worth(3, 0), 55 * 7);
    Checks.due("one gun too few", x.worth(6, 0), 40 * 7);
    Checks.due("all", x.worth(7, 0), 95 * 7);
    Checks.due("alone", x.worth(1, 0), 0);
    Checks.due("none", x.worth(0, 0), 0);
    Checks.due("storm 10", x.worth(7, 1), 0);
    Checks.due("storm 0", x.worth(7, 2), 950);
    int[][] bad = {{8, 0}, {-1, 0}, {0, 3}, {0, -1}, {Integer.MAX_VALUE, 0}, {Integer.MIN_VALUE, 0}, {7, 12}};
    for (int[] b : bad) {
      Checks.due("worth(" + b[0] + ", " + b[1] + ")", x.worth(b[0], b[1]), BAD);
    }
    x.sails(1, 5);
    x.waits();
    x.throwsOff(1, 10);
    Checks.due("wherever they are, whatever week it is", x.worth(3, 0), 45 * 7);
    Checks.due("deeds", x.count(3), 3);
  }

  private static void plan(SilverFleets x, int most, int... sets) {
    Checks.due("plan(-1)", x.plan(-1), most);
    int week = x.now(0);
    for (int i = 0; i < sets.length; i++) {
      Checks.due("plan(" + (week + i) + ")", x.plan(week + i), sets[i]);
    }
    Checks.due("plan beyond", x.plan(week + sets.length), BAD);
    Checks.due("plan ahead of the week", x.plan(week == 0 ? -2 : week - 1), BAD);
  }

  private static void plans() {
    plan(new SilverFleets(), 0);
    plan(Checks.told("w0 0;"), 0, 0);
    plan(Checks.told("s1 1 1 1;"), 0);
    plan(Checks.told("w5 0;w2 0;w4 0;s10 0 0 0;"), 80, 0, 1, 0);
    // not ahead of ready
    plan(Checks.told("w0 0;w5 0;w4 0;s10 0 0 1;"), 60, 0, 0, 1);
    plan(Checks.told("w0 0;w5 0;w4 0;s10 0 0 3;"), 0, 0, 0, 0);
    // in company, or a poor one for the pirates
    plan(Checks.told("w2 9;w2 9;s10 0 5 0;s20 0 4 0;"), 240, 0, 3);
    plan(Checks.told("w0 5;w9 0;s10 0 0 0;s20 0 0 0;"), 100, 3, 0);
    plan(Checks.told("w0 5;w8 0;s10 0 0 0;s20 0 0 0;s20 0 0 0;"), 300, 7, 0);
    // apart, where one is not ready yet
    plan(Checks.told("w0 0;w5 0;s10 0 0 0;s20 0 0 1;"), 200, 1, 2);
    SilverFleets x = Checks.told("w0 0;s1 0 0 0;");
    int[] bad = {-2, 1, 12, Integer.MAX_VALUE, Integer.MIN_VALUE};
    for (int w : bad) {
      Checks.due("plan(" + w + ")", x.plan(w), BAD);
    }
  }

  private static void plansOfSeveral() {
    // the least bits in THE WEEK, then in the next one
    plan(Checks.told("w3 0;w3 0;w3 0;s10 0 0 0;s20 0 0 0;"), 210, 0, 0, 3);
    plan(Checks.told("w3 0;w3 0;w4 0;s10 0 0 0;s20 0 0 0;"), 210, 0, 3, 0);
    // one without silver never sails
    plan(Checks.told("w0 0;w0 0;s0 0 0 0;s5 0 0 0;"), 50, 0, 2);
    plan(Checks.told("w10 0;s9 9 9 0;"), 0, 0);
    // two of three are needed for the guns; bits 3 are less than bits 4
    plan(Checks.told("w0 0;w5 0;s10 0 0 0;s10 0 0 0;s20 0 0 0;"), 400, 7, 0);
    plan(Checks.told("w0 4;w10 0;s30 0 0 0;s0 0 2 0;s0 0 2 0;s0 0 4 0;"), 300, 7, 0);
    plan(Checks.told("w0 1;w0 1;s10 0 0 0;s10 0 0 0;"), 100, 0, 3);
  }

  private static void plansAsShipsGo() {
    SilverFleets x = Checks.told("w5 0;w2 0;w4 0;s10 0 0 0;s20 0 0 0;");
    plan(x, 240, 0, 3, 0);
    x.sails(1, 0);
    plan(x, 160, 0, 2, 0);
    x.waits();
    plan(x, 160, 2, 0);
    x.throwsOff(1, 5);
    plan(x, 120, 2, 0);
    x.waits();
    plan(x, 90, 2);
    x.waits();
    plan(x, 0);
    x.undo();
    plan(x, 90, 2);
    Checks.due("nothing was changed", x.count(3), 4);

    SilverFleets y = Checks.told("w0 0;w0 0;s10 0 0 0;s20 0 0 0;");
    Checks.due("a week's ships asked first", y.plan(1), 3);
    y.sails(1, 0);
    Checks.due("and again behind a deed", y.plan(1), 2);
    Checks.type(y, "w5 0;s10 0 0 0;s20 0 0 0;");
    y.season();
    plan(y, 150, 3);
  }

  private static void lates() {
    Checks.due("late() of nothing", new SilverFleets().late(), 0);
    SilverFleets x = Checks.told("w1 0;w5 0;w4 0;s10 0 0 0;s20 0 0 2;");
    Checks.due("late() in week 0", x.late(), 180);
    Checks.due("plan in week 0", x.plan(-1), 210);
    x.waits();
    Checks.due("late() in week 1", x.late(), 180);
    x.waits();
    Checks.due("late() in the last week", x.late(), 0);
    Checks.due("the week stays", x.now(0), 2);
    x.waits();
    Checks.due("late() when over", x.late(), 0);
  }

  private static void game(SilverFleets x, int set, int a, int b, int upper, int lower) {
    String call = "game(" + set + ", " + a + ", " + b + ", ";
    Checks.due(call + "0)", x.game(set, a, b, 0), upper);
    Checks.due(call + "1)", x.game(set, a, b, 1), lower);
    Checks.due(call + "0) the other way round", x.game(set, b, a, 0), upper);
    Checks.due(call + "1) the other way round", x.game(set, b, a, 1), lower);
  }

  private static void games() {
    SilverFleets x = Checks.told("w0 9;w0 9;w5 9;w9 9;w10 0;w2 0;s30 0 4 0;s0 20 4 11;s10 10 1 0;");
    game(x, 0, 0, 1, 0, 1);
    // both weeks alike: half the time met
    game(x, 1, 0, 1, 150, 1);
    game(x, 3, 0, 1, 350, 1);
    // (300 * 150 - 0) / 450
    game(x, 1, 0, 2, 100, 1);
    // (500 * 250 - 200 * 100) / (750 - 300) = 105000 / 450
    game(x, 3, 0, 2, 700, 3);
    // week 3 is so wild that week 0 is better, met or not: (500 * 50) against met 200
    game(x, 3, 0, 3, 200, 1);
    // no pirates can beat the whole fleet
    game(x, 7, 0, 2, 700, 1);
    game(x, 7, 4, 5, 560, 1);
    game(x, 1, 4, 5, 240, 1);
    // in week 5 none are strong enough
    game(x, 1, 0, 5, 240, 1);
    game(x, 1, 0, 4, 0, 1);
    SilverFleets y = Checks.told("w0 1;w3 1;s7 0 0 0;s5 0 0 0;s4 0 0 0;");
    // (160 * 112 - 90 * 63) / (272 - 153) = 12250 / 119
    game(y, 7, 0, 1, 1750, 17);
    y.sails(1, 0);
    y.waits();
    game(y, 7, 0, 1, 1750, 17);
    y.throwsOff(1, 5);
    // (110 * 77 - 40 * 28) / (187 - 68) = 7350 / 119
    game(y, 7, 0, 1, 1050, 17);
    Checks.due("deeds", y.count(3), 3);
    SilverFleets most = Checks.told("w0 40;w1 40;" + "s60 60 0 0;".repeat(5));
    // (6000 * 5400 - 4800 * 4320) / (11400 - 9120) = 11664000 / 2280
    game(most, 31, 0, 1, 97200, 19);
  }

  private static void gamesRefused() {
    SilverFleets x = Checks.told("w0 0;w0 0;s1 0 0 0;");
    int[][] bad = {{2, 0, 1, 0}, {-1, 0, 1, 0}, {1, 0, 0, 0}, {1, 1, 1, 1}, {1, 2, 0, 0}, {1, 0, 2, 0}, {1, -1, 0, 0},
        {1, 0, -1, 0}, {1, 0, 1, 2}, {1, 0, 1, -1}, {Integer.MIN_VALUE, 0, 1, 0}, {1, Integer.MAX_VALUE, 1, 0}};
    for (int[] b : bad) {
      Checks.due("game(" + b[0] + ", " + b[1] + ", " + b[2] + ", " + b[3] + ")", x.game(b[0], b[1], b[2], b[3]), BAD);
    }
  }

  private static void odds(SilverFleets x, int set, int w, int k, int upper, int lower) {
    String call = "odds(" + set + ", " + w + ", " + k + ", ";
    Checks.due(call + "0)", x.odds(set, w, k, 0), upper);
    Checks.due(call + "1)", x.odds(set, w, k, 1), lower);
  }

  private static void odds() {
    SilverFleets x = Checks.told("w3 0;w5 1;w0 0;w10 0;s9 0 1 0;s0 9 0 0;s1 0 0 5;");
    odds(x, 1, 0, 0, 1, 1);
    odds(x, 1, 0, 1, 7, 10);
    odds(x, 1, 0, 2, 0, 1);
    odds(x, 3, 0, 1, 91, 100);
    odds(x, 3, 0, 2, 49, 100);
    odds(x, 7, 0, 1, 973, 1000);
    odds(x, 7, 0, 2, 98, 125);
    odds(x, 7, 0, 3, 343, 1000);
    odds(x, 7, 0, 4, 0, 1);
    odds(x, 7, 0, 5, 0, 1);
    // enough guns, or the richest doesn't come
    odds(x, 3, 1, 2, 1, 4);
    odds(x, 6, 1, 1, 1, 2);
    odds(x, 6, 1, 2, 0, 1);
    odds(x, 2, 1, 0, 1, 1);
    odds(x, 2, 1, 1, 0, 1);
    odds(x, 7, 2, 3, 1, 1);
    odds(x, 7, 3, 1, 0, 1);
    odds(x, 7, 3, 0, 1, 1);
    x.sails(1, 3);
    x.waits();
    odds(x, 3, 0, 2, 49, 100);
    Checks.due("deeds", x.count(3), 2);
    SilverFleets all = Checks.told("w3 0;" + "s1 0 0 0;".repeat(5));
    odds(all, 31, 0, 5, 16807, 100000);
    odds(all, 31, 0, 1, 99757, 100000);
    // who was taken in a week past can be asked for in another
    SilverFleets y = Checks.told("w0 5;w5 0;s9 0 0 0;s1 0 0 0;");
    y.sails(1, 0);
    odds(y, 3, 1, 2, 1, 4);
    odds(y, 3, 0, 1, 1, 1);
    odds(y, 3, 0, 2, 0, 1);
  }

  private static void oddsRefused() {
    SilverFleets x = Checks.told("w0 0;s1 0 0 0;");
    int[][] bad = {{0, 0, 0, 0}, {2, 0, 0, 0}, {-1, 0, 0, 0}, {1, 1, 0, 0}, {1, -1, 0, 0}, {1, 0, 6, 0}, {1, 0, -1, 0},
        {1, 0, 0, 2}, {1, 0, 0, -1}, {Integer.MIN_VALUE, 0, 0, 0}, {1, 0, Integer.MAX_VALUE, 0}};
    for (int[] b : bad) {
      Checks.due("odds(" + b[0] + ", " + b[1] + ", " + b[2] + ", " + b[3] + ")", x.odds(b[0], b[1], b[2], b[3]), BAD);
    }
  }

  private static void register(SilverFleets x, int n, int sets, int inAll, int inSome) {
    Checks.due("register(" + n + ", 0)", x.register(n, 0), sets);
    Checks.due("register(" + n + ", 1)", x.register(n, 1), inAll);
    Checks.due("register(" + n + ", 2)", x.register(n, 2), inSome);
  }

  private static void registers() {
    register(new SilverFleets(), 0, 1, 0, 0);
    register(new SilverFleets(), 1, 0, NONE, 0);
    SilverFleets x = Checks.told("w10 0;w0 9;s10 1 0 0;s20 2 0 0;s30 3 0 0;s7 4 0 0;");
    register(x, 0, 1, 0, 0);
    register(x, 10, 1, 1, 1);
    register(x, 30, 2, 0, 7);
    register(x, 37, 2, 8, 15);
    register(x, 60, 1, 7, 7);
    register(x, 67, 1, 15, 15);
    register(x, 1, 0, NONE, 0);
    register(x, 300, 0, NONE, 0);
    x.sails(3, 0);
    x.waits();
    x.sails(4, 0);
    register(x, 30, 2, 0, 7);
    x.raises(0);
    register(x, 30, 2, 4, 5);
    register(x, 0, 2, 0, 1);
    x.lists(3, 3);
    register(x, 10, 2, 8, 9);
    SilverFleets most = Checks.told("s60 0 0 0;".repeat(5));
    register(most, 300, 1, 31, 31);
    register(most, 60, 5, 0, 31);
    register(most, 180, 10, 0, 31);
    int[][] bad = {{-1, 0}, {301, 0}, {0, 3}, {0, -1}, {Integer.MAX_VALUE, 0}, {Integer.MIN_VALUE, 0}};
    for (int[] b : bad) {
      Checks.due("register(" + b[0] + ", " + b[1] + ")", x.register(b[0], b[1]), BAD);
    }
  }
}
