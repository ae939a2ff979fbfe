/** Promises 7 to 14: what is done, and undone, and how it stands then. */
public final class DeedsTest {
  private static final int BAD = SilverFleets.BAD;
  private static final int STATE = SilverFleets.STATE;

  public static void main(String[] args) {
    waiting();
    sailingHome();
    sailingByDraws();
    sailingWithPirates();
    sailingRefused();
    listing();
    hiding();
    throwing();
    raising();
    undoing();
    undoneTen();
    howItStands();
    Checks.end();
  }

  private static void waiting() {
    SilverFleets x = Checks.told("w0 0;w0 0;");
    Checks.due("waits()", x.waits(), 1);
    Checks.due("not over", x.now(4), 0);
    Checks.due("waits() to the end", x.waits(), 2);
    Checks.due("over", x.now(4), 1);
    Checks.due("waits() when over", x.waits(), STATE);
    Checks.due("the week stays", x.now(0), 2);
    Checks.due("nothing to undo of what was refused", x.count(3), 2);
  }

  private static void sailingHome() {
    SilverFleets x = Checks.told("w0 0;s19 30 0 0;s19 1 0 0;s60 60 0 0;k5;");
    Checks.due("two are home", x.sails(3, 7), 2);
    Checks.due("home silver", x.now(2), 69);
    Checks.due("the part of each is cut by itself", x.now(3), 18);
    Checks.due("the week stays", x.now(0), 0);
    Checks.due("one in port", x.now(1), 4);
    Checks.due("ship 0 is home", x.ship(0, 4), 1);
    Checks.due("its listed stays told", x.ship(0, 0), 19);
    Checks.due("the third comes", x.sails(4, 7), 1);
    Checks.due("home silver of all", x.now(2), 189);
    Checks.due("part of all", x.now(3), 48);
    Checks.due("none in port", x.now(1), 0);
    Checks.due("may be undone", x.count(3), 2);
  }

  /** Draws with z = 77 in week 0: ships 0 to 4 have 4, 2, 6, 6, 1. */
  private static void sailingByDraws() {
    String ships = "s1 0 0 0;s2 0 0 0;s4 0 0 0;s8 0 0 0;s16 0 0 0;";
    int[] home = {31, 31, 15, 13, 13, 12, 12, 0, 0, 0, 0};
    for (int storm = 0; storm <= 10; storm++) {
      SilverFleets x = Checks.told("w" + storm + " 0;" + ships);
      Checks.due("home by storm " + storm, x.sails(31, 77), Integer.bitCount(home[storm]));
      Checks.due("silver by storm " + storm, x.now(2), home[storm]);
      Checks.due("reef by storm " + storm, x.now(5), 31 - home[storm]);
      for (int s = 0; s < 5; s++) {
        Checks.due("where ship " + s + " is", x.ship(s, 4), (home[storm] >> s & 1) == 1 ? 1 : 3);
      }
    }
    // the draw of (z, ship, week), beyond an int's square too
    drawIs(0, 0, 0, 0);
    drawIs(1, 0, 0, 0);
    drawIs(2, 0, 0, 1);
    drawIs(3, 0, 0, 3);
    drawIs(0, 1, 0, 5);
    drawIs(0, 0, 1, 4);
    drawIs(5000, 0, 1, 6);
    drawIs(5000, 2, 1, 0);
    drawIs(9999, 0, 0, 2);
    drawIs(9999, 4, 11, 3);
  }

  private static void drawIs(int z, int s, int week, int draw) {
    for (int storm = draw; storm <= draw + 1; storm++) {
      SilverFleets x = Checks.told(("w" + storm + " 0;").repeat(12) + "s1 0 0 0;".repeat(5));
      for (int w = 0; w < week; w++) {
        x.waits();
      }
      Checks.due("z " + z + " ship " + s + " week " + week + " storm " + storm,
          x.sails(1 << s, z), storm == draw ? 1 : 0);
    }
  }

  private static void sailingWithPirates() {
    SilverFleets x = Checks.told("w0 9;s10 0 4 0;s5 6 5 0;s6 5 0 0;");
    Checks.due("guns enough", x.sails(7, 0), 3);
    x.undo();
    Checks.due("too few guns: the richest is taken, the lower of two", x.sails(5 | 2, 0), 3);
    x.undo();
    Checks.due("one gun too few", x.sails(6, 0), 1);
    Checks.due("the lower is taken", x.ship(1, 4), 2);
    Checks.due("the other is home", x.ship(2, 4), 1);
    Checks.due("taken silver isn't home", x.now(2), 11);
    Checks.due("taken silver isn't on the reef", x.now(5), 0);
    x.undo();
    Checks.due("alone and taken", x.sails(1, 0), 0);
    Checks.due("it is taken", x.ship(0, 4), 2);
    Checks.due("no part of it", x.now(3), 0);

    SilverFleets y = Checks.told("w10 1;s0 0 0 0;s0 0 0 0;");
    Checks.due("taken is not wrecked", y.sails(3, 0), 0);
    Checks.due("the taken one has no silver", y.ship(0, 4), 2);
    Checks.due("the other is wrecked", y.ship(1, 4), 3);
  }

  private static void sailingRefused() {
    SilverFleets x = Checks.told("w0 0;w0 0;s1 0 0 0;s1 0 0 1;");
    int[][] bad = {{0, 0}, {4, 0}, {5, 0}, {-1, 0}, {32, 0}, {Integer.MIN_VALUE, 0}, {Integer.MAX_VALUE, 0},
        {1, -1}, {1, 10000}, {1, Integer.MAX_VALUE}, {2, 10000}};
    for (int[] b : bad) {
      Checks.due("sails(" + b[0] + ", " + b[1] + ")", x.sails(b[0], b[1]), BAD);
    }
    Checks.due("one is not ready", x.sails(3, 0), STATE);
    Checks.due("all stay in port", x.now(1), 3);
    Checks.due("z at most", x.sails(1, 9999), 1);
    Checks.due("one is not in port", x.sails(1, 0), STATE);
    x.waits();
    Checks.due("one of two is not in port", x.sails(3, 0), STATE);
    Checks.due("ready just then", x.sails(2, 0), 1);
    x.undo();
    x.waits();
    Checks.due("it is over", x.sails(2, 0), STATE);
    Checks.due("BAD ahead of STATE", x.sails(2, -1), BAD);
    Checks.due("as many deeds as were done", x.count(3), 3);
  }

  private static void listing() {
    SilverFleets x = Checks.told("w0 0;s10 60 0 0;s60 1 0 0;s0 3 0 0;");
    Checks.due("lists(0, 1)", x.lists(0, 1), 11);
    Checks.due("hidden then", x.ship(0, 1), 59);
    Checks.due("up to 60", x.lists(0, 49), 60);
    Checks.due("hidden then", x.ship(0, 1), 10);
    Checks.due("listed above 60", x.lists(0, 1), STATE);
    Checks.due("listed above 60 too", x.lists(1, 1), STATE);
    Checks.due("not so many hidden", x.lists(2, 4), STATE);
    Checks.due("all hidden", x.lists(2, 3), 3);
    int[][] bad = {{0, 0}, {0, 61}, {0, -1}, {3, 1}, {-1, 1}, {0, Integer.MAX_VALUE}, {0, Integer.MIN_VALUE}};
    for (int[] b : bad) {
      Checks.due("lists(" + b[0] + ", " + b[1] + ")", x.lists(b[0], b[1]), BAD);
    }
    x.sails(1, 0);
    Checks.due("not in port", x.lists(0, 1), STATE);
    Checks.due("deeds", x.count(3), 4);
    x.waits();
    Checks.due("hides when over", x.hides(2, 3), 3);
    Checks.due("lists when over", x.lists(2, 3), 3);
    SilverFleets y = Checks.told("s0 60 0 0;");
    Checks.due("sixty at once", y.lists(0, 60), 60);
  }

  private static void hiding() {
    SilverFleets x = Checks.told("w0 0;s60 10 0 0;s1 60 0 0;s3 0 0 0;");
    Checks.due("hides(0, 1)", x.hides(0, 1), 11);
    Checks.due("listed then", x.ship(0, 0), 59);
    Checks.due("up to 60", x.hides(0, 49), 60);
    Checks.due("listed then", x.ship(0, 0), 10);
    Checks.due("hidden above 60", x.hides(0, 1), STATE);
    Checks.due("hidden above 60 too", x.hides(1, 1), STATE);
    Checks.due("not so many listed", x.hides(2, 4), STATE);
    Checks.due("all listed", x.hides(2, 3), 3);
    int[][] bad = {{0, 0}, {0, 61}, {0, -1}, {3, 1}, {-1, 1}, {0, Integer.MAX_VALUE}, {0, Integer.MIN_VALUE}};
    for (int[] b : bad) {
      Checks.due("hides(" + b[0] + ", " + b[1] + ")", x.hides(b[0], b[1]), BAD);
    }
    x.sails(1, 0);
    Checks.due("not in port", x.hides(0, 1), STATE);
    Checks.due("deeds", x.count(3), 4);
    SilverFleets y = Checks.told("s60 0 0 0;");
    Checks.due("sixty at once", y.hides(0, 60), 60);
  }

  private static void throwing() {
    SilverFleets x = Checks.told("w0 0;s60 60 0 0;s5 5 0 0;");
    Checks.due("throwsOff(0, 59)", x.throwsOff(0, 59), 61);
    Checks.due("hidden ones first", x.ship(0, 1), 1);
    Checks.due("listed stay", x.ship(0, 0), 60);
    Checks.due("throwsOff(0, 11)", x.throwsOff(0, 11), 50);
    Checks.due("no hidden left", x.ship(0, 1), 0);
    Checks.due("then listed", x.ship(0, 0), 50);
    Checks.due("not so much", x.throwsOff(0, 51), STATE);
    Checks.due("all of it", x.throwsOff(0, 50), 0);
    Checks.due("more than there is", x.throwsOff(1, 99), STATE);
    int[][] bad = {{0, 0}, {0, 100}, {0, -1}, {2, 1}, {-1, 1}, {0, Integer.MAX_VALUE}, {0, Integer.MIN_VALUE}};
    for (int[] b : bad) {
      Checks.due("throwsOff(" + b[0] + ", " + b[1] + ")", x.throwsOff(b[0], b[1]), BAD);
    }
    x.sails(2, 0);
    Checks.due("not in port", x.throwsOff(1, 1), STATE);
    Checks.due("deeds", x.count(3), 4);
    SilverFleets y = Checks.told("s60 60 0 0;");
    Checks.due("99 at once", y.throwsOff(0, 99), 21);
    Checks.due("hidden then", y.ship(0, 1), 0);
    Checks.due("listed then", y.ship(0, 0), 21);
  }

  private static void raising() {
    SilverFleets x = Checks.told("w10 0;w0 0;w0 9;s10 5 0 0;s7 0 0 0;s9 9 0 0;s1 1 0 0;k10;");
    Checks.due("raises in port", x.raises(0), STATE);
    x.sails(3, 0);
    Checks.due("reef", x.now(5), 22);
    Checks.due("raises(0)", x.raises(0), 7);
    Checks.due("raised", x.ship(0, 4), 4);
    Checks.due("no listed", x.ship(0, 0), 0);
    Checks.due("no hidden", x.ship(0, 1), 0);
    Checks.due("reef then", x.now(5), 7);
    Checks.due("home silver", x.now(2), 7);
    Checks.due("none of it the king's", x.now(3), 0);
    Checks.due("raises again", x.raises(0), STATE);
    x.waits();
    x.sails(4, 0);
    Checks.due("raises of one at home", x.raises(2), STATE);
    x.waits();
    x.sails(8, 0);
    Checks.due("raises of one taken", x.raises(3), STATE);
    x.waits();
    Checks.due("raises when over", x.raises(1), 3);
    Checks.due("home silver of all", x.now(2), 28);
    Checks.due("raises(4)", x.raises(4), BAD);
    Checks.due("raises(-1)", x.raises(-1), BAD);
    Checks.due("raises(min)", x.raises(Integer.MIN_VALUE), BAD);
    Checks.due("undo of it", x.undo(), 7);
    Checks.due("wrecked again", x.ship(1, 4), 3);
    Checks.due("its silver again", x.ship(1, 0), 7);
    Checks.due("home silver as before", x.now(2), 25);
  }

  private static void undoing() {
    SilverFleets x = Checks.told("w10 0;w0 0;s10 20 0 0;s30 10 0 0;k5;");
    x.sails(1, 0);
    x.raises(0);
    x.waits();
    x.sails(2, 0);
    Checks.due("now(2)", x.now(2), 55);
    Checks.due("now(3)", x.now(3), 15);
    Checks.due("undo of sails", x.undo(), 3);
    Checks.due("in port again", x.now(1), 2);
    Checks.due("silver as before", x.now(2), 15);
    Checks.due("part as before", x.now(3), 0);
    Checks.due("undo of waits", x.undo(), 2);
    Checks.due("week as before", x.now(0), 0);
    Checks.due("undo of raises", x.undo(), 1);
    Checks.due("hidden as before", x.ship(0, 1), 20);
    Checks.due("on the reef", x.now(5), 30);
    Checks.due("undo of sails", x.undo(), 0);
    Checks.due("none more", x.undo(), STATE);
    x.lists(0, 5);
    x.hides(1, 5);
    x.throwsOff(0, 20);
    Checks.due("listed", x.ship(0, 0), 10);
    Checks.due("undo of throwsOff", x.undo(), 2);
    Checks.due("listed again", x.ship(0, 0), 15);
    Checks.due("hidden again", x.ship(0, 1), 15);
    Checks.due("undo of hides", x.undo(), 1);
    Checks.due("hidden again", x.ship(1, 1), 10);
    Checks.due("undo of lists", x.undo(), 0);
    Checks.due("listed again", x.ship(0, 0), 10);
  }

  private static void undoneTen() {
    SilverFleets x = Checks.told("s60 0 0 0;");
    for (int n = 1; n <= 13; n++) {
      x.throwsOff(0, n);
      Checks.due("known behind " + n, x.count(3), Math.min(n, 10));
    }
    // 1 + .. + 11 = 66 are more than 60: ten deeds were done, three refused
    Checks.due("silver", x.ship(0, 0), 5);

    SilverFleets y = Checks.told("s60 60 0 0;");
    for (int n = 1; n <= 12; n++) {
      y.throwsOff(0, n);
    }
    Checks.due("silver of twelve", y.ship(0, 0) + y.ship(0, 1), 42);
    int silver = 42;
    for (int n = 12; n >= 3; n--) {
      silver += n;
      Checks.due("undo " + n, y.undo(), n - 3);
      Checks.due("silver behind undo " + n, y.ship(0, 0) + y.ship(0, 1), silver);
    }
    Checks.due("the oldest are lost", y.undo(), STATE);
    Checks.due("silver at last", y.ship(0, 0) + y.ship(0, 1), 117);
  }

  private static void howItStands() {
    SilverFleets x = Checks.told("w10 0;s10 20 0 0;s1 2 0 0;s5 5 0 1;");
    int[] before = {0, 7, 0, 0, 0, 0};
    for (int what = 0; what < before.length; what++) {
      Checks.due("now(" + what + ")", x.now(what), before[what]);
    }
    x.sails(3, 1);
    x.waits();
    int[] then = {1, 4, 0, 0, 1, 33};
    for (int what = 0; what < then.length; what++) {
      Checks.due("now(" + what + ") then", x.now(what), then[what]);
    }
    Checks.due("now(6)", x.now(6), BAD);
    Checks.due("now(-1)", x.now(-1), BAD);
  }
}
