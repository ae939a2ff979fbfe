import java.math.BigInteger;

/** The bounds of the document's part 2 and of promises 7 to 14: what is done, refused, undone. */
public final class DeedBoundsTest {
  private static final int BAD = SilverFleets.BAD;
  private static final int STATE = SilverFleets.STATE;
  private static final int PORT = 0;
  private static final int HOME = 1;
  private static final int TAKEN = 2;
  private static final int WRECKED = 3;
  private static final int RAISED = 4;

  public static void main(String[] args) {
    theSceneIsAsTold();
    waitsToTheLastWeek();
    waitsWhenOver();
    sailsSomeShips();
    sailsWithZ();
    sailsWhenReady();
    sailsFromPortAlone();
    sailsNotWhenOver();
    sailsBadAheadOfState();
    gunsAsManyAsPirates();
    takenOfSeveralTheLowest();
    takenIsNeverWrecked();
    drawThatIsStorm();
    stormsOfNoneAndOfAll();
    drawsOfAllZ();
    partIsCut();
    homeSilverAtMost();
    listsAndHidesN();
    listsUpTo60();
    hidesUpTo60();
    movesOfShipsInPort();
    throwsN();
    throwsHiddenFirst();
    throwsOfShipsInPort();
    raisesHalf();
    raisesEachOfFive();
    raisesTheWreckedAlone();
    silverMovesWhenOver();
    undoOfEveryDeed();
    undoTen();
    undoNone();
    whatIsNoDeed();
    nowAndItsWhat();
    Checks.end();
  }

  private static void refused(String call, Twins.Call asked, int answer) {
    Twins.refused(call, Twins::everywhere, asked, answer);
  }

  private static void waits(SilverFleets x, int many) {
    for (int i = 0; i < many; i++) {
      x.waits();
    }
  }

  private static void theSceneIsAsTold() {
    SilverFleets x = new SilverFleets();
    Twins.everywhere(x);
    int[] places = {RAISED, WRECKED, TAKEN, HOME, PORT};
    for (int s = 0; s < places.length; s++) {
      Checks.due("the scene: ship " + s, x.ship(s, 4), places[s]);
    }
    int[] now = {2, 16, 32, 7, 0, 31};
    for (int what = 0; what < now.length; what++) {
      Checks.due("the scene: now(" + what + ")", x.now(what), now[what]);
    }
    int[] counts = {4, 5, 7, 8, 6};
    for (int what = 0; what < counts.length; what++) {
      Checks.due("the scene: count(" + what + ")", x.count(what), counts[what]);
    }
    Checks.due("the scene: trace()", x.trace(), 1011);
  }

  // "THE WEEK is 0 at first; at last it is as many as WEEKS there are (the season is OVER)."
  private static void waitsToTheLastWeek() {
    for (int weeks = 0; weeks <= 12; weeks++) {
      SilverFleets x = Checks.told("w0 0;".repeat(weeks) + "s1 1 1 0;");
      Checks.due("the week at first", x.now(0), 0);
      for (int w = 1; w <= weeks; w++) {
        Checks.due("not over in week " + (w - 1) + " of " + weeks, x.now(4), 0);
        Checks.due("waits()", x.waits(), w);
        Checks.due("the week then", x.now(0), w);
      }
      Checks.due("over behind " + weeks, x.now(4), 1);
      Checks.due("waits() behind " + weeks, x.waits(), STATE);
      Checks.due("the week stays", x.now(0), weeks);
      Checks.due("as many may be undone, ten at most", x.count(3), Math.min(weeks, 10));
    }
  }

  // "STATE: it is OVER."
  private static void waitsWhenOver() {
    Twins.refused("waits() when over", Twins::over, x -> x.waits(), STATE);
    Twins.refused("waits() without weeks", x -> Checks.type(x, "k1"), x -> x.waits(), STATE);
    SilverFleets x = Checks.told("w0 0;");
    x.waits();
    x.undo();
    Checks.due("undone: not over", x.now(4), 0);
    Checks.due("undone: waits() again", x.waits(), 1);
  }

  // "some SHIPS (bits; one at least)"
  private static void sailsSomeShips() {
    for (int ships = 0; ships <= 5; ships++) {
      String text = "w0 0;" + "s1 0 0 0;".repeat(ships);
      int all = (1 << ships) - 1;
      int[] bad = {0, all + 1, all + 2, -1, -32, 32, 63, 1 << 30, Twins.FAR_UP, Twins.FAR_DOWN, Twins.FAR_DOWN + 1};
      Twins.Way way = x -> {
        Checks.type(x, text);
        x.season();
      };
      for (int set : bad) {
        Twins.refused(ships + " ships: sails(" + set + ", 0)", way, x -> x.sails(set, 0), BAD);
      }
      for (int set = 1; set <= all; set++) {
        SilverFleets x = Checks.told(text);
        Checks.due(ships + " ships: sails(" + set + ", 0)", x.sails(set, 0), Integer.bitCount(set));
        Checks.due("in port then", x.now(1), all & ~set);
        Checks.due("home silver", x.now(2), Integer.bitCount(set));
      }
    }
  }

  // "z (0 .. 9999)"
  private static void sailsWithZ() {
    Twins.Way way = x -> {
      Checks.type(x, "w0 0;s1 0 0 0;");
      x.season();
    };
    int[] bad = {-1, 10000, 10001, -9999, Twins.FAR_UP, Twins.FAR_DOWN};
    for (int z : bad) {
      Twins.refused("sails(1, " + z + ")", way, x -> x.sails(1, z), BAD);
    }
    for (int z : new int[] {0, 1, 9998, 9999}) {
      SilverFleets x = Checks.told("w0 0;s1 0 0 0;");
      Checks.due("sails(1, " + z + ")", x.sails(1, z), 1);
    }
  }

  // "READY (THE WEEK is READY or later)"
  private static void sailsWhenReady() {
    for (int ready = 0; ready <= 11; ready++) {
      SilverFleets x = Checks.told("w0 0;".repeat(12) + "s1 0 0 " + ready + ";s1 0 0 0;");
      for (int w = 0; w < ready; w++) {
        Checks.due("ready from " + ready + " on, in week " + w, x.sails(1, 0), STATE);
        Checks.due("with another one", x.sails(3, 0), STATE);
        x.waits();
      }
      Checks.due("ready from " + ready + " on, just then", x.sails(3, 0), 2);
      SilverFleets later = Checks.told("w0 0;".repeat(12) + "s1 0 0 " + ready + ";");
      waits(later, 11);
      Checks.due("ready from " + ready + " on, in the last week", later.sails(1, 0), 1);
    }
    // ready only when all is over
    SilverFleets never = Checks.told("w0 0;s1 0 0 1;");
    Checks.due("not ready", never.sails(1, 0), STATE);
    never.waits();
    Checks.due("ready, but over", never.sails(1, 0), STATE);
    refused("sails(16, 0): not ready", x -> x.sails(16, 0), STATE);
  }

  // "that are in PORT", "STATE: .. one is not in PORT"
  private static void sailsFromPortAlone() {
    for (int s = 0; s < 4; s++) {
      int set = 1 << s;
      refused("sails(" + set + ", 0)", x -> x.sails(set, 0), STATE);
      Twins.Way ready = x -> {
        Twins.everywhere(x);
        x.waits();
      };
      Twins.refused("sails(" + (set | 16) + ", 0): one not in port, one ready", ready, x -> x.sails(set | 16, 0), STATE);
    }
    SilverFleets x = new SilverFleets();
    Twins.everywhere(x);
    x.waits();
    Checks.due("the one in port alone", x.sails(16, 3) >= 0);
    x.undo();
    Checks.due("and again", x.sails(16, 3) >= 0);
    Checks.due("no more", x.sails(16, 3), STATE);
  }

  private static void sailsNotWhenOver() {
    Twins.refused("sails(16, 0) when over", Twins::over, x -> x.sails(16, 0), STATE);
    Twins.Way noWeeks = x -> {
      Checks.type(x, "s1 1 1 0;");
      x.season();
    };
    Twins.refused("sails(1, 0) without weeks", noWeeks, x -> x.sails(1, 0), STATE);
  }

  // "Refused, and nothing changes, the first of these: BAD .., STATE"
  private static void sailsBadAheadOfState() {
    Twins.refused("sails(0, 0) when over", Twins::over, x -> x.sails(0, 0), BAD);
    Twins.refused("sails(32, 0) when over", Twins::over, x -> x.sails(32, 0), BAD);
    Twins.refused("sails(16, -1) when over", Twins::over, x -> x.sails(16, -1), BAD);
    Twins.refused("sails(16, 10000) when over", Twins::over, x -> x.sails(16, 10000), BAD);
    refused("sails(1, 10000) of one not in port", x -> x.sails(1, 10000), BAD);
    refused("sails(33, 0) of one not in port", x -> x.sails(33, 0), BAD);
    refused("sails(16, -1) of one not ready", x -> x.sails(16, -1), BAD);
  }

  // "if their GUNS together are fewer than PIRATES"
  private static void gunsAsManyAsPirates() {
    for (int pirates = 0; pirates <= 40; pirates++) {
      String text = "w0 " + pirates + ";s1 0 9 0;s2 0 9 0;s3 0 9 0;s4 0 9 0;s5 0 4 0;";
      for (int set = 1; set <= 31; set++) {
        int guns = 9 * Integer.bitCount(set & 15) + 4 * (set >> 4);
        SilverFleets x = Checks.told(text);
        int many = Integer.bitCount(set);
        Checks.due(guns + " guns against " + pirates, x.sails(set, 0), guns < pirates ? many - 1 : many);
        // the richest is the one of the highest number here
        int richest = 31 - Integer.numberOfLeadingZeros(set);
        Checks.due("where the richest is", x.ship(richest, 4), guns < pirates ? TAKEN : HOME);
      }
    }
    SilverFleets most = Checks.told("w0 40;" + "s1 0 9 0;".repeat(5));
    Checks.due("45 guns", most.sails(31, 0), 5);
  }

  // "that of most SILVER (of several the lowest) is TAKEN"
  private static void takenOfSeveralTheLowest() {
    for (int set = 1; set <= 31; set++) {
      SilverFleets alike = Checks.told("w0 1;s7 0 0 0;s0 7 0 0;s3 4 0 0;s7 0 0 0;s6 1 0 0;");
      SilverFleets none = Checks.told("w0 1;" + "s0 0 0 0;".repeat(5));
      int lowest = Integer.numberOfTrailingZeros(set);
      alike.sails(set, 0);
      none.sails(set, 0);
      for (int s = 0; s < 5; s++) {
        int place = (set >> s & 1) == 0 ? PORT : s == lowest ? TAKEN : HOME;
        Checks.due("alike, set " + set + ": ship " + s, alike.ship(s, 4), place);
        Checks.due("without silver, set " + set + ": ship " + s, none.ship(s, 4), place);
      }
    }
    // a bar more outweighs being the lowest; hidden ones count as listed ones
    SilverFleets last = Checks.told("w0 1;s7 0 0 0;s0 7 0 0;s3 4 0 0;s7 0 0 0;s4 4 0 0;");
    last.sails(31, 0);
    Checks.due("the last has a bar more", last.ship(4, 4), TAKEN);
    SilverFleets now = Checks.told("w0 1;s7 0 0 0;s0 7 0 0;");
    now.throwsOff(0, 1);
    now.sails(3, 0);
    Checks.due("silver as it is now", now.ship(1, 4), TAKEN);
    Checks.due("the other", now.ship(0, 4), HOME);
  }

  private static void takenIsNeverWrecked() {
    SilverFleets x = Checks.told("w10 40;" + "s60 60 0 0;".repeat(5));
    Checks.due("none comes home", x.sails(31, 0), 0);
    int[] places = {TAKEN, WRECKED, WRECKED, WRECKED, WRECKED};
    for (int s = 0; s < 5; s++) {
      Checks.due("storm 10, pirates 40: ship " + s, x.ship(s, 4), places[s]);
    }
    Checks.due("on the reef", x.now(5), 480);
    Checks.due("home silver", x.now(2), 0);
    Checks.due("part", x.now(3), 0);
    Checks.due("the taken one's listed", x.ship(0, 0), 60);
  }

  // "WRECKED, if DRAW is below STORM": ship 0 in week 0 draws 3 with z = 3
  private static void drawThatIsStorm() {
    for (int storm = 0; storm <= 10; storm++) {
      SilverFleets x = Checks.told("w" + storm + " 0;s5 0 0 0;");
      Checks.due("draw 3, storm " + storm, x.sails(1, 3), 3 < storm ? 0 : 1);
      Checks.due("where it is", x.ship(0, 4), 3 < storm ? WRECKED : HOME);
      Checks.due("silver", x.now(3 < storm ? 5 : 2), 5);
    }
  }

  private static void stormsOfNoneAndOfAll() {
    SilverFleets calm = Checks.told("w0 0;" + "s1 0 0 0;".repeat(5));
    SilverFleets wild = Checks.told("w10 0;" + "s1 0 0 0;".repeat(5));
    for (int z = 0; z < 200; z++) {
      Checks.due("storm 0, z " + z, calm.sails(31, z * 50), 5);
      Checks.due("storm 10, z " + z, wild.sails(31, z * 50), 0);
      calm.undo();
      wild.undo();
    }
  }

  private static int draw(int z, int s, int w) {
    BigInteger q = BigInteger.valueOf(7919L * z).add(BigInteger.valueOf(6151L * s + 12289L * w + 1));
    return q.multiply(q).mod(BigInteger.valueOf(65521)).intValue() / 8 % 10;
  }

  // "((q times q) modulo 65521) by 8, cut, modulo 10, q being 7919 z, 6151 times the SHIP, .."
  private static void drawsOfAllZ() {
    String ships = "s1 0 0 0;s2 0 0 0;s4 0 0 0;s8 0 0 0;s16 0 0 0;";
    for (int storm = 1; storm <= 9; storm++) {
      for (int week = 0; week < 12; week++) {
        SilverFleets x = Checks.told(("w" + storm + " 0;").repeat(12) + ships);
        waits(x, week);
        for (int i = 0; i < 100; i++) {
          int z = i == 0 ? 9999 : (i * 101 + storm * 997 + week * 13) % 10000;
          int home = 0;
          for (int s = 0; s < 5; s++) {
            home += draw(z, s, week) < storm ? 0 : 1 << s;
          }
          x.sails(31, z);
          Checks.due("storm " + storm + ", week " + week + ", z " + z, x.now(2), home);
          x.undo();
        }
      }
    }
  }

  // "the king's PART is SHARE times their LISTED by 10, cut (for each by itself), more"
  private static void partIsCut() {
    for (int share = 0; share <= 10; share++) {
      for (int listed : new int[] {0, 1, 4, 5, 9, 10, 11, 19, 59, 60}) {
        SilverFleets x = Checks.told("w0 0;s" + listed + " 60 0 0;s" + listed + " 0 0 0;k" + share + ";");
        x.sails(1, 0);
        Checks.due("part of " + listed + " by " + share, x.now(3), share * listed / 10);
        Checks.due("home silver is whole", x.now(2), listed + 60);
        x.sails(2, 0);
        Checks.due("of another one more", x.now(3), 2 * (share * listed / 10));
        SilverFleets together = Checks.told("w0 0;s" + listed + " 60 0 0;s" + listed + " 0 0 0;k" + share + ";");
        together.sails(3, 0);
        Checks.due("of both together, each by itself", together.now(3), 2 * (share * listed / 10));
      }
    }
  }

  private static void homeSilverAtMost() {
    SilverFleets x = Checks.told("w0 0;" + "s60 60 0 0;".repeat(5) + "k10;");
    Checks.due("all come home", x.sails(31, 0), 5);
    Checks.due("home silver at most", x.now(2), 600);
    Checks.due("part at most", x.now(3), 300);
    Checks.due("none in port", x.now(1), 0);
  }

  // "n (1 .. 60)"
  private static void listsAndHidesN() {
    int[][] bad = {{4, 0}, {4, 61}, {4, -1}, {4, Twins.FAR_UP}, {4, Twins.FAR_DOWN}, {5, 1}, {-1, 1}, {Twins.FAR_UP, 1},
        {Twins.FAR_DOWN, 1}, {5, 0}};
    for (int[] b : bad) {
      refused("lists(" + b[0] + ", " + b[1] + ")", x -> x.lists(b[0], b[1]), BAD);
      refused("hides(" + b[0] + ", " + b[1] + ")", x -> x.hides(b[0], b[1]), BAD);
      Twins.refused("lists(" + b[0] + ", " + b[1] + ") over", Twins::over, x -> x.lists(b[0], b[1]), BAD);
      Twins.refused("hides(" + b[0] + ", " + b[1] + ") over", Twins::over, x -> x.hides(b[0], b[1]), BAD);
    }
    // of a ship not in port they are BAD all the same
    for (int s = 0; s < 4; s++) {
      int ship = s;
      refused("lists(" + s + ", 0)", x -> x.lists(ship, 0), BAD);
      refused("lists(" + s + ", 61)", x -> x.lists(ship, 61), BAD);
      refused("hides(" + s + ", 0)", x -> x.hides(ship, 0), BAD);
      refused("hides(" + s + ", 61)", x -> x.hides(ship, 61), BAD);
    }
    Checks.due("lists 60", Checks.told("s0 60 0 0;").lists(0, 60), 60);
    Checks.due("hides 60", Checks.told("s60 0 0 0;").hides(0, 60), 60);
    Checks.due("lists 1", Checks.told("s0 1 0 0;").lists(0, 1), 1);
    Checks.due("hides 1", Checks.told("s1 0 0 0;").hides(0, 1), 1);
    Twins.Way one = x -> {
      Checks.type(x, "s60 60 0 0;");
      x.season();
    };
    Twins.refused("lists(1, 1): no such ship", one, x -> x.lists(1, 1), BAD);
    Twins.refused("hides(1, 1): no such ship", one, x -> x.hides(1, 1), BAD);
  }

  private static Twins.Way ship(int listed, int hidden) {
    return x -> {
      Checks.type(x, "w0 0;s" + listed + " " + hidden + " 0 0;");
      x.season();
    };
  }

  private static void movesTo(String call, SilverFleets x, int answer, int due, int listed, int hidden) {
    Checks.due(call, answer, due);
    Checks.due(call + ": listed", x.ship(0, 0), listed);
    Checks.due(call + ": hidden", x.ship(0, 1), hidden);
    Checks.due(call + ": one more may be undone", x.count(3), 1);
  }

  // "not so many are HIDDEN, LISTED would be above 60"
  private static void listsUpTo60() {
    for (int n : new int[] {1, 2, 30, 59, 60}) {
      // as many as are hidden, and one more
      SilverFleets all = Checks.told("w0 0;s0 " + n + " 0 0;");
      movesTo("lists all " + n, all, all.lists(0, n), n, n, 0);
      Twins.refused("lists " + n + " of one less", ship(0, n - 1), x -> x.lists(0, n), STATE);
      // up to 60, and one more
      SilverFleets up = Checks.told("w0 0;s" + (60 - n) + " 60 0 0;");
      movesTo("lists " + n + " up to 60", up, up.lists(0, n), 60, 60, 60 - n);
      if (n < 60) {
        Twins.refused("lists " + (n + 1) + " above 60", ship(60 - n, 60), x -> x.lists(0, n + 1), STATE);
      }
    }
    Twins.refused("lists 1 to a full one", ship(60, 60), x -> x.lists(0, 1), STATE);
    Twins.refused("lists 60 to a full one", ship(60, 60), x -> x.lists(0, 60), STATE);
    Twins.refused("lists 1 of none", ship(5, 0), x -> x.lists(0, 1), STATE);
  }

  // "not so many are LISTED, HIDDEN would be above 60"
  private static void hidesUpTo60() {
    for (int n : new int[] {1, 2, 30, 59, 60}) {
      SilverFleets all = Checks.told("w0 0;s" + n + " 0 0 0;");
      movesTo("hides all " + n, all, all.hides(0, n), n, 0, n);
      Twins.refused("hides " + n + " of one less", ship(n - 1, 0), x -> x.hides(0, n), STATE);
      SilverFleets up = Checks.told("w0 0;s60 " + (60 - n) + " 0 0;");
      movesTo("hides " + n + " up to 60", up, up.hides(0, n), 60, 60 - n, 60);
      if (n < 60) {
        Twins.refused("hides " + (n + 1) + " above 60", ship(60, 60 - n), x -> x.hides(0, n + 1), STATE);
      }
    }
    Twins.refused("hides 1 to a full one", ship(60, 60), x -> x.hides(0, 1), STATE);
    Twins.refused("hides 60 to a full one", ship(60, 60), x -> x.hides(0, 60), STATE);
    Twins.refused("hides 1 of none", ship(0, 5), x -> x.hides(0, 1), STATE);
  }

  // "a SHIP in PORT", "STATE: it is not in PORT"
  private static void movesOfShipsInPort() {
    // ships that have silver of both kinds, in each place that still has any
    for (int s = 0; s < 4; s++) {
      int ship = s;
      refused("lists(" + s + ", 1) not in port", x -> x.lists(ship, 1), STATE);
      refused("hides(" + s + ", 1) not in port", x -> x.hides(ship, 1), STATE);
    }
    SilverFleets x = new SilverFleets();
    Twins.everywhere(x);
    Checks.due("lists(4, 1) in port", x.lists(4, 1), 28);
    Checks.due("hides(4, 1) in port", x.hides(4, 1), 30);
  }

  // "THROWN: n (1 .. 99) bars of a SHIP in PORT", "has not so much"
  private static void throwsN() {
    int[][] bad = {{4, 0}, {4, 100}, {4, -1}, {4, Twins.FAR_UP}, {4, Twins.FAR_DOWN}, {5, 1}, {-1, 1}, {Twins.FAR_UP, 1},
        {Twins.FAR_DOWN, 1}, {5, 100}, {0, 0}, {1, 100}, {2, 0}, {3, 100}};
    for (int[] b : bad) {
      refused("throwsOff(" + b[0] + ", " + b[1] + ")", x -> x.throwsOff(b[0], b[1]), BAD);
      Twins.refused("throwsOff(" + b[0] + ", " + b[1] + ") over", Twins::over, x -> x.throwsOff(b[0], b[1]), BAD);
    }
    Checks.due("throws 99 of 120", Checks.told("s60 60 0 0;").throwsOff(0, 99), 21);
    Checks.due("throws 99 of 99", Checks.told("s60 39 0 0;").throwsOff(0, 99), 0);
    Checks.due("throws 1 of 1", Checks.told("s1 0 0 0;").throwsOff(0, 1), 0);
    Checks.due("throws 1 of 1 hidden", Checks.told("s0 1 0 0;").throwsOff(0, 1), 0);
    Twins.refused("throws 99 of 98", ship(60, 38), x -> x.throwsOff(0, 99), STATE);
    Twins.refused("throws 61 of 60", ship(60, 0), x -> x.throwsOff(0, 61), STATE);
    Twins.refused("throws 1 of 0", ship(0, 0), x -> x.throwsOff(0, 1), STATE);
  }

  // "HIDDEN ones first"
  private static void throwsHiddenFirst() {
    for (int n = 1; n <= 99; n++) {
      SilverFleets x = Checks.told("w0 0;s60 39 0 0;");
      movesTo("throws " + n, x, x.throwsOff(0, n), 99 - n, n <= 39 ? 60 : 99 - n, n <= 39 ? 39 - n : 0);
    }
    SilverFleets none = Checks.told("w0 0;s5 0 0 0;");
    movesTo("throws of listed alone", none, none.throwsOff(0, 2), 3, 3, 0);
  }

  private static void throwsOfShipsInPort() {
    for (int s = 0; s < 4; s++) {
      int ship = s;
      refused("throwsOff(" + s + ", 1) not in port", x -> x.throwsOff(ship, 1), STATE);
      refused("throwsOff(" + s + ", 99) not in port", x -> x.throwsOff(ship, 99), STATE);
    }
    SilverFleets x = new SilverFleets();
    Twins.everywhere(x);
    Checks.due("throwsOff(4, 57) in port", x.throwsOff(4, 57), 0);
    Checks.due("no more", x.throwsOff(4, 1), STATE);
  }

  // "half (cut) of the SILVER of a SHIP that is WRECKED"
  private static void raisesHalf() {
    int[][] bars = {{0, 0}, {1, 0}, {0, 1}, {1, 1}, {2, 0}, {2, 1}, {1, 2}, {60, 59}, {59, 60}, {60, 60}};
    for (int[] b : bars) {
      SilverFleets x = Checks.told("w10 0;s" + b[0] + " " + b[1] + " 0 0;k10;");
      x.sails(1, 0);
      int silver = b[0] + b[1];
      Checks.due("on the reef", x.now(5), silver);
      Checks.due("raises of " + silver, x.raises(0), silver / 2);
      Checks.due("home silver", x.now(2), silver / 2);
      Checks.due("none of it the king's", x.now(3), 0);
      Checks.due("the reef is empty", x.now(5), 0);
      Checks.due("raised", x.ship(0, 4), RAISED);
      Checks.due("listed is 0", x.ship(0, 0), 0);
      Checks.due("hidden is 0", x.ship(0, 1), 0);
      Checks.due("not twice", x.raises(0), STATE);
      Checks.due("undo", x.undo(), 1);
      Checks.due("listed again", x.ship(0, 0), b[0]);
      Checks.due("hidden again", x.ship(0, 1), b[1]);
      Checks.due("no home silver", x.now(2), 0);
    }
  }

  private static void raisesEachOfFive() {
    for (int s = 0; s < 5; s++) {
      SilverFleets x = Checks.told("w10 0;s10 1 0 0;s20 2 0 0;s30 3 0 0;s40 4 0 0;s50 5 0 0;k10;");
      x.sails(31, 0);
      int silver = 11 * (s + 1);
      Checks.due("raises(" + s + ")", x.raises(s), silver / 2);
      Checks.due("home silver of " + s, x.now(2), silver / 2);
      Checks.due("none of it the king's", x.now(3), 0);
      Checks.due("the reef without " + s, x.now(5), 165 - silver);
      for (int other = 0; other < 5; other++) {
        Checks.due("where ship " + other + " is", x.ship(other, 4), other == s ? RAISED : WRECKED);
        Checks.due("listed of ship " + other, x.ship(other, 0), other == s ? 0 : 10 * (other + 1));
        Checks.due("hidden of ship " + other, x.ship(other, 1), other == s ? 0 : other + 1);
      }
    }
  }

  // "STATE: it is not WRECKED."
  private static void raisesTheWreckedAlone() {
    for (int s : new int[] {0, 2, 3, 4}) {
      refused("raises(" + s + ")", x -> x.raises(s), STATE);
    }
    for (int s : new int[] {-1, 5, 32, Twins.FAR_UP, Twins.FAR_DOWN}) {
      refused("raises(" + s + ")", x -> x.raises(s), BAD);
    }
    SilverFleets x = new SilverFleets();
    Twins.everywhere(x);
    Checks.due("raises(1)", x.raises(1), 15);
    Checks.due("home silver more", x.now(2), 47);
    SilverFleets one = Checks.told("w10 0;s1 1 1 0;");
    one.sails(1, 0);
    Checks.due("the one behind the last ship", one.raises(1), BAD);
  }

  /** OVER is a STATE of waits and sails alone. */
  private static void silverMovesWhenOver() {
    SilverFleets x = new SilverFleets();
    Twins.over(x);
    Checks.due("lists when over", x.lists(4, 1), 28);
    Checks.due("hides when over", x.hides(4, 28), 57);
    Checks.due("throwsOff when over", x.throwsOff(4, 57), 0);
    Checks.due("raises when over", x.raises(1), 15);
    Checks.due("undo when over", x.undo(), 9);
    Checks.due("still over", x.now(4), 1);
  }

  // "UNDONE: the latest WAITED, SAILED, LISTS, HIDES, THROWN, RAISED: all is as ahead of it."
  private static void undoOfEveryDeed() {
    Twins.Way before = x -> {
      Twins.everywhere(x);
      x.waits();
    };
    Twins.refused("waits() undone", before, x -> x.waits() * 100 + x.undo(), 409);
    Twins.refused("sails() undone", before, x -> (x.sails(16, 1) < 0 ? 100 : 0) + x.undo(), 9);
    Twins.refused("lists() undone", before, x -> x.lists(4, 5) * 100 + x.undo(), 3209);
    Twins.refused("hides() undone", before, x -> x.hides(4, 5) * 100 + x.undo(), 3509);
    Twins.refused("throwsOff() undone", before, x -> x.throwsOff(4, 40) * 100 + x.undo(), 1709);
    Twins.refused("raises() undone", before, x -> x.raises(1) * 100 + x.undo(), 1509);
  }

  // "10 are known, older ones are lost"
  private static void undoTen() {
    for (int deeds = 0; deeds <= 25; deeds++) {
      SilverFleets x = Checks.told("s60 60 0 0;");
      for (int i = 1; i <= deeds; i++) {
        x.throwsOff(0, 1);
        Checks.due("known behind " + i, x.count(3), Math.min(i, 10));
      }
      int known = Math.min(deeds, 10);
      for (int i = 1; i <= known; i++) {
        Checks.due("undo " + i + " of " + deeds, x.undo(), known - i);
        Checks.due("hidden behind it", x.ship(0, 1), 60 - deeds + i);
      }
      Checks.due("none more of " + deeds, x.undo(), STATE);
      Checks.due("hidden at last", x.ship(0, 1), 60 - Math.max(deeds - 10, 0));
      x.throwsOff(0, 1);
      Checks.due("known anew", x.count(3), 1);
    }
    SilverFleets mixed = Checks.told("s60 60 0 0;");
    for (int i = 0; i < 11; i++) {
      mixed.throwsOff(0, 1);
    }
    mixed.undo();
    mixed.throwsOff(0, 2);
    mixed.throwsOff(0, 3);
    Checks.due("ten again", mixed.count(3), 10);
    for (int i = 0; i < 10; i++) {
      mixed.undo();
    }
    Checks.due("one more is lost", mixed.ship(0, 1), 58);
  }

  // "STATE: none."
  private static void undoNone() {
    Twins.Way fresh = x -> {
      Twins.everywhere(x);
      for (int i = 0; i < 8; i++) {
        x.undo();
      }
    };
    Twins.refused("undo() of none", fresh, x -> x.undo(), STATE);
    Twins.refused("undo() of a new object", x -> x.type('w'), x -> x.undo(), STATE);
    Twins.Way refusedDeeds = x -> {
      Checks.type(x, "w0 0;s1 1 1 1;");
      x.season();
      x.sails(1, 0);
      x.lists(0, 2);
      x.hides(0, 2);
      x.throwsOff(0, 3);
      x.raises(0);
    };
    Twins.refused("undo() behind refused deeds", refusedDeeds, x -> x.undo(), STATE);
  }

  private static void whatIsNoDeed() {
    SilverFleets x = Checks.told("w0 0;w0 0;s9 9 0 0;");
    x.throwsOff(0, 1);
    x.keep(0);
    x.type('w');
    x.clear();
    x.mark(0, 0);
    x.plan(-1);
    x.late();
    Checks.due("one may be undone", x.count(3), 1);
    x.back(0);
    Checks.due("one still", x.count(3), 1);
    Checks.due("undo is none either", x.undo(), 0);
    Checks.due("none", x.undo(), STATE);
  }

  // "0 THE WEEK, .. 5 SILVER that lies on the reef. BAD."
  private static void nowAndItsWhat() {
    for (int what : new int[] {-1, 6, 7, Twins.FAR_UP, Twins.FAR_DOWN}) {
      refused("now(" + what + ")", x -> x.now(what), BAD);
    }
    int[] now = {2, 16, 32, 7, 0, 31};
    for (int i = 0; i < now.length; i++) {
      int what = i;
      refused("now(" + what + ")", x -> x.now(what), now[what]);
    }
    // bars that are as many as a place's number are no place
    for (int bars = 0; bars <= 5; bars++) {
      SilverFleets x = Checks.told("w0 0;" + ("s" + bars + " " + bars + " 0 0;").repeat(5));
      Checks.due("all in port with " + bars + " bars", x.now(1), 31);
      Checks.due("none on the reef with " + bars + " bars", x.now(5), 0);
      SilverFleets part = Checks.told("w0 0;s" + bars + " 0 0 0;" + "s7 7 0 0;".repeat(4) + "k10;");
      part.sails(1, 0);
      Checks.due("a part of " + bars, part.now(3), bars);
      Checks.due("none on the reef with it", part.now(5), 0);
    }
    Twins.refused("now(4) when over", Twins::over, x -> x.now(4), 1);
    Twins.refused("now(0) when over", Twins::over, x -> x.now(0), 4);
  }
}
