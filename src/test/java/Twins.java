import java.util.ArrayList;
import java.util.List;

/**
 * Two objects that went the same way, of which one is asked something more: whatever can be seen of them
 * afterwards must be alike. A fresh pair is made for each look, so that none goes beyond its 512 calls.
 */
final class Twins {
  static final int FAR_UP = Integer.MAX_VALUE;
  static final int FAR_DOWN = Integer.MIN_VALUE;

  private static final int LOOKS = 6;
  private static final int MOST_SHIPS = 5;
  private static final int MOST_WEEKS = 12;

  /** The calls by which an object comes to where it is asked. */
  interface Way {
    void go(SilverFleets x);
  }

  interface Call {
    long on(SilverFleets x);
  }

  private Twins() {
  }

  /** The call is answered so, and nothing changes. */
  static void refused(String call, Way way, Call asked, long answer) {
    for (int which = 0; which < LOOKS; which++) {
      SilverFleets calm = new SilverFleets();
      SilverFleets bold = new SilverFleets();
      way.go(calm);
      way.go(bold);
      Checks.due(call, asked.on(bold), answer);
      List<Long> due = look(which, calm);
      List<Long> got = look(which, bold);
      Checks.due("nothing changes by " + call + ", look " + which + ": " + got + " for " + due, got.equals(due));
    }
  }

  /** Whatever the call answers, nothing changes. */
  static void unchanged(String call, Way way, Call asked) {
    SilverFleets x = new SilverFleets();
    way.go(x);
    refused(call, way, asked, asked.on(x));
  }

  /**
   * Week 2 of 4, a ship in every place: 0 RAISED, 1 WRECKED, 2 TAKEN, 3 HOME, 4 in PORT and READY from week 3
   * on; eight may be undone; image 0 is kept, image 1 is not; THE TEXT has six bytes; the trace isn't 0.
   */
  static void everywhere(SilverFleets x) {
    Checks.type(x, "w10 0;w0 9;w0 0;w4 3;s20 9 0 0;s30 1 0 0;s40 4 0 1;s11 7 2 2;s25 35 5 3;k7;");
    x.season();
    x.sails(3, 5);
    x.raises(0);
    x.waits();
    x.sails(4, 5);
    x.keep(0);
    x.waits();
    x.sails(8, 5);
    x.lists(4, 2);
    x.throwsOff(4, 3);
    x.mark(3, 1);
    Checks.type(x, "w1 1;k");
  }

  /** As everywhere(), but the season is OVER; ten may be undone. */
  static void over(SilverFleets x) {
    everywhere(x);
    x.waits();
    x.waits();
  }

  private static List<Long> look(int which, SilverFleets x) {
    List<Long> row = new ArrayList<>();
    switch (which) {
      case 0:
        seeTold(x, row);
        seeNow(x, row);
        break;
      case 1:
        seePlans(x, row);
        break;
      case 2:
        seeUndone(x, row);
        break;
      case 3:
      case 4:
        row.add((long) x.back(which - 3));
        seeNow(x, row);
        seeUndone(x, row);
        break;
      default:
        // what THE TEXT holds is seen by reading it
        row.add((long) x.season());
        seeTold(x, row);
        seeNow(x, row);
        row.add((long) x.clear());
    }
    return row;
  }

  private static void seeTold(SilverFleets x, List<Long> row) {
    for (int what = 0; what < 5; what++) {
      row.add((long) x.count(what));
    }
    row.add(x.trace());
    for (int w = 0; w < MOST_WEEKS; w++) {
      row.add((long) x.week(w, 0));
      row.add((long) x.week(w, 1));
    }
    for (int s = 0; s < MOST_SHIPS; s++) {
      row.add((long) x.ship(s, 2));
      row.add((long) x.ship(s, 3));
    }
  }

  private static void seeNow(SilverFleets x, List<Long> row) {
    for (int what = 0; what < 6; what++) {
      row.add((long) x.now(what));
    }
    for (int s = 0; s < MOST_SHIPS; s++) {
      row.add((long) x.ship(s, 0));
      row.add((long) x.ship(s, 1));
      row.add((long) x.ship(s, 4));
    }
  }

  private static void seePlans(SilverFleets x, List<Long> row) {
    for (int w = -1; w < MOST_WEEKS; w++) {
      row.add((long) x.plan(w));
    }
    row.add((long) x.late());
    for (int n = 0; n <= 120; n += 10) {
      row.add((long) x.register(n, 0));
    }
  }

  private static void seeUndone(SilverFleets x, List<Long> row) {
    int more = x.count(3);
    for (int i = 0; i <= more; i++) {
      row.add((long) x.undo());
      seeNow(x, row);
    }
  }
}
