import java.util.ArrayDeque;
import java.util.ArrayList;
import java.util.Arrays;
import java.util.Deque;
import java.util.List;
import java.util.Random;
import java.util.regex.Matcher;
import java.util.regex.Pattern;

/**
 * Long runs of calls, ordinary and wrong ones mixed, against a slow model of the document that was written
 * another way: plans by trying every way, odds by every case, games by every mixing that can be best.
 */
public final class ModelTest {
  private static final int RUNS = 400;
  private static final int CALLS = 512;

  public static void main(String[] args) {
    for (int run = 0; run < RUNS; run++) {
      run(new Random(run), run % 2 == 0);
    }
    Checks.end();
  }

  private static void run(Random random, boolean byLetters) {
    SilverFleets x = new SilverFleets();
    Model m = new Model();
    int left = CALLS;
    while (left > 0) {
      if (random.nextInt(60) == 0 || left == CALLS) {
        String text = byLetters ? anyText(random) : goodText(random);
        for (int i = 0; i < text.length() && left > 0; i++, left--) {
          same("type " + (int) text.charAt(i), x.type(text.charAt(i)), m.type(text.charAt(i)));
        }
        if (left > 0) {
          same("season() of '" + m.text + "'", x.season(), m.season());
          left--;
        }
        if (left > 0 && byLetters && random.nextBoolean()) {
          same("clear()", x.clear(), m.clear());
          left--;
        }
      } else {
        call(x, m, random);
        left--;
      }
    }
  }

  private static void same(String call, long got, long want) {
    Checks.due(call, got, want);
  }

  private static String goodText(Random r) {
    StringBuilder b = new StringBuilder();
    int weeks = r.nextInt(4) == 0 ? 6 + r.nextInt(7) : r.nextInt(6);
    int ships = r.nextInt(6);
    int most = r.nextInt(3) == 0 ? 4 : 61;
    for (int w = 0; w < weeks; w++) {
      b.append('w').append(r.nextInt(11)).append(' ').append(r.nextInt(r.nextBoolean() ? 41 : 12)).append(';');
    }
    for (int s = 0; s < ships; s++) {
      b.append('s').append(r.nextInt(most)).append(' ').append(r.nextInt(most)).append(' ').append(r.nextInt(10));
      b.append(' ').append(r.nextInt(r.nextInt(4) == 0 ? 12 : 2)).append(';');
    }
    if (r.nextBoolean()) {
      b.append('k').append(r.nextInt(11)).append(';');
    }
    return b.toString();
  }

  private static String anyText(Random r) {
    StringBuilder b = new StringBuilder(goodText(r));
    int changes = r.nextInt(3);
    String signs = "wsk;; 019xW!\t{`/:";
    for (int i = 0; i < changes && b.length() > 0; i++) {
      int at = r.nextInt(b.length());
      int how = r.nextInt(3);
      if (how == 0) {
        b.setCharAt(at, signs.charAt(r.nextInt(signs.length())));
      } else if (how == 1) {
        b.deleteCharAt(at);
      } else {
        b.insert(at, signs.charAt(r.nextInt(signs.length())));
      }
    }
    return b.toString();
  }

  /** Mostly 0 .. below, at times a little or far beyond. */
  private static int some(Random r, int below) {
    int[] far = {-1, -2, below, below + 1, Integer.MAX_VALUE, Integer.MIN_VALUE, 31, 32};
    return r.nextInt(12) == 0 ? far[r.nextInt(far.length)] : r.nextInt(Math.max(below, 1));
  }

  private static void call(SilverFleets x, Model m, Random r) {
    int weeks = m.weeks.size();
    int ships = m.ships.size();
    int s = some(r, ships);
    int w = some(r, weeks);
    int set = some(r, 1 << ships);
    int what = some(r, 2);
    int n = some(r, r.nextBoolean() ? 61 : 12);
    switch (r.nextInt(26)) {
      case 0: same("waits()", x.waits(), m.waits()); break;
      case 1: case 2: {
        int z = some(r, 10000);
        int fleet = r.nextBoolean() ? set : set & m.inPort();
        same("sails(" + fleet + ", " + z + ")", x.sails(fleet, z), m.sails(fleet, z));
        break;
      }
      case 3: same("lists", x.lists(s, n), m.move(s, n, 1)); break;
      case 4: same("hides", x.hides(s, n), m.move(s, n, 0)); break;
      case 5: same("throwsOff", x.throwsOff(s, n), m.throwsOff(s, n)); break;
      case 6: case 7: same("raises(" + s + ")", x.raises(s), m.raises(s)); break;
      case 8: case 9: same("undo()", x.undo(), m.undo()); break;
      case 10: { int i = some(r, 6); same("now(" + i + ")", x.now(i), m.now(i)); break; }
      case 11: { int i = some(r, 5); same("count(" + i + ")", x.count(i), m.count(i)); break; }
      case 12: { int i = some(r, 5); same("ship(" + s + ", " + i + ")", x.ship(s, i), m.ship(s, i)); break; }
      case 13: same("week(" + w + ", " + what + ")", x.week(w, what), m.week(w, what)); break;
      case 14: same("worth(" + set + ", " + w + ")", x.worth(set, w), m.worth(set, w)); break;
      case 15: same("plan(-1)", x.plan(-1), m.plan(-1)); break;
      case 16: case 17: same("plan(" + w + ")", x.plan(w), m.plan(w)); break;
      case 18: same("late()", x.late(), m.late()); break;
      case 19: case 20: {
        int b = some(r, weeks);
        same("game(" + set + ", " + w + ", " + b + ", " + what + ")", x.game(set, w, b, what), m.game(set, w, b, what));
        break;
      }
      case 21: {
        int k = some(r, 6);
        same("odds(" + set + ", " + w + ", " + k + ", " + what + ")", x.odds(set, w, k, what), m.odds(set, w, k, what));
        break;
      }
      case 22: {
        int sum = r.nextBoolean() ? some(r, 301) : m.listedOf(r.nextInt(1 << ships));
        int i = some(r, 3);
        same("register(" + sum + ", " + i + ")", x.register(sum, i), m.register(sum, i));
        break;
      }
      case 23: { int k = some(r, 6); same("mark(" + k + ", " + s + ")", x.mark(k, s), m.mark(k, s)); break; }
      case 24: same("trace()", x.trace(), m.trace); break;
      default: {
        int image = some(r, 2);
        if (r.nextInt(3) == 0) {
          same("keep(" + image + ")", x.keep(image), m.keep(image));
        } else {
          same("back(" + image + ")", x.back(image), m.back(image));
        }
      }
    }
  }

  /** A ship as it is now; copies are made for all that may be undone. */
  private static final class Ship {
    final int guns;
    final int ready;
    int listed;
    int hidden;
    int place;

    Ship(int listed, int hidden, int guns, int ready, int place) {
      this.listed = listed;
      this.hidden = hidden;
      this.guns = guns;
      this.ready = ready;
      this.place = place;
    }

    int silver() {
      return listed + hidden;
    }

    Ship copy() {
      return new Ship(listed, hidden, guns, ready, place);
    }
  }

  private static final class State {
    int week;
    int home;
    int part;
    final List<Ship> ships = new ArrayList<>();

    State copy() {
      State c = new State();
      c.week = week;
      c.home = home;
      c.part = part;
      for (Ship s : ships) {
        c.ships.add(s.copy());
      }
      return c;
    }
  }

  private static final class Image {
    State now;
    Deque<State> past;
  }

  private static final class Model {
    String text = "";
    List<int[]> weeks = new ArrayList<>();
    State now = new State();
    List<Ship> ships = now.ships;
    Deque<State> past = new ArrayDeque<>();
    Image[] images = new Image[2];
    int share = 2;
    long trace = 0;

    int type(int c) {
      if (text.length() == 180) {
        return -3;
      }
      text += (char) c;
      return text.length();
    }

    int clear() {
      int had = text.length();
      text = "";
      return had;
    }

    int season() {
      List<int[]> newWeeks = new ArrayList<>();
      State newNow = new State();
      int newShare = -1;
      int items = 0;
      // tokens, then any other byte alone
      Matcher tokens = Pattern.compile("[a-z]+|[0-9]+|;|[^ ]", Pattern.DOTALL).matcher(text);
      List<Integer> numbers = null;
      int[] most = null;
      String word = "";
      while (tokens.find()) {
        String t = tokens.group();
        boolean good = true;
        if (numbers == null) {
          word = t;
          good = t.equals("w") && newWeeks.size() < 12 || t.equals("s") && newNow.ships.size() < 5
              || t.equals("k") && newShare < 0;
          most = t.equals("w") ? new int[] {10, 40} : t.equals("s") ? new int[] {60, 60, 9, 11} : new int[] {10};
          numbers = new ArrayList<>();
        } else if (numbers.size() < most.length) {
          good = t.matches("0|[1-9][0-9]?") && Integer.parseInt(t) <= most[numbers.size()];
          if (good) {
            numbers.add(Integer.parseInt(t));
          }
        } else {
          good = t.equals(";");
          if (good) {
            items++;
            if (word.equals("w")) {
              newWeeks.add(new int[] {numbers.get(0), numbers.get(1)});
            } else if (word.equals("s")) {
              newNow.ships.add(new Ship(numbers.get(0), numbers.get(1), numbers.get(2), numbers.get(3), 0));
            } else {
              newShare = numbers.get(0);
            }
            numbers = null;
          }
        }
        if (!good) {
          return -10 - tokens.start();
        }
      }
      if (numbers != null) {
        return -10 - text.length();
      }
      weeks = newWeeks;
      now = newNow;
      ships = now.ships;
      share = newShare < 0 ? 2 : newShare;
      past.clear();
      images = new Image[2];
      text = "";
      return items;
    }

    boolean noWeek(int w) {
      return w < 0 || w >= weeks.size();
    }

    boolean noShip(int s) {
      return s < 0 || s >= ships.size();
    }

    boolean noSet(int set) {
      return set < 0 || set >= 1 << ships.size();
    }

    List<Ship> of(int set) {
      List<Ship> some = new ArrayList<>();
      for (int s = 0; s < ships.size(); s++) {
        if ((set & 1 << s) != 0) {
          some.add(ships.get(s));
        }
      }
      return some;
    }

    void deed() {
      past.addLast(now.copy());
      if (past.size() > 10) {
        past.removeFirst();
      }
    }

    boolean over() {
      return now.week == weeks.size();
    }

    int week(int w, int what) {
      return noWeek(w) || what < 0 || what > 1 ? -1 : weeks.get(w)[what];
    }

    int ship(int s, int what) {
      if (noShip(s) || what < 0 || what > 4) {
        return -1;
      }
      Ship h = ships.get(s);
      return new int[] {h.listed, h.hidden, h.guns, h.ready, h.place}[what];
    }

    int waits() {
      if (over()) {
        return -2;
      }
      deed();
      return ++now.week;
    }

    Ship taken(List<Ship> fleet, int w) {
      int guns = fleet.stream().mapToInt(h -> h.guns).sum();
      int most = fleet.stream().mapToInt(Ship::silver).max().orElse(0);
      if (guns >= weeks.get(w)[1]) {
        return null;
      }
      return fleet.stream().filter(h -> h.silver() == most).findFirst().orElse(null);
    }

    int sails(int set, int z) {
      if (noSet(set) || set == 0 || z < 0 || z > 9999) {
        return -1;
      }
      if (over() || of(set).stream().anyMatch(h -> h.place != 0 || h.ready > now.week)) {
        return -2;
      }
      deed();
      Ship taken = taken(of(set), now.week);
      int home = 0;
      for (Ship h : of(set)) {
        java.math.BigInteger q =
            java.math.BigInteger.valueOf(7919L * z + 6151L * ships.indexOf(h) + 12289L * now.week + 1);
        int draw = q.multiply(q).mod(java.math.BigInteger.valueOf(65521)).intValue() / 8 % 10;
        if (h == taken) {
          h.place = 2;
        } else if (draw < weeks.get(now.week)[0]) {
          h.place = 3;
        } else {
          h.place = 1;
          home++;
          now.home += h.silver();
          now.part += share * h.listed / 10;
        }
      }
      return home;
    }

    /** Lists (1) or hides (0). */
    int move(int s, int n, int toListed) {
      if (noShip(s) || n < 1 || n > 60) {
        return -1;
      }
      Ship h = ships.get(s);
      int from = toListed == 1 ? h.hidden : h.listed;
      int to = toListed == 1 ? h.listed : h.hidden;
      if (h.place != 0 || n > from || to + n > 60) {
        return -2;
      }
      deed();
      h.listed = toListed == 1 ? to + n : from - n;
      h.hidden = toListed == 1 ? from - n : to + n;
      return to + n;
    }

    int throwsOff(int s, int n) {
      if (noShip(s) || n < 1 || n > 99) {
        return -1;
      }
      Ship h = ships.get(s);
      if (h.place != 0 || n > h.silver()) {
        return -2;
      }
      deed();
      for (int i = 0; i < n; i++) {
        if (h.hidden > 0) {
          h.hidden--;
        } else {
          h.listed--;
        }
      }
      return h.silver();
    }

    int raises(int s) {
      if (noShip(s)) {
        return -1;
      }
      Ship h = ships.get(s);
      if (h.place != 3) {
        return -2;
      }
      deed();
      int half = h.silver() / 2;
      now.home += half;
      h.place = 4;
      h.listed = 0;
      h.hidden = 0;
      return half;
    }

    int undo() {
      if (past.isEmpty()) {
        return -2;
      }
      now = past.removeLast();
      ships = now.ships;
      return past.size();
    }

    int inPort() {
      int set = 0;
      for (int s = 0; s < ships.size(); s++) {
        set += ships.get(s).place == 0 ? 1 << s : 0;
      }
      return set;
    }

    int now(int what) {
      int reef = ships.stream().filter(h -> h.place == 3).mapToInt(Ship::silver).sum();
      int[] all = {now.week, inPort(), now.home, now.part, over() ? 1 : 0, reef};
      return what < 0 || what >= all.length ? -1 : all[what];
    }

    int count(int what) {
      int[] all = {weeks.size(), ships.size(), share, past.size(), text.length()};
      return what < 0 || what >= all.length ? -1 : all[what];
    }

    int worth(int set, int w) {
      if (noSet(set) || noWeek(w)) {
        return -1;
      }
      Ship taken = taken(of(set), w);
      return of(set).stream().filter(h -> h != taken).mapToInt(Ship::silver).sum() * (10 - weeks.get(w)[0]);
    }

    /** Every way, one after another; row 0 is how much, then the sets of the weeks from first on. */
    int[] bestWay(int first) {
      int many = weeks.size() - first;
      if (many <= 0) {
        return new int[] {0};
      }
      int[][] worths = new int[many][1 << ships.size()];
      for (int v = 0; v < many; v++) {
        for (int set = 0; set < worths[v].length; set++) {
          worths[v][set] = worth(set, first + v);
        }
      }
      int[] best = null;
      int ways = 1;
      for (int s = 0; s < ships.size(); s++) {
        ways *= many + 1;
      }
      for (int way = 0; way < ways; way++) {
        int[] got = wayOf(way, first, many, worths);
        if (got != null && (best == null || isBetter(got, best))) {
          best = got;
        }
      }
      return best;
    }

    int[] wayOf(int way, int first, int many, int[][] worths) {
      int[] got = new int[many + 1];
      int rest = way;
      for (int s = 0; s < ships.size(); s++) {
        int v = rest % (many + 1);
        rest /= many + 1;
        if (v > 0) {
          if (ships.get(s).place != 0 || ships.get(s).ready > first + v - 1) {
            return null;
          }
          got[v] |= 1 << s;
        }
      }
      for (int v = 1; v <= many; v++) {
        got[0] += worths[v - 1][got[v]];
      }
      return got;
    }

    static boolean isBetter(int[] a, int[] b) {
      if (a[0] != b[0]) {
        return a[0] > b[0];
      }
      return Arrays.compare(a, 1, a.length, b, 1, b.length) < 0;
    }

    int plan(int w) {
      if (w != -1 && (noWeek(w) || w < now.week)) {
        return -1;
      }
      return bestWay(now.week)[w == -1 ? 0 : w - now.week + 1];
    }

    int late() {
      return bestWay(now.week + 1)[0];
    }

    /** The ships mix: a with p / q; the least of both columns is most where they meet or at an end. */
    int game(int set, int a, int b, int what) {
      if (noSet(set) || noWeek(a) || noWeek(b) || a == b || what < 0 || what > 1) {
        return -1;
      }
      long all = of(set).stream().mapToInt(Ship::silver).sum();
      long aa = worth(set, a);
      long ab = all * (10 - weeks.get(a)[0]);
      long ba = all * (10 - weeks.get(b)[0]);
      long bb = worth(set, b);
      long[][] mixes = {{0, 1}, {1, 1}, {0, 1}};
      // p aa + (q - p) ba = p ab + (q - p) bb
      long p = bb - ba;
      long q = aa - ba - ab + bb;
      if (q < 0) {
        p = -p;
        q = -q;
      }
      if (q != 0 && p >= 0 && p <= q) {
        mixes[2] = new long[] {p, q};
      }
      long up = -1;
      long low = 1;
      for (long[] m : mixes) {
        long sure = Math.min(m[0] * aa + (m[1] - m[0]) * ba, m[0] * ab + (m[1] - m[0]) * bb);
        if (sure * low > up * m[1]) {
          up = sure;
          low = m[1];
        }
      }
      return least(up, low, what);
    }

    static int least(long up, long low, int what) {
      java.math.BigInteger g = java.math.BigInteger.valueOf(up).gcd(java.math.BigInteger.valueOf(low));
      return (int) ((what == 0 ? up : low) / g.longValue());
    }

    int odds(int set, int w, int k, int what) {
      if (noSet(set) || set == 0 || noWeek(w) || k < 0 || k > 5 || what < 0 || what > 1) {
        return -1;
      }
      int storm = weeks.get(w)[0];
      int come = of(set).size() - (taken(of(set), w) == null ? 0 : 1);
      long good = 0;
      long all = 0;
      for (int home = 0; home < 1 << come; home++) {
        long weight = 1;
        for (int i = 0; i < come; i++) {
          weight *= (home >> i & 1) == 1 ? 10 - storm : storm;
        }
        all += weight;
        good += Integer.bitCount(home) >= k ? weight : 0;
      }
      return least(good, all, what);
    }

    int listedOf(int set) {
      return of(set).stream().mapToInt(h -> h.listed).sum();
    }

    int register(int n, int what) {
      if (n < 0 || n > 300 || what < 0 || what > 2) {
        return -1;
      }
      List<Integer> sets = new ArrayList<>();
      for (int set = 0; set < 1 << ships.size(); set++) {
        if (listedOf(set) == n) {
          sets.add(set);
        }
      }
      if (what == 0) {
        return sets.size();
      }
      if (what == 1) {
        return sets.isEmpty() ? -9 : sets.stream().reduce(-1, (a, b) -> a & b);
      }
      return sets.stream().reduce(0, (a, b) -> a | b);
    }

    int mark(int kind, int s) {
      if (kind < 0 || kind > 5 || noShip(s)) {
        return -1000000;
      }
      Ship h = ships.get(s);
      trace += new long[] {1, 11, 101, 1011, 10101, 100001}[kind];
      return new int[] {h.listed, h.listed + h.guns, h.listed - h.ready, 2 * (h.listed + h.guns), h.listed - h.ready + s,
          h.listed + now.week}[kind];
    }

    int keep(int image) {
      if (image < 0 || image > 1) {
        return -1;
      }
      images[image] = new Image();
      images[image].now = now.copy();
      images[image].past = copyOf(past);
      return now.week;
    }

    int back(int image) {
      if (image < 0 || image > 1) {
        return -1;
      }
      if (images[image] == null) {
        return -2;
      }
      now = images[image].now.copy();
      ships = now.ships;
      past = copyOf(images[image].past);
      return now.week;
    }

    static Deque<State> copyOf(Deque<State> states) {
      Deque<State> copy = new ArrayDeque<>();
      for (State s : states) {
        copy.addLast(s.copy());
      }
      return copy;
    }
  }
}
