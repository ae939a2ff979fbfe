/**
 * Ships with silver, listed and hidden, that sail home through weeks of storms and of pirates.
 * Every call answers a number; what can't be done is answered by BAD, STATE, FULL, NONE or NO.
 */
public final class SilverFleets {
    public static final int BAD = -1, STATE = -2, FULL = -3, NONE = -9;
    public static final int NO = -1000000;

    private static final int MOST_WEEKS = 12;
    private static final int MOST_SHIPS = 5;
    private static final int ALL_SETS = 1 << MOST_SHIPS;
    private static final int MOST_BARS = 60;
    private static final int MOST_THROWN = 99;
    private static final int MOST_DRAW = 9999;
    private static final int MOST_IN_REGISTER = 300;

    private static final int PORT = 0;
    private static final int HOME = 1;
    private static final int TAKEN = 2;
    private static final int WRECKED = 3;
    private static final int RAISED = 4;

    private final Text text;
    private final Season season;
    /** What a text tells is gathered here first, so that a FAULT leaves the season as it was. */
    private final Season draft;
    private final Log log;
    private final Log firstImage;
    private final Log secondImage;
    private final Fleet fleet;
    private final Planner planner;
    private final Kinds kinds;

    public SilverFleets() {
        text = new Text();
        season = new Season();
        draft = new Season();
        log = new Log();
        firstImage = new Log();
        secondImage = new Log();
        fleet = new Fleet(season, log);
        planner = new Planner(season, log, fleet);
        kinds = new Kinds(season, log);
    }

    // ---- the season

    public int type(int c) {
        if (c < 0 || c > 255) {
            return BAD;
        }
        if (text.length >= Text.MOST_BYTES) {
            return FULL;
        }
        text.bytes[text.length] = c;
        text.length++;
        return text.length;
    }

    public int clear() {
        int had = text.length;
        text.length = 0;
        return had;
    }

    public int season() {
        int items = text.readInto(draft);
        if (items < 0) {
            return items;
        }
        text.length = 0;
        season.copyFrom(draft);
        log.beginWith(season);
        firstImage.kept = false;
        secondImage.kept = false;
        return items;
    }

    public int week(int w, int what) {
        if (!season.hasWeek(w)) {
            return BAD;
        }
        switch (what) {
            case 0:
                return season.storm[w];
            case 1:
                return season.pirates[w];
            default:
                return BAD;
        }
    }

    public int ship(int s, int what) {
        if (!season.hasShip(s)) {
            return BAD;
        }
        switch (what) {
            case 0:
                return log.listedOf(s);
            case 1:
                return log.hiddenOf(s);
            case 2:
                return season.guns[s];
            case 3:
                return season.ready[s];
            case 4:
                return log.placeOf(s);
            default:
                return BAD;
        }
    }

    // ---- what is done

    public int waits() {
        if (isOver()) {
            return STATE;
        }
        log.remember();
        log.now[Log.WEEK]++;
        return log.theWeek();
    }

    public int sails(int set, int z) {
        if (set == 0 || !season.hasSet(set) || z < 0 || z > MOST_DRAW) {
            return BAD;
        }
        if (isOver() || !canSail(set)) {
            return STATE;
        }
        log.remember();
        int taken = fleet.takenOf(set, log.theWeek());
        int home = 0;
        for (int s = 0; s < season.ships; s++) {
            if (isIn(s, set)) {
                home += sailOne(s, s == taken, z);
            }
        }
        return home;
    }

    public int lists(int s, int n) {
        if (!season.hasShip(s) || n < 1 || n > MOST_BARS) {
            return BAD;
        }
        if (!log.isInPort(s) || log.hiddenOf(s) < n || log.listedOf(s) + n > MOST_BARS) {
            return STATE;
        }
        log.remember();
        log.setBars(s, log.listedOf(s) + n, log.hiddenOf(s) - n);
        return log.listedOf(s);
    }

    public int hides(int s, int n) {
        if (!season.hasShip(s) || n < 1 || n > MOST_BARS) {
            return BAD;
        }
        if (!log.isInPort(s) || log.listedOf(s) < n || log.hiddenOf(s) + n > MOST_BARS) {
            return STATE;
        }
        log.remember();
        log.setBars(s, log.listedOf(s) - n, log.hiddenOf(s) + n);
        return log.hiddenOf(s);
    }

    public int throwsOff(int s, int n) {
        if (!season.hasShip(s) || n < 1 || n > MOST_THROWN) {
            return BAD;
        }
        if (!log.isInPort(s) || log.silverOf(s) < n) {
            return STATE;
        }
        log.remember();
        int ofHidden = Math.min(n, log.hiddenOf(s));
        log.setBars(s, log.listedOf(s) - (n - ofHidden), log.hiddenOf(s) - ofHidden);
        return log.silverOf(s);
    }

    public int raises(int s) {
        if (!season.hasShip(s)) {
            return BAD;
        }
        if (log.placeOf(s) != WRECKED) {
            return STATE;
        }
        log.remember();
        int raised = log.silverOf(s) / 2;
        log.now[Log.HOME_SILVER] += raised;
        log.now[Log.PLACE + s] = RAISED;
        log.setBars(s, 0, 0);
        return raised;
    }

    public int undo() {
        if (log.known == 0) {
            return STATE;
        }
        log.goBack();
        return log.known;
    }

    public int now(int what) {
        switch (what) {
            case 0:
                return log.theWeek();
            case 1:
                return fleet.inPort();
            case 2:
                return log.now[Log.HOME_SILVER];
            case 3:
                return log.now[Log.PART];
            case 4:
                return isOver() ? 1 : 0;
            case 5:
                return fleet.silverOnTheReef();
            default:
                return BAD;
        }
    }

    // ---- when to sail

    public int worth(int set, int w) {
        if (!season.hasSet(set) || !season.hasWeek(w)) {
            return BAD;
        }
        return fleet.worthOf(set, w);
    }

    public int plan(int w) {
        if (w == -1) {
            return planner.mostFrom(log.theWeek());
        }
        if (!season.hasWeek(w) || w < log.theWeek()) {
            return BAD;
        }
        return planner.sailingIn(w);
    }

    public int late() {
        return planner.mostFrom(log.theWeek() + 1);
    }

    public int game(int set, int a, int b, int what) {
        if (!season.hasSet(set) || !season.hasWeek(a) || !season.hasWeek(b) || a == b || isNoHalf(what)) {
            return BAD;
        }
        fleet.reckonGame(set, a, b);
        return what == 0 ? fleet.upper : fleet.lower;
    }

    public int odds(int set, int w, int k, int what) {
        if (set == 0 || !season.hasSet(set) || !season.hasWeek(w) || k < 0 || k > MOST_SHIPS || isNoHalf(what)) {
            return BAD;
        }
        fleet.reckonOdds(set, w, k);
        return what == 0 ? fleet.upper : fleet.lower;
    }

    // ---- registers

    public int register(int n, int what) {
        if (n < 0 || n > MOST_IN_REGISTER || what < 0 || what > 2) {
            return BAD;
        }
        int sets = 0;
        int inAll = ALL_SETS - 1;
        int inSome = 0;
        for (int set = 0; set < ALL_SETS && season.hasSet(set); set++) {
            if (fleet.listedTogether(set) == n) {
                sets++;
                inAll &= set;
                inSome |= set;
            }
        }
        if (what == 0) {
            return sets;
        }
        if (what == 2) {
            return inSome;
        }
        return sets == 0 ? NONE : inAll;
    }

    // ---- kinds, images

    public int mark(int kind, int s) {
        if (kind < 0 || kind > Kinds.LAST || !season.hasShip(s)) {
            return NO;
        }
        return kinds.markAs(kind, s);
    }

    public int keep(int image) {
        if (!isImage(image)) {
            return BAD;
        }
        Log kept = imageOf(image);
        kept.copyFrom(log);
        kept.kept = true;
        return log.theWeek();
    }

    public int back(int image) {
        if (!isImage(image)) {
            return BAD;
        }
        Log kept = imageOf(image);
        if (!kept.kept) {
            return STATE;
        }
        log.copyFrom(kept);
        return log.theWeek();
    }

    public int count(int what) {
        switch (what) {
            case 0:
                return season.weeks;
            case 1:
                return season.ships;
            case 2:
                return season.share;
            case 3:
                return log.known;
            case 4:
                return text.length;
            default:
                return BAD;
        }
    }

    public long trace() {
        return kinds.trace;
    }

    // ---- what several calls ask

    private boolean isOver() {
        return log.theWeek() >= season.weeks;
    }

    private boolean canSail(int set) {
        for (int s = 0; s < season.ships; s++) {
            if (isIn(s, set) && (!log.isInPort(s) || log.theWeek() < season.ready[s])) {
                return false;
            }
        }
        return true;
    }

    /** Answers 1 if the ship is HOME then, else 0. */
    private int sailOne(int s, boolean taken, int z) {
        int week = log.theWeek();
        if (taken) {
            log.now[Log.PLACE + s] = TAKEN;
            return 0;
        }
        if (drawOf(s, week, z) < season.storm[week]) {
            log.now[Log.PLACE + s] = WRECKED;
            return 0;
        }
        log.now[Log.PLACE + s] = HOME;
        log.now[Log.HOME_SILVER] += log.silverOf(s);
        log.now[Log.PART] += season.share * log.listedOf(s) / 10;
        return 1;
    }

    private static int drawOf(int s, int week, int z) {
        // the square of q is beyond an int
        long q = 7919L * z + 6151L * s + 12289L * week + 1L;
        return (int) (q * q % 65521L / 8L % 10L);
    }

    private static boolean isIn(int s, int set) {
        return (set >> s & 1) == 1;
    }

    /** A fraction has an upper number (0) and a lower one (1). */
    private static boolean isNoHalf(int what) {
        return what != 0 && what != 1;
    }

    private static boolean isImage(int image) {
        return image == 0 || image == 1;
    }

    private Log imageOf(int image) {
        return image == 0 ? firstImage : secondImage;
    }

    /** What a text has told: it stays until another text is read. */
    private static final class Season {
        private static final int SHARE_AT_FIRST = 2;

        private final int[] storm = new int[MOST_WEEKS];
        private final int[] pirates = new int[MOST_WEEKS];
        private final int[] listed = new int[MOST_SHIPS];
        private final int[] hidden = new int[MOST_SHIPS];
        private final int[] guns = new int[MOST_SHIPS];
        private final int[] ready = new int[MOST_SHIPS];
        private int weeks;
        private int ships;
        private int share = SHARE_AT_FIRST;
        private boolean shareTold;

        private void forgetAll() {
            weeks = 0;
            ships = 0;
            share = SHARE_AT_FIRST;
            shareTold = false;
        }

        private boolean canTake(int letter) {
            switch (letter) {
                case 'w':
                    return weeks < MOST_WEEKS;
                case 's':
                    return ships < MOST_SHIPS;
                case 'k':
                    return !shareTold;
                default:
                    return false;
            }
        }

        private void addWeek(int itsStorm, int itsPirates) {
            if (weeks >= MOST_WEEKS) {
                return;
            }
            storm[weeks] = itsStorm;
            pirates[weeks] = itsPirates;
            weeks++;
        }

        private void addShip(int itsListed, int itsHidden, int itsGuns, int itsReady) {
            if (ships >= MOST_SHIPS) {
                return;
            }
            listed[ships] = itsListed;
            hidden[ships] = itsHidden;
            guns[ships] = itsGuns;
            ready[ships] = itsReady;
            ships++;
        }

        private void setShare(int tenths) {
            share = tenths;
            shareTold = true;
        }

        private void copyFrom(Season other) {
            System.arraycopy(other.storm, 0, storm, 0, MOST_WEEKS);
            System.arraycopy(other.pirates, 0, pirates, 0, MOST_WEEKS);
            System.arraycopy(other.listed, 0, listed, 0, MOST_SHIPS);
            System.arraycopy(other.hidden, 0, hidden, 0, MOST_SHIPS);
            System.arraycopy(other.guns, 0, guns, 0, MOST_SHIPS);
            System.arraycopy(other.ready, 0, ready, 0, MOST_SHIPS);
            weeks = other.weeks;
            ships = other.ships;
            share = other.share;
            shareTold = other.shareTold;
        }

        private boolean hasWeek(int w) {
            return w >= 0 && w < weeks;
        }

        private boolean hasShip(int s) {
            return s >= 0 && s < ships;
        }

        private boolean hasSet(int set) {
            return set >= 0 && set < 1 << ships;
        }
    }

    /** THE TEXT, and the reading of it token by token. */
    private static final class Text {
        private static final int MOST_BYTES = 180;
        private static final int FAULT = -10;
        /** What the numbers of an item may be at most, in their order. */
        private static final int[] WEEK_MOST = {10, 40};
        private static final int[] SHIP_MOST = {60, 60, 9, 11};
        private static final int[] SHARE_MOST = {10};

        private static final int NOTHING = 0;
        private static final int LETTERS = 1;
        private static final int NUMBER = 2;
        private static final int SEMICOLON = 3;
        private static final int WRONG = 4;

        private final int[] bytes = new int[MOST_BYTES];
        private int length;

        /** The token that was scanned last: what it is, where it begins, the byte behind it. */
        private int token;
        private int place;
        private int end;
        /** A NUMBER's value; the letter of LETTERS that are one alone, 0 of others. */
        private int value;
        private final int[] told = new int[SHIP_MOST.length];

        /** Answers how many items there are, or FAULT less the place of the fault. */
        private int readInto(Season draft) {
            draft.forgetAll();
            end = 0;
            scan();
            int items = 0;
            while (token != NOTHING && items < MOST_BYTES) {
                if (!readItem(draft)) {
                    return FAULT - place;
                }
                items++;
            }
            return items;
        }

        private boolean readItem(Season draft) {
            int letter = token == LETTERS ? value : 0;
            if (!draft.canTake(letter) || !readNumbers(mostOf(letter))) {
                return false;
            }
            scan();
            if (token != SEMICOLON) {
                return false;
            }
            if (letter == 'w') {
                draft.addWeek(told[0], told[1]);
            } else if (letter == 's') {
                draft.addShip(told[0], told[1], told[2], told[3]);
            } else {
                draft.setShare(told[0]);
            }
            scan();
            return true;
        }

        private boolean readNumbers(int[] most) {
            for (int i = 0; i < most.length && i < told.length; i++) {
                scan();
                if (token != NUMBER || value > most[i]) {
                    return false;
                }
                told[i] = value;
            }
            return true;
        }

        private static int[] mostOf(int letter) {
            if (letter == 'w') {
                return WEEK_MOST;
            }
            return letter == 's' ? SHIP_MOST : SHARE_MOST;
        }

        private void scan() {
            while (end < length && bytes[end] == ' ') {
                end++;
            }
            place = end;
            if (end >= length) {
                token = NOTHING;
            } else if (bytes[end] == ';') {
                token = SEMICOLON;
                end++;
            } else if (isLetterAt(end)) {
                scanLetters();
            } else if (isDigitAt(end)) {
                scanNumber();
            } else {
                token = WRONG;
            }
        }

        private void scanLetters() {
            token = LETTERS;
            while (end < length && isLetterAt(end)) {
                end++;
            }
            value = end == place + 1 ? bytes[place] : 0;
        }

        private void scanNumber() {
            value = 0;
            while (end < length && isDigitAt(end)) {
                // held low, so that many digits can't wrap round to a small number
                value = Math.min(value * 10 + bytes[end] - '0', 100);
                end++;
            }
            boolean zeroAhead = bytes[place] == '0' && end > place + 1;
            token = value > 99 || zeroAhead ? WRONG : NUMBER;
        }

        private boolean isLetterAt(int i) {
            return i < length && bytes[i] >= 'a' && bytes[i] <= 'z';
        }

        private boolean isDigitAt(int i) {
            return i < length && bytes[i] >= '0' && bytes[i] <= '9';
        }
    }

    /** NOW, and what it was ahead of the latest deeds: all that an image keeps. */
    private static final class Log {
        private static final int MOST_KNOWN = 10;

        /** Where the numbers of NOW stand in its row; PLACE, LISTED and HIDDEN have one for each ship. */
        private static final int WEEK = 0;
        private static final int HOME_SILVER = 1;
        private static final int PART = 2;
        private static final int PLACE = 3;
        private static final int LISTED = PLACE + MOST_SHIPS;
        private static final int HIDDEN = LISTED + MOST_SHIPS;
        private static final int SIZE = HIDDEN + MOST_SHIPS;

        private final int[] now = new int[SIZE];
        /** Earlier rows one behind another, the latest last. */
        private final int[] past = new int[MOST_KNOWN * SIZE];
        private int known;
        private boolean kept;

        private void beginWith(Season season) {
            known = 0;
            for (int i = 0; i < SIZE; i++) {
                now[i] = 0;
            }
            for (int s = 0; s < season.ships; s++) {
                now[PLACE + s] = PORT;
                setBars(s, season.listed[s], season.hidden[s]);
            }
        }

        private void remember() {
            if (known >= MOST_KNOWN) {
                System.arraycopy(past, SIZE, past, 0, (MOST_KNOWN - 1) * SIZE);
                known = MOST_KNOWN - 1;
            }
            System.arraycopy(now, 0, past, known * SIZE, SIZE);
            known++;
        }

        private void goBack() {
            if (known > 0) {
                known--;
                System.arraycopy(past, known * SIZE, now, 0, SIZE);
            }
        }

        private void copyFrom(Log other) {
            System.arraycopy(other.now, 0, now, 0, SIZE);
            System.arraycopy(other.past, 0, past, 0, MOST_KNOWN * SIZE);
            known = other.known;
        }

        private int theWeek() {
            return now[WEEK];
        }

        private int placeOf(int s) {
            return now[PLACE + s];
        }

        private boolean isInPort(int s) {
            return now[PLACE + s] == PORT;
        }

        private int listedOf(int s) {
            return now[LISTED + s];
        }

        private int hiddenOf(int s) {
            return now[HIDDEN + s];
        }

        private int silverOf(int s) {
            return now[LISTED + s] + now[HIDDEN + s];
        }

        private void setBars(int s, int listed, int hidden) {
            now[LISTED + s] = listed;
            now[HIDDEN + s] = hidden;
        }
    }

    /** What sets of ships have and would bring home; sets and weeks are looked at by the callers. */
    private static final class Fleet {
        /** Far above the steps that two ints can take to their greatest common divisor. */
        private static final int MOST_STEPS = 100;

        private final Season season;
        private final Log log;
        /** ways[j]: in how many of the tenths' cases just j come home. */
        private final int[] ways = new int[MOST_SHIPS + 1];
        /** The fraction that was reckoned last. */
        private int upper;
        private int lower;

        private Fleet(Season season, Log log) {
            this.season = season;
            this.log = log;
        }

        private int inPort() {
            int set = 0;
            for (int s = 0; s < season.ships; s++) {
                if (log.isInPort(s)) {
                    set |= 1 << s;
                }
            }
            return set;
        }

        private int readyIn(int w) {
            int set = 0;
            for (int s = 0; s < season.ships; s++) {
                if (season.ready[s] <= w) {
                    set |= 1 << s;
                }
            }
            return set;
        }

        private int silverOnTheReef() {
            int silver = 0;
            for (int s = 0; s < season.ships; s++) {
                if (log.placeOf(s) == WRECKED) {
                    silver += log.silverOf(s);
                }
            }
            return silver;
        }

        private int listedTogether(int set) {
            int bars = 0;
            for (int s = 0; s < season.ships; s++) {
                if (isIn(s, set)) {
                    bars += log.listedOf(s);
                }
            }
            return bars;
        }

        private int silverTogether(int set) {
            int bars = 0;
            for (int s = 0; s < season.ships; s++) {
                if (isIn(s, set)) {
                    bars += log.silverOf(s);
                }
            }
            return bars;
        }

        /** The ship that pirates take from a fleet in a week, or NONE. */
        private int takenOf(int set, int w) {
            int guns = 0;
            int richest = NONE;
            int most = -1;
            for (int s = 0; s < season.ships; s++) {
                if (isIn(s, set)) {
                    guns += season.guns[s];
                    if (log.silverOf(s) > most) {
                        most = log.silverOf(s);
                        richest = s;
                    }
                }
            }
            return guns < season.pirates[w] ? richest : NONE;
        }

        private int worthOf(int set, int w) {
            int taken = takenOf(set, w);
            int lost = taken == NONE ? 0 : log.silverOf(taken);
            return (silverTogether(set) - lost) * (10 - season.storm[w]);
        }

        private void reckonGame(int set, int a, int b) {
            int metInA = worthOf(set, a);
            int metInB = worthOf(set, b);
            int missedInA = silverTogether(set) * (10 - season.storm[a]);
            int missedInB = silverTogether(set) * (10 - season.storm[b]);
            // to be met is never better than to be missed, so these are the sure sums without mixing
            int shipsSure = Math.max(metInA, metInB);
            int piratesSure = Math.min(Math.max(metInA, missedInB), Math.max(missedInA, metInB));
            if (shipsSure >= piratesSure) {
                setFraction(shipsSure, 1);
            } else {
                setFraction(missedInA * missedInB - metInA * metInB, missedInA + missedInB - metInA - metInB);
            }
        }

        private void reckonOdds(int set, int w, int k) {
            int storm = season.storm[w];
            int taken = takenOf(set, w);
            int cases = 1;
            beginWays();
            for (int s = 0; s < season.ships; s++) {
                if (isIn(s, set) && s != taken) {
                    addToWays(storm);
                    cases *= 10;
                }
            }
            int good = 0;
            for (int j = k; j <= MOST_SHIPS; j++) {
                good += ways[j];
            }
            setFraction(good, cases);
        }

        private void beginWays() {
            for (int j = 0; j <= MOST_SHIPS; j++) {
                ways[j] = 0;
            }
            ways[0] = 1;
        }

        private void addToWays(int storm) {
            for (int j = MOST_SHIPS; j > 0; j--) {
                ways[j] = ways[j] * storm + ways[j - 1] * (10 - storm);
            }
            ways[0] *= storm;
        }

        private void setFraction(int above, int below) {
            int a = above;
            int b = below;
            for (int i = 0; i < MOST_STEPS && b != 0; i++) {
                int rest = a % b;
                a = b;
                b = rest;
            }
            int common = a < 1 ? 1 : a;
            upper = above / common;
            lower = below / common;
        }
    }

    /** PLAN, reckoned from the last week backwards for every set of ships that may be left. */
    private static final class Planner {
        private final Season season;
        private final Log log;
        private final Fleet fleet;
        /** A row of all sets for each week, and one for when it is over. */
        private final int[] best = new int[(MOST_WEEKS + 1) * ALL_SETS];
        private final int[] choice = new int[(MOST_WEEKS + 1) * ALL_SETS];
        private final int[] worths = new int[ALL_SETS];

        private Planner(Season season, Log log, Fleet fleet) {
            this.season = season;
            this.log = log;
            this.fleet = fleet;
        }

        private int mostFrom(int w) {
            if (w >= season.weeks) {
                return 0;
            }
            reckonFrom(w);
            return best[w * ALL_SETS + fleet.inPort()];
        }

        private int sailingIn(int w) {
            reckonFrom(log.theWeek());
            int left = fleet.inPort();
            for (int v = log.theWeek(); v < w; v++) {
                left &= ~choice[v * ALL_SETS + left];
            }
            return choice[w * ALL_SETS + left];
        }

        private void reckonFrom(int first) {
            int port = fleet.inPort();
            for (int left = 0; left < ALL_SETS; left++) {
                best[season.weeks * ALL_SETS + left] = 0;
            }
            for (int w = season.weeks - 1; w >= first; w--) {
                int ready = port & fleet.readyIn(w);
                reckonWorths(ready, w);
                for (int left = 0; left <= port; left++) {
                    if ((left & ~port) == 0) {
                        choose(w, left, left & ready);
                    }
                }
            }
        }

        private void reckonWorths(int ready, int w) {
            for (int set = 0; set <= ready; set++) {
                if ((set & ~ready) == 0) {
                    worths[set] = fleet.worthOf(set, w);
                }
            }
        }

        private void choose(int w, int left, int able) {
            int here = w * ALL_SETS + left;
            int next = (w + 1) * ALL_SETS;
            best[here] = -1;
            // from the least bits on, and only more displaces: of several the least stays
            for (int set = 0; set <= able; set++) {
                if ((set & ~able) == 0) {
                    int sum = worths[set] + best[next + (left & ~set)];
                    if (sum > best[here]) {
                        best[here] = sum;
                        choice[here] = set;
                    }
                }
            }
        }
    }

    /** MARK: each kind asks the one above it, and every body asked comes to the trace. */
    private static final class Kinds {
        private static final int SHIP = 0;
        private static final int DECOY = 1;
        private static final int SLOW = 2;
        private static final int CHEST = 3;
        private static final int LETTER = 4;
        private static final int PILOT = 5;
        private static final int LAST = PILOT;

        private final Season season;
        private final Log log;
        private long trace;

        private Kinds(Season season, Log log) {
            this.season = season;
            this.log = log;
        }

        private int markAs(int kind, int s) {
            switch (kind) {
                case SHIP:
                    return markShip(s);
                case DECOY:
                    return markDecoy(s);
                case SLOW:
                    return markSlow(s);
                case CHEST:
                    return markChest(s);
                case LETTER:
                    return markLetter(s);
                case PILOT:
                    return markPilot(s);
                default:
                    return NO;
            }
        }

        private int markShip(int s) {
            trace += 1;
            return log.listedOf(s);
        }

        private int markDecoy(int s) {
            trace += 10;
            return markShip(s) + season.guns[s];
        }

        private int markSlow(int s) {
            trace += 100;
            return markShip(s) - season.ready[s];
        }

        private int markChest(int s) {
            trace += 1000;
            return markDecoy(s) * 2;
        }

        private int markLetter(int s) {
            trace += 10000;
            return markSlow(s) + s;
        }

        private int markPilot(int s) {
            trace += 100000;
            return markShip(s) + log.theWeek();
        }
    }
}
