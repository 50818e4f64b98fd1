import java.util.NoSuchElementException;

/**
 * Things in paper boats, carried through a town of gutters. What each call answers stands in
 * ../shared/DOC.md; words in capitals are that document's.
 *
 * Every row is made with the object and used again: a run of calls makes no objects besides.
 */
public final class DownTheGutter {
    public static final int NONE = -1;

    /** What a call answers if it asks for something that can't be. */
    private static final int NOT = -2;
    private static final int NEITHER = -3;

    private static final int MOST_PLACES = 12;
    private static final int MOST_SETS = 1 << MOST_PLACES;
    private static final int MOST_THINGS = 6;
    private static final int MOST_BOAT = 99;
    private static final int MOST_COINS = 9;
    private static final int MOST_WAIT = 99;
    private static final int MOST_RUN = 99;
    private static final int MOST_CORKS = 10;
    private static final int MOST_CORK_MINUTE = 999;
    private static final int LOOK_AHEAD = 300;
    private static final int HOUR = 10;
    private static final int KEEPINGS = 3;

    private static final int GUTTER = 0;
    private static final int FORK = 1;
    private static final int FALL = 2;
    private static final int RAT = 3;
    private static final int MILL = 4;
    private static final int FISH = 5;
    private static final int KITCHEN = 6;

    /** What a trial tells if those that were told are not all HOME. */
    private static final int FAILED = -1;
    private static final int UNKNOWN = -2;
    /** A trial tells MINUTES and a kitchen in one number: MINUTES times this, and the kitchen. */
    private static final int KITCHENS = 16;

    private final Signs text = new Signs();
    private final Town town = new Town();
    private final Town draftTown = new Town();
    private final Water water = new Water();
    private final Rule rule = new Rule();
    private final Rule draftRule = new Rule();
    private final Diary diary = new Diary();
    private final Scene present = new Scene();
    private final Scene before = new Scene();
    private final Past past = new Past();
    private final Scene[] kept = new Scene[KEEPINGS];
    private int keptBits;
    private final Corks corks = new Corks();
    private final Row row = new Row();
    private final Current current;
    private final Trials trials;

    public DownTheGutter() {
        current = new Current(town, water, rule);
        trials = new Trials(town, current);
        for (int i = 0; i < KEEPINGS; i++) {
            kept[i] = new Scene();
        }
    }

    // ---- the town

    public int sign(int v) {
        return text.addFour(v) ? text.length : NONE;
    }

    public boolean end(int n) {
        return text.cut(n);
    }

    public int town() {
        int told = draftTown.read(text);
        text.cut(0);
        if (told < 0) {
            return told;
        }
        town.copy(draftTown);
        present.clear();
        past.clear();
        corks.told = 0;
        keptBits = 0;
        return told;
    }

    public int water() {
        int told = water.read(text);
        text.cut(0);
        return told;
    }

    public int rule() {
        int told = draftRule.read(text);
        text.cut(0);
        if (told >= 0) {
            rule.copy(draftRule);
        }
        return told;
    }

    public int place(int p, int what) throws NoSuchElementException {
        if (!town.has(p)) {
            throw new NoSuchElementException("no such place");
        }
        switch (what) {
            case 0:
                return town.kindOf(p);
            case 1:
                return town.nextOf(p);
            case 2:
                return town.secondOf(p);
            case 3:
                return (present.planks >> p) & 1;
            case 4:
                return town.figureOf(p);
            case 5:
                return present.at(p) & present.onWay();
            default:
                throw new NoSuchElementException("a place has no such number");
        }
    }

    public int of(int thing, int what) throws NoSuchElementException {
        if (!present.has(thing)) {
            throw new NoSuchElementException("no such thing");
        }
        switch (what) {
            case 0:
                return present.spotOf(thing);
            case 1:
                return present.paperOf(thing);
            case 2:
                return present.purseOf(thing);
            case 3:
                return present.trailOf(thing);
            case 4:
                return present.fateOf(thing);
            case 5:
                return present.startsIn(thing);
            case 6:
                return present.endedIn(thing);
            default:
                throw new NoSuchElementException("a thing has no such number");
        }
    }

    public int flow(int minute) {
        return minute >= 0 && minute <= 9999 ? water.in(minute) : NONE;
    }

    public boolean plank(int p, int v) {
        if (!town.isFork(p) || v < 0 || v > 1) {
            return false;
        }
        past.push(present);
        present.planks = (present.planks & ~(1 << p)) | (v << p);
        return true;
    }

    public int sheet(int kind, int n, int f, int step) {
        if (kind < 0 || kind > 3 || n > MOST_THINGS) {
            return NONE;
        }
        boolean isMissing = kind == 3;
        if (!isMissing && n < 0) {
            return NOT;
        }
        int sum = 0;
        for (int i = 0; i < present.things; i++) {
            int told = isMissing || i >= n ? 0 : entry(kind, f + i * step);
            present.setPaper(i, told);
            sum += told;
        }
        return isMissing ? NEITHER : sum;
    }

    private static int entry(int kind, int number) {
        int told = kind == 0 ? (byte) number : kind == 1 ? (short) number : number;
        return Math.max(0, Math.min(MOST_BOAT, told));
    }

    // ---- things and minutes

    public int put(int p, int boat, int coins, int w) {
        if (!town.has(p) || !isLoad(boat, coins) || !isWait(w)) {
            return NONE;
        }
        if (present.things >= MOST_THINGS) {
            return NOT;
        }
        past.push(present);
        return present.add(p, boat, coins, w, town.isKitchen(p));
    }

    public int give(int thing, int n) {
        if (!present.isOnWay(thing) || n < 1 || n > MOST_COINS) {
            return NONE;
        }
        past.push(present);
        return present.enrich(thing, n);
    }

    public int run(int n) {
        if (n < 0 || n > MOST_RUN) {
            return NONE;
        }
        if (n > 0) {
            past.push(present);
        }
        int wasHome = present.home;
        int wasLost = present.lost;
        passMinutes(n);
        int came = present.home & ~wasHome;
        row.tell(came, present.lost & ~wasLost);
        return Integer.bitCount(came);
    }

    private void passMinutes(int n) {
        for (int k = 0; k < n; k++) {
            current.pass(present);
        }
    }

    public int day() {
        int acts = diary.read(text);
        text.cut(0);
        if (acts < 0) {
            return acts;
        }
        before.copy(present);
        int done = 0;
        int came = 0;
        boolean could = true;
        for (int act = 0; act < acts && could; act++) {
            int told = perform(act);
            could = told >= 0;
            if (could) {
                done++;
                came += told;
            }
        }
        if (done > 0) {
            past.push(before);
        }
        row.tell(could ? 0 : 1, came);
        return done;
    }

    /** How many came HOME in an ACT; NONE if it can't be done. */
    private int perform(int act) {
        int first = diary.firstOf(act);
        int second = diary.secondOf(act);
        switch (diary.kindOf(act)) {
            case Diary.PUT:
                if (!town.has(first) || present.things >= MOST_THINGS) {
                    return NONE;
                }
                present.add(first, second, diary.thirdOf(act), 0, town.isKitchen(first));
                return 0;
            case Diary.TURN:
                if (!town.isFork(first)) {
                    return NONE;
                }
                present.planks ^= 1 << first;
                return 0;
            case Diary.GIVE:
                if (!present.isOnWay(first)) {
                    return NONE;
                }
                present.enrich(first, second);
                return 0;
            default:
                int wasHome = present.home;
                passMinutes(first);
                return Integer.bitCount(present.home & ~wasHome);
        }
    }

    public int undo() {
        return past.pop(present) ? past.size : NONE;
    }

    // ---- what will be

    public int where(int thing, int n) {
        if (!present.has(thing) || !isAhead(n)) {
            return NONE;
        }
        trials.goOn(present, n);
        Scene then = trials.scene;
        row.tell(then.fateOf(thing), then.paperOf(thing), then.purseOf(thing));
        return then.spotOf(thing);
    }

    public int comes(int thing) {
        if (!present.has(thing)) {
            return NONE;
        }
        int minutes = trials.settle(present, thing);
        Scene then = trials.scene;
        int fate = then.fateOf(thing);
        if (fate == Scene.HOME) {
            row.tell(then.spotOf(thing), then.trailOf(thing));
            return minutes;
        }
        row.tell(then.spotOf(thing));
        return fate == Scene.LOST ? NOT : NEITHER;
    }

    public int lost(int n) {
        if (!isAhead(n)) {
            return NONE;
        }
        Scene then = trials.scene;
        then.copy(present);
        for (int k = 1; k <= n && then.onWay() != 0; k++) {
            current.pass(then);
            int gone = then.lost & ~present.lost;
            if (gone != 0) {
                int thing = lowest(gone);
                row.tell(k, then.spotOf(thing));
                return thing;
            }
        }
        return NOT;
    }

    public int homes(int n) {
        if (!isAhead(n)) {
            return NONE;
        }
        trials.goOn(present, n);
        row.tell(trials.scene.lost, trials.scene.onWay());
        return trials.scene.home;
    }

    // ---- one alone

    public int sail(int p, int boat, int coins, int w, int to) {
        if (!town.has(p) || !isLoad(boat, coins) || !isWait(w) || !town.isKitchen(to)) {
            return NONE;
        }
        int told = sailed(p, boat, coins, w);
        return isIn(told, to) ? minutesOf(told) : NOT;
    }

    public int soonest(int boat, int coins, int to) {
        if (!isLoad(boat, coins) || !town.isKitchen(to)) {
            return NONE;
        }
        int best = LOOK_AHEAD + 1;
        int bestPlace = NONE;
        int bestWait = NONE;
        for (int p = 0; p < town.size; p++) {
            for (int w = 0; w <= 30 && w < best && p != to; w++) {
                int told = sailed(p, boat, coins, w);
                if (isIn(told, to) && minutesOf(told) < best) {
                    best = minutesOf(told);
                    bestPlace = p;
                    bestWait = w;
                }
            }
        }
        if (bestPlace == NONE) {
            return NOT;
        }
        row.tell(bestPlace, bestWait);
        return best;
    }

    public int basin(int boat, int coins, int to) {
        if (!isLoad(boat, coins) || !town.isKitchen(to)) {
            return NONE;
        }
        int there = 0;
        int home = 0;
        int gone = 0;
        for (int p = 0; p < town.size; p++) {
            int told = sailed(p, boat, coins, 0);
            there |= isIn(told, to) ? 1 << p : 0;
            home |= trials.scene.home != 0 ? 1 << p : 0;
            gone |= trials.scene.lost != 0 ? 1 << p : 0;
        }
        row.tell(home, gone);
        return there;
    }

    public int boat(int p, int coins, int to) {
        if (!town.has(p) || !isLoad(0, coins) || !town.isKitchen(to)) {
            return NONE;
        }
        for (int paper = 0; paper <= MOST_BOAT; paper++) {
            int told = sailed(p, paper, coins, 0);
            if (isIn(told, to)) {
                row.tell(minutesOf(told));
                return paper;
            }
        }
        return NOT;
    }

    public int coins(int p, int boat, int to) {
        if (!town.has(p) || !isLoad(boat, 0) || !town.isKitchen(to)) {
            return NONE;
        }
        for (int purse = 0; purse <= MOST_COINS; purse++) {
            int told = sailed(p, boat, purse, 0);
            if (isIn(told, to)) {
                row.tell(minutesOf(told));
                return purse;
            }
        }
        return NOT;
    }

    public int waits(int p, int boat, int coins, int to) {
        if (!town.has(p) || !isLoad(boat, coins) || !town.isKitchen(to)) {
            return NONE;
        }
        int bits = 0;
        int best = NONE;
        int fewest = NONE;
        for (int w = 0; w < 30; w++) {
            int told = sailed(p, boat, coins, w);
            if (!isIn(told, to)) {
                continue;
            }
            bits |= 1 << w;
            // In the kitchen itself it is HOME ahead of its setting out: that takes no MINUTES.
            int took = Math.max(0, minutesOf(told) - w);
            if (best == NONE || took < fewest) {
                best = w;
                fewest = took;
            }
        }
        row.tell(best, fewest);
        return bits;
    }

    public int round(int p) {
        if (!town.has(p)) {
            return NONE;
        }
        trials.thinkOf(p, MOST_BOAT, MOST_COINS, 0, present.now);
        trials.begin(present.planks);
        current.isEndless = true;
        int first = trials.circle(p, LOOK_AHEAD);
        int second = first == FAILED ? FAILED : trials.circle(p, LOOK_AHEAD - first);
        current.isEndless = false;
        if (first == FAILED) {
            return NOT;
        }
        row.tell(second == FAILED ? NONE : second);
        return first;
    }

    // ---- planks

    public int save(int those) {
        if (those < 0 || those >= 1 << present.things) {
            return NONE;
        }
        trials.startFrom(present, those, 0);
        return fewestTurns(NONE);
    }

    public int steer(int thing, int to) {
        if (!present.has(thing) || !town.isKitchen(to)) {
            return NONE;
        }
        trials.startFrom(present, 1 << thing, thing);
        return fewestTurns(to);
    }

    /** The fewest PLANKS to be turned so that the trial ends in a kitchen (NONE: in any). */
    private int fewestTurns(int to) {
        trials.forgetSets();
        int fewest = MOST_PLACES + 1;
        int best = NONE;
        int minutes = 0;
        int turned = 0;
        for (int k = 0; k < town.sets; k++) {
            int turns = Integer.bitCount(turned);
            int told = turns < fewest ? trials.outcome(present.planks ^ turned) : FAILED;
            if (told != FAILED && (to == NONE || isIn(told, to))) {
                fewest = turns;
                best = turned;
                minutes = minutesOf(told);
            }
            turned = town.nextSet(turned);
        }
        if (best == NONE) {
            return NOT;
        }
        row.tell(best, minutes);
        return fewest;
    }

    public int ways(int p, int boat, int coins, int to) {
        if (!town.has(p) || !isLoad(boat, coins) || !town.isKitchen(to)) {
            return NONE;
        }
        trials.thinkOf(p, boat, coins, 0, present.now);
        trials.forgetSets();
        int many = 0;
        int first = NONE;
        int last = NONE;
        int set = 0;
        for (int k = 0; k < town.sets; k++) {
            if (isIn(trials.outcome(set), to)) {
                many++;
                first = first == NONE ? set : first;
                last = set;
            }
            set = town.nextSet(set);
        }
        row.tell(first, last);
        return many;
    }

    public int duel(int p, int boat, int coins, int to, int n) {
        if (!town.has(p) || !isLoad(boat, coins) || !town.isKitchen(to) || n < 0 || n > 3) {
            return NONE;
        }
        trials.thinkOf(p, boat, coins, 0, present.now);
        trials.forgetSets();
        int turned = NONE;
        boolean gets = firstGets(present.planks, to, Math.max(0, n - 1), false);
        for (int f = 0; f < town.size && n > 0 && !gets; f++) {
            if (town.isFork(f) && firstGets(present.planks ^ (1 << f), to, n - 1, false)) {
                gets = true;
                turned = f;
            }
        }
        row.tell(turned);
        return gets ? 1 : 0;
    }

    /** Whether the first gets it, with so many turns left (3 at most: so deep it goes). */
    private boolean firstGets(int planks, int to, int left, boolean isFirst) {
        if (left <= 0) {
            return isIn(trials.outcome(planks), to);
        }
        boolean gets = firstGets(planks, to, left - 1, !isFirst);
        for (int f = 0; f < town.size && gets != isFirst; f++) {
            if (town.isFork(f)) {
                gets = firstGets(planks ^ (1 << f), to, left - 1, !isFirst);
            }
        }
        return gets;
    }

    // ---- corks

    public int cork(int p, int m, int to) {
        boolean isEnd = to == NONE || town.isKitchen(to);
        if (!town.has(p) || !isCorkMinute(m) || !isEnd) {
            return NONE;
        }
        return corks.add(p, m, to) ? corks.told : NONE;
    }

    public int forget() {
        int were = corks.told;
        corks.told = 0;
        return were;
    }

    public int maps() {
        findFits();
        int many = 0;
        int least = NONE;
        int ones = town.forks;
        int zeros = town.forks;
        int set = 0;
        for (int k = 0; k < town.sets; k++) {
            if (trials.fits(set)) {
                many++;
                least = least == NONE ? set : least;
                ones &= set;
                zeros &= ~set;
            }
            set = town.nextSet(set);
        }
        row.tell(least, ones, zeros);
        return many;
    }

    public int next(int m) {
        if (town.size == 0 || !isCorkMinute(m)) {
            return NONE;
        }
        findFits();
        int best = NONE;
        int fewest = MOST_SETS + 1;
        for (int p = 0; p < town.size; p++) {
            trials.thinkOf(p, MOST_BOAT, 0, 0, m);
            int left = trials.mostLeft();
            if (left < fewest) {
                fewest = left;
                best = p;
            }
        }
        if (fewest == 0) {
            return NOT;
        }
        row.tell(fewest);
        return best;
    }

    /** Sets of forks by which all corks would have done what was told of them. */
    private void findFits() {
        trials.fitAll();
        for (int i = 0; i < corks.told; i++) {
            int end = corks.endOf(i);
            trials.thinkOf(corks.spotOf(i), MOST_BOAT, 0, 0, corks.minuteOf(i));
            trials.forgetSets();
            int set = 0;
            for (int k = 0; k < town.sets; k++) {
                if (trials.fits(set) && kitchenOf(trials.outcome(set)) != end) {
                    trials.setFitting(set, false);
                }
                set = town.nextSet(set);
            }
        }
    }

    // ---- odds, marks, orders

    public int odds(int thing, int n, int p) {
        if (!present.has(thing) || n < 0 || n > 60 || p < 0 || p > 10) {
            return NONE;
        }
        int firstHour = (present.now + HOUR - 1) / HOUR;
        int hours = n == 0 ? 0 : Math.max(0, (present.now + n - 1) / HOUR - firstHour + 1);
        int upper = 0;
        int lower = 1;
        for (int h = 0; h < hours; h++) {
            lower *= 10;
        }
        current.rainFrom = firstHour;
        for (int rain = 0; rain < 1 << hours; rain++) {
            int weight = weightOf(rain, hours, p);
            if (weight > 0) {
                current.rain = rain;
                trials.goOn(present, n);
                upper += trials.scene.fateOf(thing) == Scene.HOME ? weight : 0;
            }
        }
        current.rain = 0;
        int common = commonDivisor(upper, lower);
        row.tell(upper / common, lower / common);
        return 0;
    }

    private static int weightOf(int rain, int hours, int p) {
        int weight = 1;
        for (int h = 0; h < hours; h++) {
            weight *= ((rain >> h) & 1) != 0 ? p : 10 - p;
        }
        return weight;
    }

    /** At least 1, so that it may divide. */
    private static int commonDivisor(int one, int other) {
        int a = one;
        int b = other;
        for (int k = 0; k < 100 && b != 0; k++) {
            int left = a % b;
            a = b;
            b = left;
        }
        return Math.max(1, a);
    }

    public int marks(int boat, int coins, int those) {
        if (!isLoad(boat, coins) || those < 0 || those >= MOST_SETS) {
            return NONE;
        }
        int many = 0;
        int places = 0;
        int leastWait = NONE;
        for (int p = 0; p < town.size; p++) {
            for (int w = 0; w < 10; w++) {
                int told = sailed(p, boat, coins, w);
                if (told != FAILED && trials.scene.trailOf(0) == those) {
                    leastWait = many == 0 ? w : leastWait;
                    many++;
                    places |= 1 << p;
                }
            }
        }
        if (many == 0) {
            row.tell(0);
        } else {
            row.tell(lowest(places), leastWait, places);
        }
        return many;
    }

    public int order(int one, int other) {
        if (one == other || !present.isOnWay(one) || !present.isOnWay(other)) {
            return NONE;
        }
        trials.startFrom(present, (1 << one) | (1 << other), one);
        for (int sum = 0; sum <= 18; sum++) {
            int many = 0;
            int least = NONE;
            for (int a = Math.max(0, sum - 9); a <= Math.min(9, sum); a++) {
                trials.start.setStart(one, present.now + a);
                trials.start.setStart(other, present.now + sum - a);
                if (trials.go(present.planks) != FAILED) {
                    least = many == 0 ? a : least;
                    many++;
                }
            }
            if (many > 0) {
                row.tell(least, sum - least, many);
                return sum;
            }
        }
        return NOT;
    }

    // ---- kept

    public boolean keep(int i) {
        if (i < 0 || i >= KEEPINGS) {
            return false;
        }
        kept[i].copy(present);
        keptBits |= 1 << i;
        return true;
    }

    public boolean again(int i) {
        if (i < 0 || i >= KEEPINGS || ((keptBits >> i) & 1) == 0) {
            return false;
        }
        present.copy(kept[i]);
        past.clear();
        return true;
    }

    public int count(int what) {
        switch (what) {
            case 0:
                return town.size;
            case 1:
                return present.things;
            case 2:
                return present.now;
            case 3:
                return town.forks;
            case 4:
                return present.planks;
            case 5:
                return present.onWay();
            case 6:
                return present.home;
            case 7:
                return present.lost;
            case 8:
                return past.size;
            case 9:
                return corks.told;
            case 10:
                return row.size;
            case 11:
                return text.length;
            default:
                return -100;
        }
    }

    public long row(int i) throws NoSuchElementException {
        if (i < 0 || i >= row.size) {
            throw new NoSuchElementException("the row has no such number");
        }
        return row.numberAt(i);
    }

    // ---- what several calls ask

    private static boolean isLoad(int boat, int coins) {
        return boat >= 0 && boat <= MOST_BOAT && coins >= 0 && coins <= MOST_COINS;
    }

    private static boolean isWait(int w) {
        return w >= 0 && w <= MOST_WAIT;
    }

    private static boolean isAhead(int n) {
        return n >= 0 && n <= LOOK_AHEAD;
    }

    private static boolean isCorkMinute(int m) {
        return m >= 0 && m <= MOST_CORK_MINUTE;
    }

    private static boolean isIn(int told, int kitchen) {
        return told >= 0 && told % KITCHENS == kitchen;
    }

    private static int kitchenOf(int told) {
        return told >= 0 ? told % KITCHENS : NONE;
    }

    private static int minutesOf(int told) {
        return told / KITCHENS;
    }

    private static int lowest(int bits) {
        for (int i = 0; i < 32; i++) {
            if (((bits >> i) & 1) != 0) {
                return i;
            }
        }
        return NONE;
    }

    /** What becomes of a THING that is alone, under the PLANKS that are. */
    private int sailed(int p, int boat, int coins, int w) {
        trials.thinkOf(p, boat, coins, w, present.now);
        return trials.go(present.planks);
    }

    /** THE TEXT. */
    private static final class Signs {
        private static final int MOST = 80;

        private final int[] signs = new int[MOST];
        private int seen;
        int length;

        boolean addFour(int v) {
            if (length < 0 || length > MOST - 4) {
                return false;
            }
            signs[length] = (v >>> 24) & 255;
            signs[length + 1] = (v >>> 16) & 255;
            signs[length + 2] = (v >>> 8) & 255;
            signs[length + 3] = v & 255;
            length += 4;
            return true;
        }

        boolean cut(int n) {
            if (n < 0 || n > length) {
                return false;
            }
            length = n;
            return true;
        }

        /** A reader sees so many signs at most: the next one, if there are more, can't stand there. */
        void showAtMost(int most) {
            seen = Math.min(most, length);
        }

        int look(int at) {
            return at >= 0 && at < seen && at < MOST ? signs[at] : NONE;
        }

        boolean isOver(int at) {
            return at >= length;
        }

        boolean hasSign(int at, char sign) {
            return look(at) == sign;
        }

        /** The digit at a sign, NONE if it is no digit. */
        int digit(int at) {
            int sign = look(at);
            return sign >= '0' && sign <= '9' ? sign - '0' : NONE;
        }

        /** The PLACE of a letter a .. l, NONE if it is no such letter. */
        int letter(int at) {
            int sign = look(at);
            return sign >= 'a' && sign < 'a' + MOST_PLACES ? sign - 'a' : NONE;
        }

        /** Which of the signs that may stand there it is, NONE if none of them. */
        int oneOf(String signsThatMay, int at) {
            int sign = look(at);
            return sign < 0 ? NONE : signsThatMay.indexOf((char) sign);
        }
    }

    /** THE TOWN. */
    private static final class Town {
        private static final int MOST_SIGNS = 76;
        private static final String KINDS = "gdfrmik";

        private final int[] kinds = new int[MOST_PLACES];
        private final int[] nexts = new int[MOST_PLACES];
        private final int[] seconds = new int[MOST_PLACES];
        private final int[] figures = new int[MOST_PLACES];
        /** Of each letter the first sign in the text that is it, NONE if none is. */
        private final int[] firstUse = new int[MOST_PLACES];
        private int kitchens;
        int size;
        int forks;
        /** How many sets of forks there are. */
        int sets = 1;

        boolean has(int p) {
            return p >= 0 && p < size;
        }

        boolean isFork(int p) {
            return p >= 0 && p < MOST_PLACES && ((forks >> p) & 1) != 0;
        }

        boolean isKitchen(int p) {
            return p >= 0 && p < MOST_PLACES && ((kitchens >> p) & 1) != 0;
        }

        int kindOf(int p) {
            return p >= 0 && p < MOST_PLACES ? kinds[p] : KITCHEN;
        }

        int nextOf(int p) {
            return p >= 0 && p < MOST_PLACES ? nexts[p] : NONE;
        }

        int secondOf(int p) {
            return p >= 0 && p < MOST_PLACES ? seconds[p] : NONE;
        }

        int figureOf(int p) {
            return p >= 0 && p < MOST_PLACES ? figures[p] : 0;
        }

        /** The set of forks behind a set, by the numbers of their bits; behind the last the empty one. */
        int nextSet(int set) {
            return (set - forks) & forks;
        }

        void copy(Town other) {
            size = other.size;
            forks = other.forks;
            kitchens = other.kitchens;
            sets = other.sets;
            for (int p = 0; p < MOST_PLACES; p++) {
                kinds[p] = other.kinds[p];
                nexts[p] = other.nexts[p];
                seconds[p] = other.seconds[p];
                figures[p] = other.figures[p];
            }
        }

        /** How many PLACES a text tells, or -1 - p: the sign at p can't stand there. */
        int read(Signs text) {
            clear();
            text.showAtMost(MOST_SIGNS);
            if (text.isOver(0)) {
                return 0;
            }
            int at = 0;
            for (int line = 0; line < MOST_PLACES; line++) {
                int behind = readLine(text, at);
                if (behind < 0) {
                    return behind;
                }
                if (text.isOver(behind)) {
                    return judgeLetters();
                }
                if (!text.hasSign(behind, ';')) {
                    return -1 - behind;
                }
                at = behind + 1;
            }
            return -1 - at;
        }

        private void clear() {
            size = 0;
            forks = 0;
            kitchens = 0;
            sets = 1;
            for (int p = 0; p < MOST_PLACES; p++) {
                firstUse[p] = NONE;
            }
        }

        private int judgeLetters() {
            int first = NONE;
            for (int p = size; p < MOST_PLACES; p++) {
                int use = firstUse[p];
                if (use != NONE && (first == NONE || use < first)) {
                    first = use;
                }
            }
            return first == NONE ? size : -1 - first;
        }

        /** The sign behind a LINE that begins at a sign, or -1 - p. */
        private int readLine(Signs text, int at) {
            int kind = text.oneOf(KINDS, at);
            if (kind < 0) {
                return -1 - at;
            }
            if (kind == KITCHEN) {
                addPlace(kind, NONE, NONE, 0);
                return at + 1;
            }
            int next = text.letter(at + 1);
            if (next < 0) {
                return -1 - (at + 1);
            }
            use(next, at + 1);
            if (kind == GUTTER) {
                addPlace(kind, next, NONE, 0);
                return at + 2;
            }
            if (kind == FORK) {
                return readFork(text, next, at + 2);
            }
            return kind == MILL ? readMill(text, next, at + 2) : readFigure(text, kind, next, at + 2);
        }

        private int readFork(Signs text, int next, int at) {
            int second = text.letter(at);
            if (second < 0) {
                return -1 - at;
            }
            use(second, at);
            addPlace(FORK, next, second, 0);
            return at + 1;
        }

        private int readMill(Signs text, int next, int at) {
            int from = text.digit(at);
            if (from < 0) {
                return -1 - at;
            }
            int to = text.digit(at + 1);
            if (to < from) {
                return -1 - (at + 1);
            }
            addPlace(MILL, next, NONE, 10 * from + to);
            return at + 2;
        }

        private int readFigure(Signs text, int kind, int next, int at) {
            int figure = text.digit(at);
            if (figure < (kind == FISH ? 2 : 1)) {
                return -1 - at;
            }
            addPlace(kind, next, NONE, figure);
            return at + 1;
        }

        private void use(int letter, int at) {
            if (letter >= 0 && letter < MOST_PLACES && firstUse[letter] == NONE) {
                firstUse[letter] = at;
            }
        }

        private void addPlace(int kind, int next, int second, int figure) {
            if (size < 0 || size >= MOST_PLACES) {
                return;
            }
            kinds[size] = kind;
            nexts[size] = next;
            seconds[size] = second;
            figures[size] = figure;
            if (kind == FORK) {
                forks |= 1 << size;
                sets *= 2;
            }
            if (kind == KITCHEN) {
                kitchens |= 1 << size;
            }
            size++;
        }
    }

    /** THE WATER. */
    private static final class Water {
        private static final int MOST_SIGNS = 40;

        private final int[] digits = new int[MOST_SIGNS];
        private int length;

        int in(int minute) {
            if (length <= 0 || length > MOST_SIGNS || minute < 0) {
                return 1;
            }
            return digits[minute / HOUR % length];
        }

        /** How many digits a text tells, or -1 - p; the old ones stay if it is not THE WATER. */
        int read(Signs text) {
            text.showAtMost(MOST_SIGNS);
            for (int at = 0; at <= MOST_SIGNS && !text.isOver(at); at++) {
                int digit = text.digit(at);
                if (digit < 0 || digit > 3) {
                    return -1 - at;
                }
            }
            length = Math.min(text.length, MOST_SIGNS);
            for (int at = 0; at < length; at++) {
                digits[at] = text.digit(at);
            }
            return length;
        }
    }

    /** THE RULE, as steps on a stack: a THING is asked for its way often, and the text is read once. */
    private static final class Rule {
        private static final int MOST_SIGNS = 40;
        private static final int MOST_OPEN = 4;
        private static final int MOST_DIGITS = 3;
        private static final String FACTS = "pmwibcnf";
        private static final String JOINTS = "+-*/<>=";
        /** Steps below this one are facts, by their place in FACTS. */
        private static final int NEGATE = 8;
        /** The steps of JOINTS, in their order, begin here. */
        private static final int ADD = 9;
        private static final int SUBTRACT = 10;
        private static final int TIMES = 11;
        private static final int DIVIDE = 12;
        private static final int LESS = 13;
        private static final int MORE = 14;
        private static final int OPEN = 16;
        /** Steps from this one on are numbers, that much higher. */
        private static final int NUMBER = 32;

        static final int PLANK = 0;
        static final int MINUTE = 1;
        static final int FLOW = 2;
        static final int THING = 3;
        static final int PAPER = 4;
        static final int PURSE = 5;
        static final int OTHERS = 6;
        static final int SPOT = 7;
        static final int FACT_COUNT = 8;

        private final int[] steps = new int[MOST_SIGNS];
        private final int[] stack = new int[MOST_SIGNS];
        private final int[] held = new int[MOST_SIGNS];
        private int size;
        private int holding;
        private int open;
        /** Of each depth of ( ) whether there was a < > = in it, bits. */
        private int compared;
        private int digits;
        private boolean wantsThing;
        boolean asksPlank;
        boolean asksOthers;

        Rule() {
            steps[0] = PLANK;
            size = 1;
            asksPlank = true;
        }

        void copy(Rule other) {
            size = other.size;
            asksPlank = other.asksPlank;
            asksOthers = other.asksOthers;
            for (int k = 0; k < MOST_SIGNS; k++) {
                steps[k] = other.steps[k];
            }
        }

        /** 0, or -1 - p: the sign at p can't stand there. */
        int read(Signs text) {
            clear();
            text.showAtMost(MOST_SIGNS);
            if (text.isOver(0)) {
                addFact(PLANK);
                return 0;
            }
            for (int at = 0; at <= MOST_SIGNS; at++) {
                if (text.isOver(at)) {
                    return finish(at);
                }
                boolean fits = wantsThing ? takeThing(text, at) : takeBehindThing(text, at);
                if (!fits) {
                    return -1 - at;
                }
            }
            return -1 - MOST_SIGNS;
        }

        private void clear() {
            size = 0;
            holding = 0;
            open = 0;
            compared = 0;
            digits = 0;
            wantsThing = true;
            asksPlank = false;
            asksOthers = false;
        }

        private int finish(int at) {
            if (wantsThing || open > 0) {
                return -1 - at;
            }
            release(0);
            return 0;
        }

        private boolean takeThing(Signs text, int at) {
            int fact = text.oneOf(FACTS, at);
            int digit = text.digit(at);
            if (fact >= 0) {
                addFact(fact);
            } else if (digit >= 0) {
                addStep(NUMBER + digit);
                digits = 1;
                wantsThing = false;
            } else if (text.hasSign(at, '-')) {
                hold(NEGATE);
            } else if (text.hasSign(at, '(') && open < MOST_OPEN) {
                open++;
                compared &= ~(1 << open);
                hold(OPEN);
            } else {
                return false;
            }
            return true;
        }

        private boolean takeBehindThing(Signs text, int at) {
            int digit = text.digit(at);
            if (digit >= 0) {
                return lengthenNumber(digit);
            }
            if (text.hasSign(at, ')')) {
                return close();
            }
            int joint = text.oneOf(JOINTS, at);
            if (joint < 0) {
                return false;
            }
            int step = ADD + joint;
            if (step >= LESS) {
                if (((compared >> open) & 1) != 0) {
                    return false;
                }
                compared |= 1 << open;
            }
            release(rankOf(step));
            hold(step);
            wantsThing = true;
            return true;
        }

        private boolean lengthenNumber(int digit) {
            if (digits >= MOST_DIGITS || size < 1 || size > MOST_SIGNS) {
                return false;
            }
            int number = steps[size - 1] - NUMBER;
            steps[size - 1] = NUMBER + 10 * number + digit;
            digits++;
            return true;
        }

        private boolean close() {
            if (open <= 0) {
                return false;
            }
            release(0);
            holding = Math.max(0, holding - 1);
            open--;
            digits = MOST_DIGITS;
            return true;
        }

        private void addFact(int fact) {
            asksPlank |= fact == PLANK;
            asksOthers |= fact == OTHERS;
            addStep(fact);
            digits = MOST_DIGITS;
            wantsThing = false;
        }

        private void addStep(int step) {
            if (size >= 0 && size < MOST_SIGNS) {
                steps[size] = step;
                size++;
            }
        }

        private void hold(int step) {
            if (holding >= 0 && holding < MOST_SIGNS) {
                held[holding] = step;
                holding++;
            }
        }

        /** What is held, back to the last ( and as far as it binds no less, is a step now. */
        private void release(int rank) {
            for (int k = 0; k < MOST_SIGNS && holding > 0 && holding <= MOST_SIGNS; k++) {
                int step = held[holding - 1];
                if (step == OPEN || rankOf(step) < rank) {
                    return;
                }
                holding--;
                addStep(step);
            }
        }

        private static int rankOf(int step) {
            if (step == NEGATE) {
                return 4;
            }
            if (step == TIMES || step == DIVIDE) {
                return 3;
            }
            return step == ADD || step == SUBTRACT ? 2 : 1;
        }

        int value(int[] facts) {
            int top = 0;
            for (int k = 0; k < size && k < MOST_SIGNS && top < MOST_SIGNS; k++) {
                int step = steps[k];
                if (step >= NUMBER) {
                    stack[top++] = step - NUMBER;
                    continue;
                }
                if (step >= 0 && step < facts.length) {
                    stack[top++] = facts[step];
                    continue;
                }
                if (top < (step == NEGATE ? 1 : 2)) {
                    return 0;
                }
                top -= step == NEGATE ? 0 : 1;
                int one = stack[top - 1];
                int other = stack[top];
                switch (step) {
                    case NEGATE:
                        stack[top - 1] = -one;
                        break;
                    case ADD:
                        stack[top - 1] = one + other;
                        break;
                    case SUBTRACT:
                        stack[top - 1] = one - other;
                        break;
                    case TIMES:
                        stack[top - 1] = one * other;
                        break;
                    case DIVIDE:
                        stack[top - 1] = other == 0 ? 0 : one / other;
                        break;
                    case LESS:
                        stack[top - 1] = one < other ? 1 : 0;
                        break;
                    case MORE:
                        stack[top - 1] = one > other ? 1 : 0;
                        break;
                    default:
                        stack[top - 1] = one == other ? 1 : 0;
                        break;
                }
            }
            return stack[0];
        }
    }

    /** A DAY, as a text tells it. */
    private static final class Diary {
        private static final int MOST_SIGNS = 60;
        /** An ACT has two signs and more, and a ; behind it. */
        private static final int MOST_ACTS = 20;
        private static final String KINDS = "tpnc";

        static final int PUT = 0;
        static final int TURN = 1;
        static final int MINUTES = 2;
        static final int GIVE = 3;

        private final int[] kinds = new int[MOST_ACTS];
        private final int[] firsts = new int[MOST_ACTS];
        private final int[] seconds = new int[MOST_ACTS];
        private final int[] thirds = new int[MOST_ACTS];
        private int acts;

        private boolean has(int act) {
            return act >= 0 && act < acts && act < MOST_ACTS;
        }

        int kindOf(int act) {
            return has(act) ? kinds[act] : MINUTES;
        }

        int firstOf(int act) {
            return has(act) ? firsts[act] : 0;
        }

        int secondOf(int act) {
            return has(act) ? seconds[act] : 0;
        }

        int thirdOf(int act) {
            return has(act) ? thirds[act] : 0;
        }

        /** How many ACTS a text tells, or -1 - p: the sign at p can't stand there. */
        int read(Signs text) {
            acts = 0;
            text.showAtMost(MOST_SIGNS);
            if (text.isOver(0)) {
                return 0;
            }
            int at = 0;
            for (int k = 0; k < MOST_ACTS; k++) {
                int behind = readAct(text, at);
                if (behind < 0) {
                    return behind;
                }
                if (text.isOver(behind)) {
                    return acts;
                }
                if (!text.hasSign(behind, ';')) {
                    return -1 - behind;
                }
                at = behind + 1;
            }
            return -1 - at;
        }

        private int readAct(Signs text, int at) {
            switch (text.oneOf(KINDS, at)) {
                case PUT:
                    return readPut(text, at + 1);
                case TURN:
                    return readTurn(text, at + 1);
                case MINUTES:
                    return readMinutes(text, at + 1);
                case GIVE:
                    return readGive(text, at + 1);
                default:
                    return -1 - at;
            }
        }

        private int readPut(Signs text, int at) {
            int place = text.letter(at);
            if (place < 0) {
                return -1 - at;
            }
            int behind = behindNumber(text, at + 1);
            if (behind < 0) {
                return behind;
            }
            int boat = numberAt(text, at + 1, behind);
            if (!text.hasSign(behind, '+')) {
                add(PUT, place, boat, 0);
                return behind;
            }
            int coins = text.digit(behind + 1);
            if (coins < 0) {
                return -1 - (behind + 1);
            }
            add(PUT, place, boat, coins);
            return behind + 2;
        }

        private int readTurn(Signs text, int at) {
            int place = text.letter(at);
            if (place < 0) {
                return -1 - at;
            }
            add(TURN, place, 0, 0);
            return at + 1;
        }

        private int readMinutes(Signs text, int at) {
            int behind = behindNumber(text, at);
            if (behind >= 0) {
                add(MINUTES, numberAt(text, at, behind), 0, 0);
            }
            return behind;
        }

        private int readGive(Signs text, int at) {
            int thing = text.digit(at);
            if (thing < 0) {
                return -1 - at;
            }
            int coins = text.digit(at + 1);
            if (coins < 1) {
                return -1 - (at + 1);
            }
            add(GIVE, thing, coins, 0);
            return at + 2;
        }

        /** The sign behind a number of 1 or 2 digits, or -1 - p. */
        private static int behindNumber(Signs text, int at) {
            if (text.digit(at) < 0) {
                return -1 - at;
            }
            return text.digit(at + 1) < 0 ? at + 1 : at + 2;
        }

        private static int numberAt(Signs text, int at, int behind) {
            int first = text.digit(at);
            return behind == at + 1 ? first : 10 * first + text.digit(at + 1);
        }

        private void add(int kind, int first, int second, int third) {
            if (acts < 0 || acts >= MOST_ACTS) {
                return;
            }
            kinds[acts] = kind;
            firsts[acts] = first;
            seconds[acts] = second;
            thirds[acts] = third;
            acts++;
        }
    }

    /** THINGS, PLANKS and NOW: what is kept, undone and tried. */
    private static final class Scene {
        static final int HOME = 1;
        static final int LOST = 2;

        private final int[] spots = new int[MOST_THINGS];
        private final int[] papers = new int[MOST_THINGS];
        private final int[] purses = new int[MOST_THINGS];
        private final int[] trails = new int[MOST_THINGS];
        private final int[] starts = new int[MOST_THINGS];
        private final int[] ends = new int[MOST_THINGS];
        int things;
        int planks;
        int now;
        int home;
        int lost;

        void clear() {
            things = 0;
            planks = 0;
            now = 0;
            home = 0;
            lost = 0;
        }

        void copy(Scene other) {
            things = other.things;
            planks = other.planks;
            now = other.now;
            home = other.home;
            lost = other.lost;
            for (int i = 0; i < things && i < MOST_THINGS; i++) {
                spots[i] = other.spots[i];
                papers[i] = other.papers[i];
                purses[i] = other.purses[i];
                trails[i] = other.trails[i];
                starts[i] = other.starts[i];
                ends[i] = other.ends[i];
            }
        }

        boolean has(int i) {
            return i >= 0 && i < things;
        }

        boolean isOnWay(int i) {
            return i >= 0 && i < things && (((home | lost) >> i) & 1) == 0;
        }

        boolean isAfloat(int i) {
            boolean isOut = i >= 0 && i < MOST_THINGS && starts[i] <= now;
            return isOut && (((home | lost) >> i) & 1) == 0;
        }

        int onWay() {
            return ((1 << things) - 1) & ~(home | lost);
        }

        int spotOf(int i) {
            return i >= 0 && i < MOST_THINGS ? spots[i] : NONE;
        }

        int paperOf(int i) {
            return i >= 0 && i < MOST_THINGS ? papers[i] : 0;
        }

        int purseOf(int i) {
            return i >= 0 && i < MOST_THINGS ? purses[i] : 0;
        }

        int trailOf(int i) {
            return i >= 0 && i < MOST_THINGS ? trails[i] : 0;
        }

        int startsIn(int i) {
            return i >= 0 && i < MOST_THINGS ? Math.max(0, starts[i] - now) : 0;
        }

        int endedIn(int i) {
            return i >= 0 && i < MOST_THINGS ? ends[i] : NONE;
        }

        int fateOf(int i) {
            if (((home >> i) & 1) != 0) {
                return HOME;
            }
            return ((lost >> i) & 1) != 0 ? LOST : 0;
        }

        /** THINGS at a PLACE, LOST ones and those that are HOME too, bits. */
        int at(int p) {
            int bits = 0;
            for (int i = 0; i < things && i < MOST_THINGS; i++) {
                bits |= spots[i] == p ? 1 << i : 0;
            }
            return bits;
        }

        int add(int p, int boat, int coins, int wait, boolean isKitchen) {
            int i = things;
            if (i < 0 || i >= MOST_THINGS) {
                return NOT;
            }
            spots[i] = p;
            papers[i] = boat;
            purses[i] = coins;
            trails[i] = 1 << p;
            starts[i] = now + wait;
            ends[i] = NONE;
            things++;
            if (isKitchen) {
                comeHome(i);
            }
            return i;
        }

        int enrich(int i, int coins) {
            if (i < 0 || i >= MOST_THINGS) {
                return NONE;
            }
            purses[i] = Math.min(MOST_COINS, purses[i] + coins);
            return purses[i];
        }

        void setPaper(int i, int boat) {
            if (i >= 0 && i < MOST_THINGS) {
                papers[i] = boat;
            }
        }

        void setPurse(int i, int coins) {
            if (i >= 0 && i < MOST_THINGS) {
                purses[i] = coins;
            }
        }

        void setStart(int i, int minute) {
            if (i >= 0 && i < MOST_THINGS) {
                starts[i] = minute;
            }
        }

        void holdBack(int bits) {
            for (int i = 0; i < things && i < MOST_THINGS; i++) {
                starts[i] = ((bits >> i) & 1) != 0 ? Integer.MAX_VALUE : starts[i];
            }
        }

        void move(int i, int p) {
            if (i >= 0 && i < MOST_THINGS) {
                spots[i] = p;
                trails[i] |= 1 << p;
            }
        }

        void comeHome(int i) {
            if (i >= 0 && i < MOST_THINGS) {
                home |= 1 << i;
                ends[i] = now;
            }
        }

        void lose(int i) {
            if (i >= 0 && i < MOST_THINGS) {
                lost |= 1 << i;
                ends[i] = now;
            }
        }
    }

    /** What can be undone: scenes as they were ahead of calls. */
    private static final class Past {
        private static final int MOST = 15;

        private final Scene[] scenes = new Scene[MOST];
        private int top;
        int size;

        Past() {
            for (int i = 0; i < MOST; i++) {
                scenes[i] = new Scene();
            }
        }

        void clear() {
            size = 0;
        }

        void push(Scene scene) {
            if (top < 0 || top >= MOST) {
                return;
            }
            scenes[top].copy(scene);
            top = top + 1 < MOST ? top + 1 : 0;
            size = Math.min(MOST, size + 1);
        }

        boolean pop(Scene scene) {
            int last = top > 0 ? top - 1 : MOST - 1;
            if (size <= 0 || last >= MOST) {
                return false;
            }
            scene.copy(scenes[last]);
            top = last;
            size--;
            return true;
        }
    }

    /** What was told of corks. */
    private static final class Corks {
        private final int[] spots = new int[MOST_CORKS];
        private final int[] minutes = new int[MOST_CORKS];
        private final int[] ends = new int[MOST_CORKS];
        int told;

        private boolean has(int i) {
            return i >= 0 && i < told && i < MOST_CORKS;
        }

        int spotOf(int i) {
            return has(i) ? spots[i] : 0;
        }

        int minuteOf(int i) {
            return has(i) ? minutes[i] : 0;
        }

        int endOf(int i) {
            return has(i) ? ends[i] : NONE;
        }

        boolean add(int p, int minute, int end) {
            if (told < 0 || told >= MOST_CORKS) {
                return false;
            }
            spots[told] = p;
            minutes[told] = minute;
            ends[told] = end;
            told++;
            return true;
        }
    }

    /** THE ROW. */
    private static final class Row {
        private static final int MOST = 3;

        private final long[] numbers = new long[MOST];
        int size;

        void tell(long first) {
            numbers[0] = first;
            size = 1;
        }

        void tell(long first, long second) {
            numbers[0] = first;
            numbers[1] = second;
            size = 2;
        }

        void tell(long first, long second, long third) {
            numbers[0] = first;
            numbers[1] = second;
            numbers[2] = third;
            size = 3;
        }

        long numberAt(int i) {
            return i >= 0 && i < size && i < MOST ? numbers[i] : 0;
        }
    }

    /** What a MINUTE does to a scene. */
    private static final class Current {
        private static final int MOST_FLOW = 3;

        private final Town town;
        private final Water water;
        private final Rule rule;
        private final int[] facts = new int[Rule.FACT_COUNT];
        /** Forks whose PLANK was looked at: with all others turned, all would be the same. */
        int asked;
        /** THINGS that a rat holds for good, as they get no COINS on their way. */
        int stuck;
        int steps;
        /** BOAT and COINS do not get less. */
        boolean isEndless;
        /** HOURS, from rainFrom on, that have more WATER, bits. */
        int rain;
        int rainFrom;

        Current(Town town, Water water, Rule rule) {
            this.town = town;
            this.water = water;
            this.rule = rule;
        }

        /** Whether a THING's way may hang on where the other ones are. */
        boolean seesOthers() {
            return rule.asksOthers;
        }

        private int flowIn(int minute) {
            int flow = water.in(minute);
            if (rain == 0) {
                return flow;
            }
            int hour = minute / HOUR - rainFrom;
            boolean rains = hour >= 0 && hour < 31 && ((rain >> hour) & 1) != 0;
            return rains ? Math.min(MOST_FLOW, flow + 1) : flow;
        }

        void pass(Scene scene) {
            int flow = flowIn(scene.now);
            for (int i = 0; i < scene.things && flow > 0; i++) {
                boolean goes = scene.isAfloat(i);
                for (int k = 0; k < flow && goes; k++) {
                    goes = step(scene, i, flow);
                }
            }
            scene.now++;
        }

        /** Whether it may make one more STEP in this MINUTE. */
        private boolean step(Scene scene, int i, int flow) {
            int from = scene.spotOf(i);
            int figure = town.figureOf(from);
            int next = town.nextOf(from);
            int soak = 1;
            switch (town.kindOf(from)) {
                case FORK:
                    next = wayOf(scene, i, from, flow);
                    break;
                case FALL:
                    soak += figure;
                    break;
                case RAT:
                    if (!pays(scene, i, figure)) {
                        return false;
                    }
                    break;
                case MILL:
                    int left = scene.now % 10;
                    if (left >= figure / 10 && left <= figure % 10) {
                        scene.lose(i);
                        return false;
                    }
                    break;
                case FISH:
                    if (figure <= 0 || scene.now % figure != 0) {
                        return false;
                    }
                    break;
                case KITCHEN:
                    return false;
                default:
                    break;
            }
            steps++;
            return arrives(scene, i, next, soak);
        }

        private int wayOf(Scene scene, int i, int fork, int flow) {
            int first = town.nextOf(fork);
            int second = town.secondOf(fork);
            if (first == second) {
                return first;
            }
            if (rule.asksPlank) {
                asked |= 1 << fork;
            }
            facts[Rule.PLANK] = (scene.planks >> fork) & 1;
            facts[Rule.MINUTE] = scene.now;
            facts[Rule.FLOW] = flow;
            facts[Rule.THING] = i;
            facts[Rule.PAPER] = scene.paperOf(i);
            facts[Rule.PURSE] = scene.purseOf(i);
            facts[Rule.OTHERS] = rule.asksOthers ? Integer.bitCount(scene.at(fork)) - 1 : 0;
            facts[Rule.SPOT] = fork;
            return rule.value(facts) != 0 ? second : first;
        }

        private boolean pays(Scene scene, int i, int toll) {
            int purse = scene.purseOf(i);
            if (purse < toll) {
                stuck |= 1 << i;
                return false;
            }
            if (!isEndless) {
                scene.setPurse(i, purse - toll);
            }
            return true;
        }

        private boolean arrives(Scene scene, int i, int p, int soak) {
            int paper = isEndless ? scene.paperOf(i) : scene.paperOf(i) - soak;
            scene.setPaper(i, Math.max(0, paper));
            scene.move(i, p);
            if (paper < 0) {
                scene.lose(i);
                return false;
            }
            if (town.isKitchen(p)) {
                scene.comeHome(i);
                return false;
            }
            return true;
        }
    }

    /** What would be: scenes gone through, while what is stays as it is. */
    private static final class Trials {
        private static final int NOWHERE = MOST_PLACES;

        private final Town town;
        private final Current current;
        private final int[] tells = new int[MOST_SETS];
        private final boolean[] fitting = new boolean[MOST_SETS];
        private final int[] tallies = new int[MOST_PLACES + 1];
        private int those;
        private int lead;
        /** What a trial begins with. */
        final Scene start = new Scene();
        /** What it has come to. */
        final Scene scene = new Scene();

        Trials(Town town, Current current) {
            this.town = town;
            this.current = current;
        }

        void thinkOf(int p, int boat, int coins, int wait, int now) {
            start.clear();
            start.now = now;
            start.add(p, boat, coins, wait, town.isKitchen(p));
            those = 1;
            lead = 0;
        }

        /** THINGS that are to be HOME, bits, and the one whose kitchen is told. */
        void startFrom(Scene present, int wanted, int leading) {
            start.copy(present);
            those = wanted;
            lead = leading;
            if (!current.seesOthers()) {
                // What the others do changes nothing then, and goes through no forks.
                start.holdBack(~wanted);
            }
        }

        void begin(int planks) {
            scene.copy(start);
            scene.planks = planks;
            current.asked = 0;
            current.stuck = 0;
        }

        /** MINUTES till the last is HOME, and a kitchen, in one number; FAILED if not all are. */
        int go(int planks) {
            begin(planks);
            for (int k = 0; k <= LOOK_AHEAD; k++) {
                if (((scene.lost | current.stuck) & those) != 0) {
                    return FAILED;
                }
                if ((scene.home & those) == those) {
                    return k * KITCHENS + Math.max(0, scene.spotOf(lead));
                }
                if (k < LOOK_AHEAD) {
                    current.pass(scene);
                }
            }
            return FAILED;
        }

        void goOn(Scene present, int minutes) {
            scene.copy(present);
            for (int k = 0; k < minutes && scene.onWay() != 0; k++) {
                current.pass(scene);
            }
        }

        /** MINUTES till a THING is on its way no more, LOOK_AHEAD at most. */
        int settle(Scene present, int thing) {
            scene.copy(present);
            for (int k = 0; k < LOOK_AHEAD; k++) {
                if (!scene.isOnWay(thing)) {
                    return k;
                }
                current.pass(scene);
            }
            return LOOK_AHEAD;
        }

        /** MINUTES till it is at a PLACE on its way, having made a STEP; FAILED: not in so many. */
        int circle(int p, int most) {
            current.steps = 0;
            for (int k = 1; k <= most; k++) {
                current.pass(scene);
                if (!scene.isOnWay(0)) {
                    return FAILED;
                }
                if (current.steps > 0 && scene.spotOf(0) == p) {
                    return k;
                }
            }
            return FAILED;
        }

        void forgetSets() {
            int set = 0;
            for (int k = 0; k < town.sets; k++) {
                remember(set, UNKNOWN);
                set = town.nextSet(set);
            }
        }

        private void remember(int set, int told) {
            if (set >= 0 && set < MOST_SETS) {
                tells[set] = told;
            }
        }

        /** What go() tells for PLANKS; each way through the town is gone but once. */
        int outcome(int planks) {
            if (planks < 0 || planks >= MOST_SETS) {
                return FAILED;
            }
            if (tells[planks] == UNKNOWN) {
                spread(planks, go(planks));
            }
            return tells[planks];
        }

        private void spread(int planks, int told) {
            int free = town.forks & ~current.asked;
            int sets = 1 << Integer.bitCount(free);
            int part = 0;
            for (int k = 0; k < sets; k++) {
                remember((planks & ~free) | part, told);
                part = (part - free) & free;
            }
        }

        boolean fits(int set) {
            return set >= 0 && set < MOST_SETS && fitting[set];
        }

        void setFitting(int set, boolean fits) {
            if (set >= 0 && set < MOST_SETS) {
                fitting[set] = fits;
            }
        }

        void fitAll() {
            int set = 0;
            for (int k = 0; k < town.sets; k++) {
                setFitting(set, true);
                set = town.nextSet(set);
            }
        }

        /** How many of the sets that fit are left at most, wherever the trial ends. */
        int mostLeft() {
            forgetSets();
            for (int i = 0; i <= NOWHERE; i++) {
                tallies[i] = 0;
            }
            int most = 0;
            int set = 0;
            for (int k = 0; k < town.sets; k++) {
                if (fits(set)) {
                    most = Math.max(most, tally(kitchenOf(outcome(set))));
                }
                set = town.nextSet(set);
            }
            return most;
        }

        private int tally(int kitchen) {
            int i = kitchen >= 0 && kitchen < NOWHERE ? kitchen : NOWHERE;
            tallies[i]++;
            return tallies[i];
        }
    }
}
