import java.util.NoSuchElementException;

/** Luck by the crate: towns, ways and crates as a TEXT tells them, and all that is asked of them. */
public final class LuckCrates {
    public static final int NONE = -1;

    private static final int MOST_BYTES = 700;
    private static final int FEED_BYTES = 20;
    private static final int MOST_TOWNS = 8;
    private static final int MOST_WAYS = 12;
    private static final int MOST_CRATES = 10;
    private static final int MOST_ACTS = 40;
    private static final int MOST_SEEN = 8;
    private static final int MOST_LUCK = 9999;
    private static final int MOST_GRAINS = 99;
    private static final int MOST_DAY = 999;
    private static final int MOST_SENT = 999;
    private static final int MOST_DAYS_AN_ACT = 30;
    private static final int MOST_DAYS_AHEAD = 60;
    private static final int MOST_DAYS_SEEN = 30;
    private static final int MOST_THROWS = 7;
    private static final int MOST_THROWN = 20;
    private static final int TWELFTHS = 12;
    private static final int WINNING_ODDS = 7;
    private static final int GAME_DAYS = 10;
    private static final int MISSED_DAYS = 30;
    private static final int THEFT_DRAW = 9;

    private static final int REFUSED_TEXTS = 0;
    private static final int REFUSED_ACTS = 1;
    private static final int REFUSED_SEEN = 2;

    private final Reader reader = new Reader();
    private int tapeLength = 0;
    private Land land = new Land();
    private final State now = new State();
    private final State trial = new State();
    private final Acts acts = new Acts();
    private final Seen seen = new Seen();
    private boolean imageIs = false;
    private final State imageState = new State();
    private final Acts imageActs = new Acts();
    private final Seen imageSeen = new Seen();
    private final Couples couples = new Couples();
    private final Draws draws = new Draws();
    private final int[] refused = new int[3];
    private int faultPlace = NONE;

    public LuckCrates() {
    }

    // ---- the text

    public int feed(int a, int b, int c, int d, int e) {
        if (tapeLength + FEED_BYTES > MOST_BYTES) {
            return NONE;
        }
        feedNumber(a);
        feedNumber(b);
        feedNumber(c);
        feedNumber(d);
        feedNumber(e);
        return tapeLength;
    }

    public int province(int n) throws IllegalArgumentException {
        if (n < 0 || n > tapeLength) {
            throw new IllegalArgumentException("the tape has not so many bytes");
        }
        tapeLength = 0;
        reader.read(n);
        faultPlace = reader.place;
        if (reader.fault != 0) {
            refused[REFUSED_TEXTS]++;
            return reader.fault;
        }
        Land told = reader.land;
        reader.land = land;
        land = told;
        land.roads.measure(land.towns);
        now.take(land.start);
        acts.clear();
        seen.clear();
        imageIs = false;
        return 0;
    }

    public int fault() {
        return faultPlace;
    }

    // ---- what is

    public int count(int what) throws NoSuchElementException {
        switch (what) {
            case 0: return land.towns;
            case 1: return land.roads.ways;
            case 2: return land.crates;
            case 3: return now.cells[State.DAY];
            case 4: return now.sum(State.LUCK, land.towns);
            case 5: return now.sum(State.BAD, land.towns);
            case 6: return now.sum(State.WON, land.towns);
            case 7: return now.closedBits(land.crates);
            case 8: return now.movingBits(land.crates);
            case 9: return now.goneBits(land.crates);
            case 10: return acts.held;
            case 11: return seen.held;
            case 12: return tapeLength;
            case 13: return refused[REFUSED_TEXTS];
            case 14: return refused[REFUSED_ACTS];
            case 15: return refused[REFUSED_SEEN];
            default: throw new NoSuchElementException("no such count");
        }
    }

    public int town(int town, int what) throws NoSuchElementException {
        needTown(town);
        switch (what) {
            case 0: return now.cells[State.LUCK + town];
            case 1: return now.cells[State.BAD + town];
            case 2: return land.makes[town];
            case 3: return land.stake[town];
            case 4: return now.cells[State.WON + town];
            case 5: return land.rule.odds(land, now, town);
            case 6: return now.bitsIn(land.crates, town);
            default: throw new NoSuchElementException("a town has no such thing");
        }
    }

    public int crate(int crate, int what) throws NoSuchElementException {
        needCrate(crate);
        switch (what) {
            case 0: return now.cells[State.GRAINS + crate];
            case 1: return now.cells[State.BALLAST + crate];
            case 2: return now.cells[State.CAT + crate];
            case 3: return now.cells[State.PLACE + crate];
            case 4: return now.cells[State.TO_GO + crate];
            default: throw new NoSuchElementException("a crate has no such thing");
        }
    }

    // ---- the acts

    public int days(int many) {
        if (many < 1 || many > MOST_DAYS_AN_ACT || now.cells[State.DAY] + many > MOST_DAY) {
            return refuseAct();
        }
        acts.keep(now);
        now.passDays(land, many);
        return now.cells[State.DAY];
    }

    public int send(int crate, int way) throws NoSuchElementException {
        needCrate(crate);
        needWay(way);
        if (!now.lies(crate)) {
            return refuseAct();
        }
        int goal = land.roads.otherEnd(way, now.cells[State.PLACE + crate]);
        if (goal == NONE) {
            return refuseAct();
        }
        acts.keep(now);
        now.cells[State.PLACE + crate] = goal;
        now.cells[State.TO_GO + crate] = land.roads.span[way];
        now.cells[State.LOSS + crate] = land.roads.loss[way];
        return goal;
    }

    public int open(int crate) throws NoSuchElementException {
        needCrate(crate);
        if (!now.lies(crate)) {
            return refuseAct();
        }
        acts.keep(now);
        return now.unpack(crate);
    }

    public boolean cat(int crate, boolean is) throws NoSuchElementException {
        needCrate(crate);
        int wanted = is ? 1 : 0;
        if (now.isGone(crate) || now.cells[State.CAT + crate] == wanted) {
            refused[REFUSED_ACTS]++;
            return false;
        }
        acts.keep(now);
        now.cells[State.CAT + crate] = wanted;
        return true;
    }

    public int mix(int crate, int other) throws NoSuchElementException {
        needCrate(crate);
        needCrate(other);
        if (crate == other || !now.lies(crate) || !now.lies(other)
                || now.cells[State.PLACE + crate] != now.cells[State.PLACE + other]) {
            return refuseAct();
        }
        acts.keep(now);
        now.pour(crate, other);
        return now.cells[State.GRAINS + crate];
    }

    public int undo() {
        if (acts.held == 0) {
            return NONE;
        }
        acts.takeBack(now);
        return acts.held;
    }

    // ---- what will be, if only days go by

    public int then(int town, int days, int what) throws NoSuchElementException, IllegalArgumentException {
        needTown(town);
        if (what < 0 || what > 3) {
            throw new NoSuchElementException("a town has no such thing then");
        }
        needWithin(days, 0, MOST_DAYS_AHEAD);
        trial.take(now);
        for (int i = 0; i < days; i++) {
            trial.passTown(land, town);
        }
        switch (what) {
            case 0: return trial.cells[State.LUCK + town];
            case 1: return trial.cells[State.BAD + town];
            case 2: return trial.cells[State.WON + town];
            default: return land.rule.odds(land, trial, town);
        }
    }

    public int even(int town) throws NoSuchElementException {
        needTown(town);
        trial.take(now);
        for (int days = 0; days <= MOST_DAYS_AHEAD; days++) {
            if (trial.cells[State.LUCK + town] == trial.cells[State.BAD + town]) {
                return days;
            }
            trial.passTown(land, town);
        }
        return NONE;
    }

    public int out(int town) throws NoSuchElementException {
        needTown(town);
        trial.take(now);
        for (int days = 1; days <= MOST_DAYS_AHEAD; days++) {
            if (!trial.passTown(land, town)) {
                return days;
            }
        }
        return NONE;
    }

    public int luckiest(int days) throws IllegalArgumentException {
        needWithin(days, 0, MOST_DAYS_AHEAD);
        trial.take(now);
        trial.passDays(land, days);
        int best = NONE;
        int most = 0;
        for (int t = 0; t < land.towns; t++) {
            int won = trial.cells[State.WON + t];
            if (best == NONE || won > most) {
                best = t;
                most = won;
            }
        }
        return best;
    }

    public int streak(int town, int days) throws NoSuchElementException, IllegalArgumentException {
        needTown(town);
        needWithin(days, 0, MOST_DAYS_AHEAD);
        trial.take(now);
        int longest = 0;
        int running = 0;
        for (int i = 0; i < days; i++) {
            running = trial.passTown(land, town) ? running + 1 : 0;
            longest = Math.max(longest, running);
        }
        return longest;
    }

    public int day(int days, int what) throws NoSuchElementException, IllegalArgumentException {
        needWhat(what, 1);
        needWithin(days, 1, MOST_DAYS_AHEAD);
        trial.take(now);
        int won = trial.sum(State.WON, land.towns);
        int best = 0;
        int most = 0;
        for (int i = 1; i <= days; i++) {
            trial.passDay(land);
            int wonThen = trial.sum(State.WON, land.towns);
            if (best == 0 || wonThen - won > most) {
                best = i;
                most = wonThen - won;
            }
            won = wonThen;
        }
        return what == 0 ? best : most;
    }

    public int pooled(int days) throws IllegalArgumentException {
        needWithin(days, 1, MOST_DAYS_AHEAD);
        trial.take(now);
        int asItIs = trial.wonIn(land, days);
        trial.take(now);
        trial.share(land.towns);
        return trial.wonIn(land, days) - asItIs;
    }

    public int missed() {
        int best = NONE;
        int least = 0;
        for (int c = 0; c < land.crates; c++) {
            if (now.lies(c)) {
                int won = wonWithout(c);
                if (best == NONE || won < least) {
                    best = c;
                    least = won;
                }
            }
        }
        return best;
    }

    public int lend(int town) throws NoSuchElementException {
        needTown(town);
        if (land.rule.odds(land, now, town) < WINNING_ODDS) {
            return NONE;
        }
        trial.take(now);
        int luck = now.cells[State.LUCK + town];
        // A rule may fall where luck rises, so each rest is tried, the least one first.
        for (int rest = 0; rest < luck; rest++) {
            trial.cells[State.LUCK + town] = rest;
            if (land.rule.odds(land, trial, town) >= WINNING_ODDS) {
                return luck - rest;
            }
        }
        return 0;
    }

    public int spoilt() {
        int bits = 0;
        for (int c = 0; c < land.crates; c++) {
            if (now.isMoving(c) && now.grainsThatCome(c) == 0) {
                bits |= 1 << c;
            }
        }
        return bits;
    }

    // ---- the ways

    public int far(int town, int other) throws NoSuchElementException {
        needTown(town);
        needTown(other);
        return land.roads.shortest(town, other);
    }

    public int leak(int town, int other) throws NoSuchElementException {
        needTown(town);
        needTown(other);
        return land.roads.tightest(town, other);
    }

    public int row(int town, int other, int i) throws NoSuchElementException {
        needTown(town);
        needTown(other);
        int found = land.roads.along(town, other, i);
        if (found == NONE) {
            throw new NoSuchElementException("the row has no such town");
        }
        return found;
    }

    public int hub() {
        return land.roads.middle();
    }

    public boolean bridge(int way) throws NoSuchElementException {
        needWay(way);
        return land.roads.parts(way);
    }

    // ---- which crates

    public int sending(int town, int grains) throws NoSuchElementException, IllegalArgumentException {
        needTown(town);
        needWithin(grains, 1, MOST_SENT);
        return Picks.toSend(land, now, town, grains);
    }

    public int thief(int town, int grains) throws NoSuchElementException, IllegalArgumentException {
        needTown(town);
        needWithin(grains, 0, MOST_SENT);
        return Picks.toSteal(land, now, town, grains);
    }

    public int level(int town) throws NoSuchElementException {
        needTown(town);
        return Picks.toLevel(land, now, town);
    }

    public int hold(int town, int i) throws NoSuchElementException {
        needTown(town);
        int bits = now.bitsIn(land.crates, town);
        if (i == NONE) {
            return Picks.leastHarm(now, bits);
        }
        if (i < 0 || i >= Integer.bitCount(bits)) {
            throw new NoSuchElementException("the hold has no such crate");
        }
        return Picks.inHold(now, bits, i);
    }

    // ---- throws

    public int thrower(int grains, int twelfths, int goal, int throwing) throws IllegalArgumentException {
        needWithin(grains, 0, MOST_THROWN);
        needWithin(twelfths, 0, TWELFTHS);
        needWithin(goal, 1, MOST_THROWN);
        needWithin(throwing, 0, MOST_THROWS);
        return Throws.toGoal(grains, twelfths, goal, throwing);
    }

    public int stop(int grains, int twelfths, int throwing, int what)
            throws NoSuchElementException, IllegalArgumentException {
        needWhat(what, 1);
        needWithin(grains, 0, MOST_THROWN);
        needWithin(twelfths, 0, TWELFTHS);
        needWithin(throwing, 1, MOST_THROWS);
        int stopping = grains * Throws.power(throwing);
        int best = Throws.best(grains, twelfths, throwing);
        if (what == 0) {
            return best;
        }
        return best > stopping ? 1 : 0;
    }

    // ---- what is seen

    public int see(int town, int days, int luck) throws NoSuchElementException {
        needTown(town);
        if (seen.held >= MOST_SEEN || days < 0 || days > MOST_DAYS_SEEN || luck < 0 || luck > MOST_LUCK) {
            refused[REFUSED_SEEN]++;
            return NONE;
        }
        seen.add(town, days, luck);
        return seen.held;
    }

    public void forget() {
        seen.clear();
    }

    public int opened(int what) throws NoSuchElementException {
        needWhat(what, 2);
        int last = seen.lastDay();
        couples.layPlain(land, now, last);
        if (what == 2) {
            return couples.plainFits(seen) ? 1 : 0;
        }
        couples.layAll(land, now, seen, last);
        return what == 0 ? couples.held() : couples.first();
    }

    public int next(int what) throws NoSuchElementException {
        needWhat(what, 1);
        couples.layPlain(land, now, MOST_DAYS_SEEN);
        couples.layAll(land, now, seen, MOST_DAYS_SEEN);
        int best = NONE;
        int most = 0;
        for (int day = 0; day <= MOST_DAYS_SEEN; day++) {
            int unlike = couples.unlikeOn(day);
            if (unlike > most) {
                best = day;
                most = unlike;
            }
        }
        return what == 0 ? best : most;
    }

    // ---- games

    public int game(int town, int other, int what) throws NoSuchElementException, IllegalArgumentException {
        needTown(town);
        needTown(other);
        needWhat(what, 1);
        if (town == other) {
            throw new IllegalArgumentException("both towns are one");
        }
        int many = 0;
        int first = NONE;
        for (int mine = 0; mine <= 1; mine++) {
            for (int yours = 0; yours <= 1; yours++) {
                if (rests(town, other, mine, yours) && rests(other, town, yours, mine)) {
                    many++;
                    first = first == NONE ? 10 * mine + yours : first;
                }
            }
        }
        return what == 0 ? many : first;
    }

    public int years(int seed, int n, int what) throws NoSuchElementException, IllegalArgumentException {
        needWhat(what, 2);
        needWithin(n, 0, MOST_DAYS_AHEAD);
        draws.seed = seed;
        trial.take(now);
        for (int i = 0; i < n; i++) {
            if (draws.draw(THEFT_DRAW) == 0 && land.crates > 0) {
                trial.steal(draws.draw(land.crates));
            }
            trial.passDayByDraws(land, draws);
        }
        switch (what) {
            case 0: return trial.sum(State.WON, land.towns);
            case 1: return trial.sum(State.LUCK, land.towns);
            default: return Integer.bitCount(trial.goneBits(land.crates));
        }
    }

    // ---- the image

    public void image() {
        imageState.take(now);
        imageActs.take(acts);
        imageSeen.take(seen);
        imageIs = true;
    }

    public boolean restore() {
        if (!imageIs) {
            return false;
        }
        now.take(imageState);
        acts.take(imageActs);
        seen.take(imageSeen);
        return true;
    }

    // ---- what the calls need

    private void feedNumber(int number) {
        for (int shift = 24; shift >= 0; shift -= 8) {
            if (tapeLength < MOST_BYTES) {
                reader.tape[tapeLength] = (byte) (number >> shift);
                tapeLength++;
            }
        }
    }

    private int refuseAct() {
        refused[REFUSED_ACTS]++;
        return NONE;
    }

    private void needTown(int town) {
        if (town < 0 || town >= land.towns) {
            throw new NoSuchElementException("no such town");
        }
    }

    private void needWay(int way) {
        if (way < 0 || way >= land.roads.ways) {
            throw new NoSuchElementException("no such way");
        }
    }

    private void needCrate(int crate) {
        if (crate < 0 || crate >= land.crates) {
            throw new NoSuchElementException("no such crate");
        }
    }

    private static void needWhat(int what, int last) {
        if (what < 0 || what > last) {
            throw new NoSuchElementException("there is no such thing to ask for");
        }
    }

    private static void needWithin(int number, int least, int most) {
        if (number < least || number > most) {
            throw new IllegalArgumentException("a number is not as told");
        }
    }

    private int wonWithout(int crate) {
        trial.take(now);
        trial.lose(crate);
        for (int c = 0; c < land.crates; c++) {
            if (trial.lies(c)) {
                trial.unpack(c);
            }
        }
        return trial.wonIn(land, MISSED_DAYS);
    }

    /** Whether the town called mine wins no more by its other choice, the other town keeping to its own. */
    private boolean rests(int mine, int yours, int myChoice, int yourChoice) {
        int asChosen = wonInGame(mine, yours, myChoice, yourChoice);
        return asChosen >= wonInGame(mine, yours, 1 - myChoice, yourChoice);
    }

    private int wonInGame(int mine, int yours, int myChoice, int yourChoice) {
        int kept = now.cells[State.LUCK + mine] - myChoice * (now.cells[State.LUCK + mine] / 10);
        int given = yourChoice * (now.cells[State.LUCK + yours] / 10);
        trial.take(now);
        trial.cells[State.LUCK + mine] = Math.min(MOST_LUCK, kept + given);
        for (int i = 0; i < GAME_DAYS; i++) {
            trial.passTown(land, mine);
        }
        return trial.cells[State.WON + mine];
    }

    /** What a TEXT tells once and for all, and the state with which it begins. */
    private static final class Land {
        int towns = 0;
        int crates = 0;
        final int[] makes = new int[MOST_TOWNS];
        final int[] stake = new int[MOST_TOWNS];
        final Roads roads = new Roads();
        final Rule rule = new Rule();
        final State start = new State();

        void clear() {
            towns = 0;
            crates = 0;
            roads.clear();
            rule.clear();
            start.clear();
        }

        void addTown(int luck, int bad, int made, int staked) {
            if (towns < MOST_TOWNS) {
                start.cells[State.LUCK + towns] = luck;
                start.cells[State.BAD + towns] = bad;
                makes[towns] = made;
                stake[towns] = staked;
                towns++;
            }
        }

        void addCrate(int grains, boolean ballast, int place, boolean cat) {
            if (crates < MOST_CRATES) {
                start.cells[State.GRAINS + crates] = grains;
                start.cells[State.BALLAST + crates] = ballast ? 1 : 0;
                start.cells[State.PLACE + crates] = place;
                start.cells[State.CAT + crates] = cat ? 1 : 0;
                crates++;
            }
        }
    }

    /** All that changes from day to day, in one row of cells so that it is copied at one stroke. */
    private static final class State {
        static final int DAY = 0;
        static final int LUCK = 1;
        static final int BAD = LUCK + MOST_TOWNS;
        static final int WON = BAD + MOST_TOWNS;
        static final int GRAINS = WON + MOST_TOWNS;
        static final int BALLAST = GRAINS + MOST_CRATES;
        static final int CAT = BALLAST + MOST_CRATES;
        static final int PLACE = CAT + MOST_CRATES;
        static final int TO_GO = PLACE + MOST_CRATES;
        static final int LOSS = TO_GO + MOST_CRATES;
        static final int SIZE = LOSS + MOST_CRATES;

        final int[] cells = new int[SIZE];

        void clear() {
            for (int i = 0; i < SIZE; i++) {
                cells[i] = 0;
            }
        }

        void take(State other) {
            System.arraycopy(other.cells, 0, cells, 0, SIZE);
        }

        int sum(int from, int towns) {
            int sum = 0;
            for (int t = 0; t < towns; t++) {
                sum += cells[from + t];
            }
            return sum;
        }

        boolean isGone(int crate) {
            return cells[PLACE + crate] == NONE;
        }

        boolean isMoving(int crate) {
            return cells[TO_GO + crate] > 0;
        }

        boolean lies(int crate) {
            return !isGone(crate) && !isMoving(crate);
        }

        int closedBits(int crates) {
            int bits = 0;
            for (int c = 0; c < crates; c++) {
                bits |= lies(c) ? 1 << c : 0;
            }
            return bits;
        }

        int movingBits(int crates) {
            int bits = 0;
            for (int c = 0; c < crates; c++) {
                bits |= isMoving(c) ? 1 << c : 0;
            }
            return bits;
        }

        int goneBits(int crates) {
            int bits = 0;
            for (int c = 0; c < crates; c++) {
                bits |= isGone(c) ? 1 << c : 0;
            }
            return bits;
        }

        int bitsIn(int crates, int town) {
            int bits = 0;
            for (int c = 0; c < crates; c++) {
                bits |= cells[PLACE + c] == town && cells[TO_GO + c] == 0 ? 1 << c : 0;
            }
            return bits;
        }

        int grainsThatCome(int crate) {
            if (cells[CAT + crate] == 1) {
                return cells[GRAINS + crate];
            }
            return Math.max(0, cells[GRAINS + crate] - cells[TO_GO + crate] * cells[LOSS + crate]);
        }

        void addTo(int cell, int grains) {
            cells[cell] = Math.min(MOST_LUCK, cells[cell] + grains);
        }

        /** The crate is empty and gone. */
        void lose(int crate) {
            cells[GRAINS + crate] = 0;
            cells[PLACE + crate] = NONE;
            cells[TO_GO + crate] = 0;
        }

        void steal(int crate) {
            if (lies(crate)) {
                lose(crate);
            }
        }

        /** Opens a crate that lies closed: its grains. */
        int unpack(int crate) {
            int grains = cells[GRAINS + crate];
            addTo((cells[BALLAST + crate] == 1 ? BAD : LUCK) + cells[PLACE + crate], grains);
            lose(crate);
            return grains;
        }

        /** Mixes the other crate into the first one. */
        void pour(int crate, int other) {
            int mine = cells[GRAINS + crate];
            int added = cells[GRAINS + other];
            if (cells[BALLAST + crate] == cells[BALLAST + other]) {
                cells[GRAINS + crate] = Math.min(MOST_GRAINS, mine + added);
            } else {
                cells[GRAINS + crate] = Math.abs(mine - added);
                cells[BALLAST + crate] = cells[added > mine ? BALLAST + other : BALLAST + crate];
            }
            lose(other);
        }

        /** All luck and bad luck is shared alike by all towns. */
        void share(int towns) {
            if (towns <= 0) {
                return;
            }
            int luck = sum(LUCK, towns) / towns;
            int bad = sum(BAD, towns) / towns;
            for (int t = 0; t < towns; t++) {
                cells[LUCK + t] = luck;
                cells[BAD + t] = bad;
            }
        }

        void moveCrates(int crates) {
            for (int c = 0; c < crates; c++) {
                if (cells[TO_GO + c] > 0) {
                    if (cells[CAT + c] == 0) {
                        cells[GRAINS + c] = Math.max(0, cells[GRAINS + c] - cells[LOSS + c]);
                    }
                    cells[TO_GO + c]--;
                }
            }
        }

        void settle(int town, int stake, boolean wins) {
            if (wins) {
                cells[WON + town] += stake;
                cells[LUCK + town] = Math.max(0, cells[LUCK + town] - stake);
            } else {
                cells[WON + town] -= stake;
                addTo(LUCK + town, stake / 2);
            }
            int both = Math.min(cells[LUCK + town], cells[BAD + town]);
            cells[LUCK + town] -= both;
            cells[BAD + town] -= both;
        }

        boolean play(Land land, int town) {
            addTo(LUCK + town, land.makes[town]);
            boolean wins = land.rule.odds(land, this, town) >= WINNING_ODDS;
            settle(town, land.stake[town], wins);
            return wins;
        }

        void passDay(Land land) {
            moveCrates(land.crates);
            for (int t = 0; t < land.towns; t++) {
                play(land, t);
            }
            cells[DAY]++;
        }

        void passDays(Land land, int days) {
            for (int i = 0; i < days; i++) {
                passDay(land);
            }
        }

        /**
         * A day of one town alone, whether it wins: what the others do never reaches it, so the
         * questions about one town need not play them.
         */
        boolean passTown(Land land, int town) {
            moveCrates(land.crates);
            boolean wins = play(land, town);
            cells[DAY]++;
            return wins;
        }

        void passDayByDraws(Land land, Draws draws) {
            moveCrates(land.crates);
            for (int t = 0; t < land.towns; t++) {
                addTo(LUCK + t, land.makes[t]);
                boolean wins = draws.draw(TWELFTHS) < land.rule.odds(land, this, t);
                settle(t, land.stake[t], wins);
            }
            cells[DAY]++;
        }

        int wonIn(Land land, int days) {
            for (int i = 0; i < days; i++) {
                passDay(land);
            }
            return sum(WON, land.towns);
        }
    }

    /** The acts that can be undone: the state ahead of each, in a ring that drops the oldest. */
    private static final class Acts {
        final int[] kept = new int[MOST_ACTS * State.SIZE];
        int oldest = 0;
        int held = 0;

        void clear() {
            oldest = 0;
            held = 0;
        }

        void keep(State state) {
            int slot = (oldest + held) % MOST_ACTS;
            if (held == MOST_ACTS) {
                oldest = (oldest + 1) % MOST_ACTS;
            } else {
                held++;
            }
            System.arraycopy(state.cells, 0, kept, slot * State.SIZE, State.SIZE);
        }

        void takeBack(State state) {
            if (held > 0) {
                held--;
                int slot = (oldest + held) % MOST_ACTS;
                System.arraycopy(kept, slot * State.SIZE, state.cells, 0, State.SIZE);
            }
        }

        void take(Acts other) {
            oldest = other.oldest;
            held = other.held;
            System.arraycopy(other.kept, 0, kept, 0, kept.length);
        }
    }

    /** What was seen: towns, days from now, luck. */
    private static final class Seen {
        final int[] towns = new int[MOST_SEEN];
        final int[] days = new int[MOST_SEEN];
        final int[] lucks = new int[MOST_SEEN];
        int held = 0;

        void clear() {
            held = 0;
        }

        void add(int town, int day, int luck) {
            if (held < MOST_SEEN) {
                towns[held] = town;
                days[held] = day;
                lucks[held] = luck;
                held++;
            }
        }

        int lastDay() {
            int last = 0;
            for (int i = 0; i < held; i++) {
                last = Math.max(last, days[i]);
            }
            return last;
        }

        void take(Seen other) {
            held = other.held;
            System.arraycopy(other.towns, 0, towns, 0, MOST_SEEN);
            System.arraycopy(other.days, 0, days, 0, MOST_SEEN);
            System.arraycopy(other.lucks, 0, lucks, 0, MOST_SEEN);
        }
    }

    /**
     * The openings of one crate on one day, numbered 10 by the crate and the day. An opening
     * changes the luck of one town alone, so for each one only that town's course is kept beside
     * the plain course of all towns.
     */
    private static final class Couples {
        static final int DAYS = 10;
        static final int MOST = MOST_CRATES * DAYS;
        static final int SPAN = MOST_DAYS_SEEN + 1;

        final int[] plain = new int[MOST_TOWNS * SPAN];
        final int[] course = new int[MOST * SPAN];
        final int[] where = new int[MOST_CRATES];
        final boolean[] fits = new boolean[MOST];
        final State before = new State();
        final State behind = new State();

        /** The luck of all towns, 0 to last days from now, if nothing is opened. */
        void layPlain(Land land, State now, int last) {
            before.take(now);
            for (int day = 0; day <= last; day++) {
                for (int t = 0; t < land.towns; t++) {
                    plain[t * SPAN + day] = before.cells[State.LUCK + t];
                }
                before.passDay(land);
            }
        }

        boolean plainFits(Seen seen) {
            for (int i = 0; i < seen.held; i++) {
                if (plain[seen.towns[i] * SPAN + seen.days[i]] != seen.lucks[i]) {
                    return false;
                }
            }
            return true;
        }

        /** Finds the openings by which all that is seen would be so; the plain course is laid already. */
        void layAll(Land land, State now, Seen seen, int last) {
            for (int i = 0; i < MOST; i++) {
                fits[i] = false;
            }
            for (int c = 0; c < land.crates; c++) {
                if (now.lies(c)) {
                    where[c] = now.cells[State.PLACE + c];
                    layCrate(land, now, c, last);
                    for (int i = c * DAYS; i < (c + 1) * DAYS; i++) {
                        fits[i] = courseFits(i, seen);
                    }
                }
            }
        }

        void layCrate(Land land, State now, int crate, int last) {
            int town = where[crate];
            before.take(now);
            for (int open = 0; open < DAYS; open++) {
                int from = (crate * DAYS + open) * SPAN;
                for (int day = 0; day < open && day <= last; day++) {
                    course[from + day] = plain[town * SPAN + day];
                }
                behind.take(before);
                behind.unpack(crate);
                for (int day = open; day <= last; day++) {
                    course[from + day] = behind.cells[State.LUCK + town];
                    behind.passTown(land, town);
                }
                before.passTown(land, town);
            }
        }

        boolean courseFits(int couple, Seen seen) {
            int town = where[couple / DAYS];
            for (int i = 0; i < seen.held; i++) {
                int luck = seen.towns[i] == town ? course[couple * SPAN + seen.days[i]]
                        : plain[seen.towns[i] * SPAN + seen.days[i]];
                if (luck != seen.lucks[i]) {
                    return false;
                }
            }
            return true;
        }

        int held() {
            int many = 0;
            for (int i = 0; i < MOST; i++) {
                many += fits[i] ? 1 : 0;
            }
            return many;
        }

        int first() {
            for (int i = 0; i < MOST; i++) {
                if (fits[i]) {
                    return i;
                }
            }
            return NONE;
        }

        /**
         * How many unlike rows of luck of all towns there would be. Those that keep to the plain
         * course are all alike; those that leave it are alike only in one town and with one luck.
         */
        int unlikeOn(int day) {
            int asPlain = 0;
            int leaving = 0;
            for (int i = 0; i < MOST; i++) {
                if (fits[i]) {
                    if (course[i * SPAN + day] == plain[where[i / DAYS] * SPAN + day]) {
                        asPlain = 1;
                    } else if (isFirstOfItsLike(i, day)) {
                        leaving++;
                    }
                }
            }
            return asPlain + leaving;
        }

        boolean isFirstOfItsLike(int couple, int day) {
            for (int i = 0; i < couple; i++) {
                if (fits[i] && where[i / DAYS] == where[couple / DAYS]
                        && course[i * SPAN + day] == course[couple * SPAN + day]) {
                    return false;
                }
            }
            return true;
        }
    }

    /** The ways, and what is shortest by them. */
    private static final class Roads {
        // Above every sum of days or of leaks, and far below where such sums would wrap.
        static final int UNREACHED = 1000000;

        int ways = 0;
        int towns = 0;
        final int[] one = new int[MOST_WAYS];
        final int[] two = new int[MOST_WAYS];
        final int[] span = new int[MOST_WAYS];
        final int[] loss = new int[MOST_WAYS];
        final int[] days = new int[MOST_TOWNS * MOST_TOWNS];
        final int[] leaks = new int[MOST_TOWNS * MOST_TOWNS];

        void clear() {
            ways = 0;
            towns = 0;
        }

        void add(int first, int second, int spanned, int lost) {
            if (ways < MOST_WAYS) {
                one[ways] = first;
                two[ways] = second;
                span[ways] = spanned;
                loss[ways] = lost;
                ways++;
            }
        }

        boolean joins(int first, int second) {
            return between(first, second) != NONE;
        }

        int between(int first, int second) {
            for (int w = 0; w < ways; w++) {
                if (otherEnd(w, first) == second) {
                    return w;
                }
            }
            return NONE;
        }

        int otherEnd(int way, int town) {
            if (one[way] == town) {
                return two[way];
            }
            return two[way] == town ? one[way] : NONE;
        }

        void measure(int townsTold) {
            towns = townsTold;
            for (int i = 0; i < MOST_TOWNS * MOST_TOWNS; i++) {
                boolean itself = i / MOST_TOWNS == i % MOST_TOWNS;
                days[i] = itself ? 0 : UNREACHED;
                leaks[i] = itself ? 0 : UNREACHED;
            }
            for (int w = 0; w < ways; w++) {
                setBothWays(days, w, span[w]);
                setBothWays(leaks, w, span[w] * loss[w]);
            }
            shorten(days);
            shorten(leaks);
        }

        void setBothWays(int[] lengths, int way, int length) {
            lengths[one[way] * MOST_TOWNS + two[way]] = length;
            lengths[two[way] * MOST_TOWNS + one[way]] = length;
        }

        void shorten(int[] lengths) {
            for (int by = 0; by < towns; by++) {
                for (int from = 0; from < towns; from++) {
                    for (int to = 0; to < towns; to++) {
                        int length = lengths[from * MOST_TOWNS + by] + lengths[by * MOST_TOWNS + to];
                        int cell = from * MOST_TOWNS + to;
                        lengths[cell] = Math.min(lengths[cell], length);
                    }
                }
            }
        }

        int shortest(int from, int to) {
            int length = days[from * MOST_TOWNS + to];
            return length >= UNREACHED ? NONE : length;
        }

        int tightest(int from, int to) {
            int length = leaks[from * MOST_TOWNS + to];
            return length >= UNREACHED ? NONE : length;
        }

        /** The i-th town of the first shortest row; NONE if there is none. */
        int along(int from, int to, int i) {
            if (i < 0 || i >= MOST_TOWNS || shortest(from, to) == NONE) {
                return NONE;
            }
            int at = from;
            for (int step = 0; step < i; step++) {
                at = stepTowards(at, to);
                if (at == NONE) {
                    return NONE;
                }
            }
            return at;
        }

        int stepTowards(int at, int to) {
            if (at == to) {
                return NONE;
            }
            for (int t = 0; t < towns; t++) {
                int way = between(at, t);
                if (way != NONE
                        && span[way] + days[t * MOST_TOWNS + to] == days[at * MOST_TOWNS + to]) {
                    return t;
                }
            }
            return NONE;
        }

        int middle() {
            int best = NONE;
            int least = UNREACHED;
            for (int t = 0; t < towns; t++) {
                int greatest = 0;
                for (int other = 0; other < towns; other++) {
                    greatest = Math.max(greatest, days[t * MOST_TOWNS + other]);
                }
                if (greatest < least) {
                    best = t;
                    least = greatest;
                }
            }
            return best;
        }

        /** Whether the ends of a way have no row of ways without it. */
        boolean parts(int way) {
            int reached = 1 << one[way];
            for (int round = 0; round < towns; round++) {
                for (int w = 0; w < ways; w++) {
                    int ends = 1 << one[w] | 1 << two[w];
                    if (w != way && (reached & ends) != 0) {
                        reached |= ends;
                    }
                }
            }
            return (reached & 1 << two[way]) == 0;
        }
    }

    /** Choices among crates; masks rise, so that of like ones the least as bits is found first. */
    private static final class Picks {
        static int toSend(Land land, State state, int town, int wanted) {
            int best = NONE;
            int fewest = MOST_CRATES + 1;
            int sendable = luckBits(state, state.closedBits(land.crates));
            for (int mask = 0; mask < 1 << land.crates; mask++) {
                int many = Integer.bitCount(mask);
                if ((mask & ~sendable) == 0 && many < fewest
                        && grainsAt(land, state, town, mask) >= wanted) {
                    best = mask;
                    fewest = many;
                }
            }
            return best;
        }

        static int grainsAt(Land land, State state, int town, int mask) {
            int sum = 0;
            for (int c = 0; c < land.crates; c++) {
                if ((mask & 1 << c) != 0) {
                    int lost = land.roads.tightest(state.cells[State.PLACE + c], town);
                    if (lost != NONE) {
                        boolean cat = state.cells[State.CAT + c] == 1;
                        sum += Math.max(0, state.cells[State.GRAINS + c] - (cat ? 0 : lost));
                    }
                }
            }
            return sum;
        }

        static int toSteal(Land land, State state, int town, int carried) {
            int best = 0;
            int most = 0;
            int there = luckBits(state, state.bitsIn(land.crates, town));
            for (int mask = 0; mask < 1 << land.crates; mask++) {
                if ((mask & ~there) == 0) {
                    int sum = grainsOf(state, mask);
                    boolean fewer = Integer.bitCount(mask) < Integer.bitCount(best);
                    if (sum <= carried && (sum > most || sum == most && fewer)) {
                        best = mask;
                        most = sum;
                    }
                }
            }
            return best;
        }

        static int toLevel(Land land, State state, int town) {
            int best = 0;
            int least = differenceWith(state, town, 0);
            int there = state.bitsIn(land.crates, town);
            for (int mask = 0; mask < 1 << land.crates; mask++) {
                if ((mask & ~there) == 0) {
                    int difference = differenceWith(state, town, mask);
                    boolean fewer = Integer.bitCount(mask) < Integer.bitCount(best);
                    if (difference < least || difference == least && fewer) {
                        best = mask;
                        least = difference;
                    }
                }
            }
            return best;
        }

        static int differenceWith(State state, int town, int mask) {
            int ofLuck = luckBits(state, mask);
            int luck = Math.min(MOST_LUCK, state.cells[State.LUCK + town] + grainsOf(state, ofLuck));
            int bad = Math.min(MOST_LUCK, state.cells[State.BAD + town] + grainsOf(state, mask & ~ofLuck));
            return Math.abs(luck - bad);
        }

        static int luckBits(State state, int mask) {
            int bits = 0;
            for (int c = 0; c < MOST_CRATES; c++) {
                if ((mask & 1 << c) != 0 && state.cells[State.BALLAST + c] == 0) {
                    bits |= 1 << c;
                }
            }
            return bits;
        }

        static int grainsOf(State state, int mask) {
            int sum = 0;
            for (int c = 0; c < MOST_CRATES; c++) {
                sum += (mask & 1 << c) != 0 ? state.cells[State.GRAINS + c] : 0;
            }
            return sum;
        }

        static int leastGrains(State state, int mask) {
            int least = MOST_GRAINS;
            for (int c = 0; c < MOST_CRATES; c++) {
                least = (mask & 1 << c) != 0 ? Math.min(least, state.cells[State.GRAINS + c]) : least;
            }
            return least;
        }

        static boolean isMixed(State state, int mask) {
            int ofLuck = luckBits(state, mask);
            return ofLuck != 0 && ofLuck != mask;
        }

        /**
         * With two sorts there is at least one border between them, which harms by the least
         * grains or more; all of one sort, then all of the other, the least one at the border,
         * harms by just that.
         */
        static int leastHarm(State state, int mask) {
            return isMixed(state, mask) ? leastGrains(state, mask) : 0;
        }

        /** The least harm of a row of these crates that follows a given one, its border with it included. */
        static int leastHarmBehind(State state, int crate, int mask) {
            if (mask == 0 || isMixed(state, mask)) {
                return leastHarm(state, mask);
            }
            boolean ofLuck = luckBits(state, mask) != 0;
            boolean alike = ofLuck == (state.cells[State.BALLAST + crate] == 0);
            return alike ? 0 : Math.min(state.cells[State.GRAINS + crate], leastGrains(state, mask));
        }

        static int harmBetween(State state, int crate, int other) {
            boolean alike = state.cells[State.BALLAST + crate] == state.cells[State.BALLAST + other];
            return alike ? 0 : Math.min(state.cells[State.GRAINS + crate], state.cells[State.GRAINS + other]);
        }

        /** The i-th crate of the first row with least harm: each time the least crate that allows it. */
        static int inHold(State state, int mask, int i) {
            int rest = mask;
            int allowed = leastHarm(state, mask);
            int last = NONE;
            for (int step = 0; step <= i; step++) {
                int following = followingInHold(state, rest, last, allowed);
                if (following == NONE) {
                    return NONE;
                }
                allowed -= last == NONE ? 0 : harmBetween(state, last, following);
                rest &= ~(1 << following);
                last = following;
            }
            return last;
        }

        static int followingInHold(State state, int rest, int last, int allowed) {
            for (int c = 0; c < MOST_CRATES; c++) {
                if ((rest & 1 << c) != 0) {
                    int harm = last == NONE ? 0 : harmBetween(state, last, c);
                    if (harm + leastHarmBehind(state, c, rest & ~(1 << c)) <= allowed) {
                        return c;
                    }
                }
            }
            return NONE;
        }
    }

    /** Throws by twelfths; at most MOST_THROWS of them, so that the recursion stays that deep. */
    private static final class Throws {
        static int power(int throwing) {
            int power = 1;
            for (int i = 0; i < throwing; i++) {
                power *= TWELFTHS;
            }
            return power;
        }

        private static int toGoal(int grains, int twelfths, int goal, int throwing) {
            if (grains >= goal) {
                return power(throwing);
            }
            if (grains <= 0 || throwing <= 0) {
                return 0;
            }
            return twelfths * toGoal(grains + 1, twelfths, goal, throwing - 1)
                    + (TWELFTHS - twelfths) * toGoal(grains - 1, twelfths, goal, throwing - 1);
        }

        private static int best(int grains, int twelfths, int throwing) {
            int stopping = grains * power(throwing);
            if (grains <= 0 || throwing <= 0) {
                return stopping;
            }
            int going = twelfths * best(grains + 1, twelfths, throwing - 1)
                    + (TWELFTHS - twelfths) * best(grains - 1, twelfths, throwing - 1);
            return Math.max(stopping, going);
        }
    }

    /** What a seed gives. */
    private static final class Draws {
        int seed = 0;

        int draw(int n) {
            seed = seed * 1103515245 + 12345;
            return n <= 0 ? 0 : (seed >>> 16 & 32767) % n;
        }
    }

    /** The odds of a town, by an expression kept as steps that work on a stack. */
    private static final class Rule {
        // Steps from 0 on are numbers.
        static final int LUCK = -1;
        static final int BAD = -2;
        static final int STAKE = -3;
        static final int MAKES = -4;
        static final int DAY = -5;
        static final int CRATES = -6;
        static final int OR = -7;
        static final int AND = -8;
        static final int NOT = -9;
        static final int LESS = -10;
        static final int SAME = -11;
        static final int PLUS = -12;
        static final int MINUS = -13;
        static final int TIMES = -14;
        static final int OVER = -15;
        static final int NO_STEP = -16;

        // Six expressions one in another, each with five operators that wait for their right side.
        static final int MOST_WAITING = 40;

        final int[] steps = new int[MOST_BYTES];
        final int[] stack = new int[MOST_WAITING];
        int length = 0;
        boolean told = false;
        boolean asksCrates = false;

        void clear() {
            length = 0;
            told = false;
            asksCrates = false;
        }

        void add(int step) {
            if (length < MOST_BYTES) {
                steps[length] = step;
                length++;
                asksCrates = asksCrates || step == CRATES;
            }
        }

        int odds(Land land, State state, int town) {
            int given;
            if (told) {
                int crates = asksCrates ? Integer.bitCount(state.bitsIn(land.crates, town)) : 0;
                given = work(land, state, town, crates);
            } else {
                given = 6 + state.cells[State.LUCK + town] / 10 - state.cells[State.BAD + town] / 10;
            }
            return Math.max(0, Math.min(TWELFTHS, given));
        }

        int work(Land land, State state, int town, int crates) {
            int top = 0;
            for (int i = 0; i < length; i++) {
                int step = steps[i];
                if (step >= CRATES) {
                    if (top < MOST_WAITING) {
                        stack[top] = step >= 0 ? step
                                : step == CRATES ? crates : valueOf(step, land, state, town);
                        top++;
                    }
                } else if (step == NOT) {
                    if (top >= 1) {
                        stack[top - 1] = stack[top - 1] == 0 ? 1 : 0;
                    }
                } else if (top >= 2) {
                    top--;
                    stack[top - 1] = join(step, stack[top - 1], stack[top]);
                }
            }
            return top >= 1 ? stack[top - 1] : 0;
        }

        static int valueOf(int step, Land land, State state, int town) {
            switch (step) {
                case LUCK: return state.cells[State.LUCK + town];
                case BAD: return state.cells[State.BAD + town];
                case STAKE: return land.stake[town];
                case MAKES: return land.makes[town];
                default: return state.cells[State.DAY];
            }
        }

        static int join(int step, int left, int right) {
            switch (step) {
                case OR: return left != 0 || right != 0 ? 1 : 0;
                case AND: return left != 0 && right != 0 ? 1 : 0;
                case LESS: return left < right ? 1 : 0;
                case SAME: return left == right ? 1 : 0;
                case PLUS: return left + right;
                case MINUS: return left - right;
                case TIMES: return left * right;
                default: return right == 0 ? 0 : left / right;
            }
        }
    }

    /**
     * Reads a TEXT into a Land, token by token, up to its end or its first FAULT. The Land is
     * handed over once it is told well, in exchange for the one that it takes the place of.
     */
    private static final class Reader {
        static final int END = 0;
        static final int STRANGE = 1;
        static final int WORD = 2;
        static final int NUMBER = 3;
        static final int SIGN = 4;

        static final int MISPLACED = 1;
        static final int TOO_MUCH = 2;
        static final int UNKNOWN = 3;
        static final int JOINED = 4;
        static final int SECOND_ODDS = 5;

        static final int MOST_DIGITS = 4;
        static final int MOST_DEEP = 6;
        static final int MOST_NOTS = 6;

        final byte[] tape = new byte[MOST_BYTES];
        int textLength = 0;
        int start = 0;
        int end = 0;
        int kind = END;
        int number = 0;
        int value = 0;
        Land land = new Land();
        int fault = 0;
        int place = NONE;

        /** Reads the tape's first bytes. */
        void read(int length) {
            textLength = Math.min(length, MOST_BYTES);
            land.clear();
            end = 0;
            fault = 0;
            place = NONE;
            advance();
            boolean well = true;
            for (int i = 0; i < MOST_BYTES && well && kind != END; i++) {
                well = readLine();
            }
        }

        boolean fail(int why) {
            fault = why;
            place = start;
            return false;
        }

        // -- tokens

        void advance() {
            start = end;
            while (start < textLength && (tape[start] == ' ' || tape[start] == '\n')) {
                start++;
            }
            end = start;
            if (start >= textLength) {
                kind = END;
            } else if (isLetter(tape[start])) {
                kind = WORD;
                while (end < textLength && isLetter(tape[end])) {
                    end++;
                }
            } else if (isDigit(tape[start])) {
                kind = NUMBER;
                number = 0;
                while (end < textLength && isDigit(tape[end])) {
                    number = isTooLong() ? number : number * 10 + (tape[end] - '0');
                    end++;
                }
            } else {
                kind = isSign(tape[start]) ? SIGN : STRANGE;
                end++;
            }
        }

        static boolean isLetter(byte b) {
            return b >= 'a' && b <= 'z';
        }

        static boolean isDigit(byte b) {
            return b >= '0' && b <= '9';
        }

        static boolean isSign(byte b) {
            return b == ';' || b == '(' || b == ')' || b == '+' || b == '-' || b == '*' || b == '/'
                    || b == '<' || b == '=';
        }

        boolean isMark(char sign) {
            return kind == SIGN && tape[start] == sign;
        }

        boolean isWord(String word) {
            if (kind != WORD || end - start != word.length()) {
                return false;
            }
            for (int i = 0; i < word.length(); i++) {
                if (tape[start + i] != word.charAt(i)) {
                    return false;
                }
            }
            return true;
        }

        boolean isTooLong() {
            return end - start > MOST_DIGITS;
        }

        // -- lines

        boolean readLine() {
            boolean well;
            if (isWord("town")) {
                well = readTown();
            } else if (isWord("way")) {
                well = readWay();
            } else if (isWord("crate") || isWord("ballast")) {
                well = readCrate(isWord("ballast"));
            } else if (isWord("odds")) {
                well = readOdds();
            } else {
                well = fail(MISPLACED);
            }
            return well && readSign(';');
        }

        boolean readTown() {
            if (land.towns >= MOST_TOWNS) {
                return fail(TOO_MUCH);
            }
            advance();
            if (!readNumber(0, 999)) {
                return false;
            }
            int luck = value;
            if (!readNumber(0, 999)) {
                return false;
            }
            int bad = value;
            if (!readNumber(0, 20)) {
                return false;
            }
            int makes = value;
            if (!readNumber(0, 20)) {
                return false;
            }
            land.addTown(luck, bad, makes, value);
            return true;
        }

        boolean readWay() {
            if (land.roads.ways >= MOST_WAYS) {
                return fail(TOO_MUCH);
            }
            advance();
            if (!readPlace()) {
                return false;
            }
            int one = value;
            if (isKnownPlace() && (number == one || land.roads.joins(one, number))) {
                return fail(JOINED);
            }
            if (!readPlace()) {
                return false;
            }
            int two = value;
            if (!readNumber(1, 9)) {
                return false;
            }
            int span = value;
            if (!readNumber(0, 9)) {
                return false;
            }
            land.roads.add(one, two, span, value);
            return true;
        }

        boolean readCrate(boolean ballast) {
            if (land.crates >= MOST_CRATES) {
                return fail(TOO_MUCH);
            }
            advance();
            if (!readNumber(0, MOST_GRAINS)) {
                return false;
            }
            int grains = value;
            if (!readPlace()) {
                return false;
            }
            int town = value;
            boolean cat = isWord("cat");
            if (cat) {
                advance();
            }
            land.addCrate(grains, ballast, town, cat);
            return true;
        }

        boolean readOdds() {
            if (land.rule.told) {
                return fail(SECOND_ODDS);
            }
            land.rule.told = true;
            advance();
            return readExpr(0);
        }

        boolean readSign(char sign) {
            if (!isMark(sign)) {
                return fail(MISPLACED);
            }
            advance();
            return true;
        }

        boolean readNumber(int least, int most) {
            if (kind != NUMBER) {
                return fail(MISPLACED);
            }
            if (isTooLong() || number < least || number > most) {
                return fail(TOO_MUCH);
            }
            value = number;
            advance();
            return true;
        }

        boolean isKnownPlace() {
            return kind == NUMBER && !isTooLong() && number < land.towns;
        }

        boolean readPlace() {
            if (isKnownPlace()) {
                value = number;
                advance();
                return true;
            }
            if (kind != NUMBER) {
                return fail(MISPLACED);
            }
            return fail(isTooLong() ? TOO_MUCH : UNKNOWN);
        }

        // -- expressions

        private boolean readExpr(int deep) {
            if (deep >= MOST_DEEP) {
                return fail(kind == NUMBER || kind == WORD || isMark('(') ? TOO_MUCH : MISPLACED);
            }
            if (!readAnd(deep)) {
                return false;
            }
            for (int i = 0; i < MOST_BYTES && isWord("or"); i++) {
                advance();
                if (!readAnd(deep)) {
                    return false;
                }
                land.rule.add(Rule.OR);
            }
            return true;
        }

        private boolean readAnd(int deep) {
            if (!readNot(deep)) {
                return false;
            }
            for (int i = 0; i < MOST_BYTES && isWord("and"); i++) {
                advance();
                if (!readNot(deep)) {
                    return false;
                }
                land.rule.add(Rule.AND);
            }
            return true;
        }

        private boolean readNot(int deep) {
            int nots = 0;
            while (nots < MOST_NOTS && isWord("not")) {
                advance();
                nots++;
            }
            if (nots == MOST_NOTS && isWord("not")) {
                return fail(TOO_MUCH);
            }
            if (!readTest(deep)) {
                return false;
            }
            for (int i = 0; i < nots; i++) {
                land.rule.add(Rule.NOT);
            }
            return true;
        }

        private boolean readTest(int deep) {
            if (!readSum(deep)) {
                return false;
            }
            if (!isMark('<') && !isMark('=')) {
                return true;
            }
            int step = isMark('<') ? Rule.LESS : Rule.SAME;
            advance();
            if (!readSum(deep)) {
                return false;
            }
            land.rule.add(step);
            return true;
        }

        private boolean readSum(int deep) {
            if (!readProduct(deep)) {
                return false;
            }
            for (int i = 0; i < MOST_BYTES && (isMark('+') || isMark('-')); i++) {
                int step = isMark('+') ? Rule.PLUS : Rule.MINUS;
                advance();
                if (!readProduct(deep)) {
                    return false;
                }
                land.rule.add(step);
            }
            return true;
        }

        private boolean readProduct(int deep) {
            if (!readPart(deep)) {
                return false;
            }
            for (int i = 0; i < MOST_BYTES && (isMark('*') || isMark('/')); i++) {
                int step = isMark('*') ? Rule.TIMES : Rule.OVER;
                advance();
                if (!readPart(deep)) {
                    return false;
                }
                land.rule.add(step);
            }
            return true;
        }

        private boolean readPart(int deep) {
            if (isMark('(')) {
                advance();
                return readExpr(deep + 1) && readSign(')');
            }
            if (kind != NUMBER && kind != WORD) {
                return fail(MISPLACED);
            }
            if (kind == NUMBER && isTooLong()) {
                return fail(TOO_MUCH);
            }
            int step = kind == NUMBER ? number : valueStep();
            if (step == Rule.NO_STEP) {
                return fail(UNKNOWN);
            }
            land.rule.add(step);
            advance();
            return true;
        }

        int valueStep() {
            if (isWord("luck")) {
                return Rule.LUCK;
            }
            if (isWord("bad")) {
                return Rule.BAD;
            }
            if (isWord("stake")) {
                return Rule.STAKE;
            }
            if (isWord("makes")) {
                return Rule.MAKES;
            }
            if (isWord("day")) {
                return Rule.DAY;
            }
            return isWord("crates") ? Rule.CRATES : Rule.NO_STEP;
        }
    }
}
