import java.util.ArrayDeque;
import java.util.ArrayList;
import java.util.Arrays;
import java.util.Comparator;
import java.util.HashMap;
import java.util.HashSet;
import java.util.List;
import java.util.Map;
import java.util.NoSuchElementException;
import java.util.Set;
import java.util.function.IntConsumer;

/**
 * The document once more, in its plainest form and without a thought of cost: every row of ways,
 * every row of crates, every subset and every throw is tried, every world is played whole. It
 * shares nothing with the class, so that a slip in one of them shows as a difference.
 */
final class Model {
    static final int NONE = -1;

    static final class Fault extends RuntimeException {
        private static final long serialVersionUID = 1L;
        final int code;
        final int place;

        Fault(int code, int place) {
            this.code = code;
            this.place = place;
        }
    }

    interface Expr {
        int of(World w, int town);
    }

    static final class Crate {
        int grains;
        boolean ballast;
        boolean cat;
        int town;
        int toGo;
        int leak;
        boolean gone;

        Crate copy() {
            Crate c = new Crate();
            c.grains = grains;
            c.ballast = ballast;
            c.cat = cat;
            c.town = town;
            c.toGo = toGo;
            c.leak = leak;
            c.gone = gone;
            return c;
        }

        boolean closed() {
            return !gone && toGo == 0;
        }
    }

    /** The land and all that changes in it. */
    static final class World {
        List<int[]> ways = new ArrayList<>();
        List<Integer> makes = new ArrayList<>();
        List<Integer> stake = new ArrayList<>();
        Expr odds = null;
        int day = 0;
        List<Integer> luck = new ArrayList<>();
        List<Integer> bad = new ArrayList<>();
        List<Integer> won = new ArrayList<>();
        List<Crate> crates = new ArrayList<>();

        World copy() {
            World w = new World();
            w.ways = ways;
            w.makes = makes;
            w.stake = stake;
            w.odds = odds;
            w.day = day;
            w.luck = new ArrayList<>(luck);
            w.bad = new ArrayList<>(bad);
            w.won = new ArrayList<>(won);
            for (Crate c : crates) {
                w.crates.add(c.copy());
            }
            return w;
        }

        int towns() {
            return luck.size();
        }

        int odds(int t) {
            int o = odds == null ? 6 + luck.get(t) / 10 - bad.get(t) / 10 : odds.of(this, t);
            return o < 0 ? 0 : o > 12 ? 12 : o;
        }

        boolean wins(int t) {
            return odds(t) >= 7;
        }

        interface Judge {
            boolean wins(World w, int t);
        }

        boolean[] day(Judge judge) {
            for (Crate c : crates) {
                if (!c.gone && c.toGo > 0) {
                    if (!c.cat) {
                        c.grains = c.grains < c.leak ? 0 : c.grains - c.leak;
                    }
                    c.toGo = c.toGo - 1;
                }
            }
            boolean[] who = new boolean[towns()];
            for (int t = 0; t < towns(); t++) {
                luck.set(t, cap(luck.get(t) + makes.get(t)));
                who[t] = judge.wins(this, t);
                if (who[t]) {
                    won.set(t, won.get(t) + stake.get(t));
                    luck.set(t, luck.get(t) < stake.get(t) ? 0 : luck.get(t) - stake.get(t));
                } else {
                    won.set(t, won.get(t) - stake.get(t));
                    luck.set(t, cap(luck.get(t) + stake.get(t) / 2));
                }
                int lesser = luck.get(t) < bad.get(t) ? luck.get(t) : bad.get(t);
                luck.set(t, luck.get(t) - lesser);
                bad.set(t, bad.get(t) - lesser);
            }
            day++;
            return who;
        }

        boolean[] day() {
            return day(World::wins);
        }

        World later(int days) {
            World w = copy();
            for (int i = 0; i < days; i++) {
                w.day();
            }
            return w;
        }

        int allWon() {
            return won.stream().mapToInt(Integer::intValue).sum();
        }

        void open(int c) {
            Crate crate = crates.get(c);
            List<Integer> kind = crate.ballast ? bad : luck;
            kind.set(crate.town, cap(kind.get(crate.town) + crate.grains));
            crate.grains = 0;
            crate.gone = true;
        }

        static int cap(int n) {
            return n > 9999 ? 9999 : n;
        }
    }

    private final List<Integer> tape = new ArrayList<>();
    private World now = new World();
    private ArrayDeque<World> acts = new ArrayDeque<>();
    private List<int[]> seen = new ArrayList<>();
    private World imageWorld = null;
    private ArrayDeque<World> imageActs = null;
    private List<int[]> imageSeen = null;
    private int place = NONE;
    private final int[] status = new int[3];

    // ---- the text

    int feed(int a, int b, int c, int d, int e) {
        if (tape.size() + 20 > 700) {
            return NONE;
        }
        for (int n : new int[] {a, b, c, d, e}) {
            tape.add(n >>> 24);
            tape.add(n >>> 16 & 255);
            tape.add(n >>> 8 & 255);
            tape.add(n & 255);
        }
        return tape.size();
    }

    int province(int n) {
        if (n < 0 || n > tape.size()) {
            throw new IllegalArgumentException();
        }
        StringBuilder text = new StringBuilder();
        for (int i = 0; i < n; i++) {
            text.append((char) (int) tape.get(i));
        }
        tape.clear();
        try {
            now = new TextOf(text.toString()).world();
        } catch (Fault f) {
            place = f.place;
            status[0]++;
            return f.code;
        }
        place = NONE;
        acts.clear();
        seen.clear();
        imageWorld = null;
        return 0;
    }

    int fault() {
        return place;
    }

    /** All tokens are cut first; then each is asked for, by what may stand at its place. */
    static final class TextOf {
        final List<String> tokens = new ArrayList<>();
        final List<Integer> places = new ArrayList<>();
        int at = 0;
        World w = new World();

        TextOf(String text) {
            int i = 0;
            while (i < text.length()) {
                char ch = text.charAt(i);
                if (ch == ' ' || ch == '\n') {
                    i++;
                    continue;
                }
                int end = i + 1;
                if (ch >= 'a' && ch <= 'z') {
                    while (end < text.length() && text.charAt(end) >= 'a' && text.charAt(end) <= 'z') {
                        end++;
                    }
                } else if (ch >= '0' && ch <= '9') {
                    while (end < text.length() && text.charAt(end) >= '0' && text.charAt(end) <= '9') {
                        end++;
                    }
                }
                tokens.add(text.substring(i, end));
                places.add(i);
                i = end;
            }
            tokens.add("");
            places.add(text.length());
        }

        String peek() {
            return tokens.get(at);
        }

        Fault wrong(int code) {
            return new Fault(code, places.get(at));
        }

        boolean isNumber() {
            return peek().matches("[0-9]+");
        }

        boolean isWord() {
            return peek().matches("[a-z]+");
        }

        World world() {
            while (!peek().isEmpty()) {
                String first = peek();
                switch (first) {
                    case "town" -> town();
                    case "way" -> way();
                    case "crate", "ballast" -> crate(first.equals("ballast"));
                    case "odds" -> odds();
                    default -> throw wrong(1);
                }
                sign(";");
            }
            return w;
        }

        void sign(String s) {
            if (!peek().equals(s)) {
                throw wrong(1);
            }
            at++;
        }

        int number(int low, int high) {
            if (!isNumber()) {
                throw wrong(1);
            }
            if (peek().length() > 4) {
                throw wrong(2);
            }
            int n = Integer.parseInt(peek());
            if (n < low || n > high) {
                throw wrong(2);
            }
            at++;
            return n;
        }

        int place(IntConsumer alsoAsks) {
            if (!isNumber()) {
                throw wrong(1);
            }
            if (peek().length() > 4) {
                throw wrong(2);
            }
            int n = Integer.parseInt(peek());
            if (n >= w.towns()) {
                throw wrong(3);
            }
            alsoAsks.accept(n);
            at++;
            return n;
        }

        void town() {
            if (w.towns() == 8) {
                throw wrong(2);
            }
            at++;
            int luck = number(0, 999);
            int bad = number(0, 999);
            int makes = number(0, 20);
            int stake = number(0, 20);
            w.luck.add(luck);
            w.bad.add(bad);
            w.makes.add(makes);
            w.stake.add(stake);
            w.won.add(0);
        }

        void way() {
            if (w.ways.size() == 12) {
                throw wrong(2);
            }
            at++;
            int a = place(n -> { });
            int b = place(n -> {
                boolean has = n == a;
                for (int[] way : w.ways) {
                    has |= way[0] == a && way[1] == n || way[0] == n && way[1] == a;
                }
                if (has) {
                    throw wrong(4);
                }
            });
            int days = number(1, 9);
            int leak = number(0, 9);
            w.ways.add(new int[] {a, b, days, leak});
        }

        void crate(boolean ballast) {
            if (w.crates.size() == 10) {
                throw wrong(2);
            }
            at++;
            Crate c = new Crate();
            c.ballast = ballast;
            c.grains = number(0, 99);
            c.town = place(n -> { });
            if (peek().equals("cat")) {
                c.cat = true;
                at++;
            }
            w.crates.add(c);
        }

        void odds() {
            if (w.odds != null) {
                throw wrong(5);
            }
            at++;
            w.odds = expr(0);
        }

        Expr expr(int others) {
            if (others == 6 && (isNumber() || isWord() || peek().equals("("))) {
                throw wrong(2);
            }
            Expr left = and(others);
            while (peek().equals("or")) {
                at++;
                Expr a = left;
                Expr b = and(others);
                left = (w, t) -> a.of(w, t) != 0 | b.of(w, t) != 0 ? 1 : 0;
            }
            return left;
        }

        Expr and(int others) {
            Expr left = not(others, 0);
            while (peek().equals("and")) {
                at++;
                Expr a = left;
                Expr b = not(others, 0);
                left = (w, t) -> a.of(w, t) != 0 & b.of(w, t) != 0 ? 1 : 0;
            }
            return left;
        }

        Expr not(int others, int ahead) {
            if (peek().equals("not")) {
                if (ahead == 6) {
                    throw wrong(2);
                }
                at++;
                Expr a = not(others, ahead + 1);
                return (w, t) -> a.of(w, t) == 0 ? 1 : 0;
            }
            Expr a = sum(others);
            String test = peek();
            if (!test.equals("<") && !test.equals("=")) {
                return a;
            }
            at++;
            Expr b = sum(others);
            if (test.equals("<")) {
                return (w, t) -> a.of(w, t) < b.of(w, t) ? 1 : 0;
            }
            return (w, t) -> a.of(w, t) == b.of(w, t) ? 1 : 0;
        }

        Expr sum(int others) {
            Expr left = product(others);
            while (peek().equals("+") || peek().equals("-")) {
                boolean plus = peek().equals("+");
                at++;
                Expr a = left;
                Expr b = product(others);
                left = (w, t) -> plus ? a.of(w, t) + b.of(w, t) : a.of(w, t) - b.of(w, t);
            }
            return left;
        }

        Expr product(int others) {
            Expr left = part(others);
            while (peek().equals("*") || peek().equals("/")) {
                boolean times = peek().equals("*");
                at++;
                Expr a = left;
                Expr b = part(others);
                left = (w, t) -> times ? a.of(w, t) * b.of(w, t)
                        : b.of(w, t) == 0 ? 0 : (int) ((long) a.of(w, t) / b.of(w, t));
            }
            return left;
        }

        Expr part(int others) {
            if (peek().equals("(")) {
                at++;
                Expr inside = expr(others + 1);
                sign(")");
                return inside;
            }
            if (isNumber()) {
                if (peek().length() > 4) {
                    throw wrong(2);
                }
                int n = Integer.parseInt(peek());
                at++;
                return (w, t) -> n;
            }
            if (!isWord()) {
                throw wrong(1);
            }
            Expr value = switch (peek()) {
                case "luck" -> (w, t) -> w.luck.get(t);
                case "bad" -> (w, t) -> w.bad.get(t);
                case "stake" -> (w, t) -> w.stake.get(t);
                case "makes" -> (w, t) -> w.makes.get(t);
                case "day" -> (w, t) -> w.day;
                case "crates" -> (w, t) -> {
                    int n = 0;
                    for (Crate c : w.crates) {
                        if (c.closed() && c.town == t) {
                            n++;
                        }
                    }
                    return n;
                };
                default -> throw wrong(3);
            };
            at++;
            return value;
        }
    }

    // ---- what is

    private void town(int t) {
        if (t < 0 || t >= now.towns()) {
            throw new NoSuchElementException();
        }
    }

    private void crate(int c) {
        if (c < 0 || c >= now.crates.size()) {
            throw new NoSuchElementException();
        }
    }

    private void way(int w) {
        if (w < 0 || w >= now.ways.size()) {
            throw new NoSuchElementException();
        }
    }

    private void what(int what, int many) {
        if (what < 0 || what >= many) {
            throw new NoSuchElementException();
        }
    }

    private void within(int n, int low, int high) {
        if (n < low || n > high) {
            throw new IllegalArgumentException();
        }
    }

    private static int sum(List<Integer> list) {
        int sum = 0;
        for (int n : list) {
            sum += n;
        }
        return sum;
    }

    int count(int what) {
        what(what, 16);
        int closed = 0;
        int moving = 0;
        int gone = 0;
        for (int c = 0; c < now.crates.size(); c++) {
            Crate crate = now.crates.get(c);
            if (crate.gone) {
                gone += 1 << c;
            } else if (crate.toGo > 0) {
                moving += 1 << c;
            } else {
                closed += 1 << c;
            }
        }
        int[] all = {now.towns(), now.ways.size(), now.crates.size(), now.day, sum(now.luck), sum(now.bad),
            sum(now.won), closed, moving, gone, acts.size(), seen.size(), tape.size(), status[0], status[1],
            status[2]};
        return all[what];
    }

    private static List<Integer> closedIn(World w, int t) {
        List<Integer> there = new ArrayList<>();
        for (int c = 0; c < w.crates.size(); c++) {
            if (w.crates.get(c).closed() && w.crates.get(c).town == t) {
                there.add(c);
            }
        }
        return there;
    }

    private static int bits(List<Integer> crates) {
        int bits = 0;
        for (int c : crates) {
            bits += 1 << c;
        }
        return bits;
    }

    int town(int t, int what) {
        town(t);
        what(what, 7);
        int[] all = {now.luck.get(t), now.bad.get(t), now.makes.get(t), now.stake.get(t), now.won.get(t),
            now.odds(t), bits(closedIn(now, t))};
        return all[what];
    }

    int crate(int c, int what) {
        crate(c);
        what(what, 5);
        Crate x = now.crates.get(c);
        int[] all = {x.grains, x.ballast ? 1 : 0, x.cat ? 1 : 0, x.gone ? NONE : x.town, x.gone ? 0 : x.toGo};
        return all[what];
    }

    // ---- the acts

    private void keep() {
        acts.addLast(now.copy());
        if (acts.size() > 40) {
            acts.removeFirst();
        }
    }

    private int refuse() {
        status[1]++;
        return NONE;
    }

    int days(int many) {
        if (many < 1 || many > 30 || now.day + many > 999) {
            return refuse();
        }
        keep();
        now = now.later(many);
        return now.day;
    }

    int send(int c, int w) {
        crate(c);
        way(w);
        Crate x = now.crates.get(c);
        int[] way = now.ways.get(w);
        if (!x.closed() || way[0] != x.town && way[1] != x.town) {
            return refuse();
        }
        keep();
        x.town = way[0] == x.town ? way[1] : way[0];
        x.toGo = way[2];
        x.leak = way[3];
        return x.town;
    }

    int open(int c) {
        crate(c);
        Crate x = now.crates.get(c);
        if (!x.closed()) {
            return refuse();
        }
        keep();
        int grains = x.grains;
        now.open(c);
        return grains;
    }

    boolean cat(int c, boolean is) {
        crate(c);
        Crate x = now.crates.get(c);
        if (x.gone || x.cat == is) {
            refuse();
            return false;
        }
        keep();
        x.cat = is;
        return true;
    }

    int mix(int c, int o) {
        crate(c);
        crate(o);
        Crate a = now.crates.get(c);
        Crate b = now.crates.get(o);
        if (c == o || !a.closed() || !b.closed() || a.town != b.town) {
            return refuse();
        }
        keep();
        int luck = (a.ballast ? 0 : a.grains) + (b.ballast ? 0 : b.grains);
        int ballast = (a.ballast ? a.grains : 0) + (b.ballast ? b.grains : 0);
        if (luck != ballast) {
            a.ballast = ballast > luck;
        }
        a.grains = Math.min(99, Math.abs(luck - ballast));
        b.grains = 0;
        b.gone = true;
        return a.grains;
    }

    int undo() {
        if (acts.isEmpty()) {
            return NONE;
        }
        now = acts.removeLast();
        return acts.size();
    }

    // ---- what will be

    int then(int t, int days, int what) {
        town(t);
        what(what, 4);
        within(days, 0, 60);
        World w = now.later(days);
        return new int[] {w.luck.get(t), w.bad.get(t), w.won.get(t), w.odds(t)}[what];
    }

    int even(int t) {
        town(t);
        for (int k = 0; k <= 60; k++) {
            World w = now.later(k);
            if (w.luck.get(t).equals(w.bad.get(t))) {
                return k;
            }
        }
        return NONE;
    }

    int out(int t) {
        town(t);
        World w = now.copy();
        for (int k = 1; k <= 60; k++) {
            if (!w.day()[t]) {
                return k;
            }
        }
        return NONE;
    }

    int luckiest(int days) {
        within(days, 0, 60);
        World w = now.later(days);
        int best = NONE;
        for (int t = w.towns() - 1; t >= 0; t--) {
            if (best == NONE || w.won.get(t) >= w.won.get(best)) {
                best = t;
            }
        }
        return best;
    }

    int streak(int t, int days) {
        town(t);
        within(days, 0, 60);
        World w = now.copy();
        StringBuilder letters = new StringBuilder();
        for (int k = 0; k < days; k++) {
            letters.append(w.day()[t] ? 'w' : ' ');
        }
        int longest = 0;
        for (String run : letters.toString().split(" ")) {
            longest = Math.max(longest, run.length());
        }
        return longest;
    }

    int day(int days, int what) {
        what(what, 2);
        within(days, 1, 60);
        int best = 1;
        for (int k = 2; k <= days; k++) {
            if (gain(k) > gain(best)) {
                best = k;
            }
        }
        return what == 0 ? best : gain(best);
    }

    private int gain(int k) {
        return now.later(k).allWon() - now.later(k - 1).allWon();
    }

    int pooled(int days) {
        within(days, 1, 60);
        if (now.towns() == 0) {
            return 0;
        }
        World w = now.copy();
        int luck = sum(w.luck) / w.towns();
        int bad = sum(w.bad) / w.towns();
        for (int t = 0; t < w.towns(); t++) {
            w.luck.set(t, luck);
            w.bad.set(t, bad);
        }
        return w.later(days).allWon() - now.later(days).allWon();
    }

    int missed() {
        int best = NONE;
        int least = Integer.MAX_VALUE;
        for (int c = 0; c < now.crates.size(); c++) {
            if (!now.crates.get(c).closed()) {
                continue;
            }
            World w = now.copy();
            w.crates.get(c).gone = true;
            for (int o = 0; o < w.crates.size(); o++) {
                if (w.crates.get(o).closed()) {
                    w.open(o);
                }
            }
            int won = w.later(30).allWon();
            if (won < least) {
                least = won;
                best = c;
            }
        }
        return best;
    }

    int lend(int t) {
        town(t);
        if (!now.wins(t)) {
            return NONE;
        }
        int best = NONE;
        for (int g = 0; g <= now.luck.get(t); g++) {
            World w = now.copy();
            w.luck.set(t, now.luck.get(t) - g);
            if (w.wins(t)) {
                best = g;
            }
        }
        return best;
    }

    int spoilt() {
        int bits = 0;
        for (int c = 0; c < now.crates.size(); c++) {
            Crate x = now.crates.get(c);
            if (!x.gone && x.toGo > 0 && now.later(x.toGo).crates.get(c).grains == 0) {
                bits |= 1 << c;
            }
        }
        return bits;
    }

    // ---- the ways

    /** All rows of ways without a town twice, as towns one behind the other. */
    private static List<List<Integer>> rows(World w, int from, int to) {
        List<List<Integer>> found = new ArrayList<>();
        List<Integer> start = new ArrayList<>();
        start.add(from);
        grow(w, start, to, found);
        return found;
    }

    private static void grow(World w, List<Integer> row, int to, List<List<Integer>> found) {
        int last = row.get(row.size() - 1);
        if (last == to) {
            found.add(new ArrayList<>(row));
            return;
        }
        for (int[] way : w.ways) {
            int other = way[0] == last ? way[1] : way[1] == last ? way[0] : NONE;
            if (other != NONE && !row.contains(other)) {
                row.add(other);
                grow(w, row, to, found);
                row.remove(row.size() - 1);
            }
        }
    }

    private static int length(World w, List<Integer> row, boolean leaks) {
        int length = 0;
        for (int i = 1; i < row.size(); i++) {
            for (int[] way : w.ways) {
                int a = row.get(i - 1);
                int b = row.get(i);
                if (way[0] == a && way[1] == b || way[0] == b && way[1] == a) {
                    length += leaks ? way[2] * way[3] : way[2];
                }
            }
        }
        return length;
    }

    private static int least(World w, int a, int b, boolean leaks) {
        return rows(w, a, b).stream().mapToInt(r -> length(w, r, leaks)).min().orElse(NONE);
    }

    int far(int a, int b) {
        town(a);
        town(b);
        return least(now, a, b, false);
    }

    int leak(int a, int b) {
        town(a);
        town(b);
        return least(now, a, b, true);
    }

    int row(int a, int b, int i) {
        town(a);
        town(b);
        List<List<Integer>> rows = rows(now, a, b);
        if (rows.isEmpty()) {
            throw new NoSuchElementException();
        }
        rows.sort(Comparator.<List<Integer>>comparingInt(r -> length(now, r, false))
                .thenComparing(Object::toString));
        if (i < 0 || i >= rows.get(0).size()) {
            throw new NoSuchElementException();
        }
        return rows.get(0).get(i);
    }

    int hub() {
        int best = NONE;
        int least = Integer.MAX_VALUE;
        for (int t = 0; t < now.towns(); t++) {
            int greatest = 0;
            for (int o = 0; o < now.towns(); o++) {
                int far = least(now, t, o, false);
                greatest = Math.max(greatest, far == NONE ? Integer.MAX_VALUE : far);
            }
            if (greatest < least) {
                least = greatest;
                best = t;
            }
        }
        return best;
    }

    boolean bridge(int way) {
        way(way);
        World w = now.copy();
        w.ways = new ArrayList<>(now.ways);
        w.ways.remove(way);
        for (int a = 0; a < now.towns(); a++) {
            for (int b = 0; b < now.towns(); b++) {
                if (least(now, a, b, false) != NONE && least(w, a, b, false) == NONE) {
                    return true;
                }
            }
        }
        return false;
    }

    // ---- which crates

    /** All subsets, the fewest first, then the least as bits. */
    private List<Integer> subsets(List<Integer> of) {
        List<Integer> all = new ArrayList<>();
        for (int m = 0; m < 1 << now.crates.size(); m++) {
            if ((m & ~bits(of)) == 0) {
                all.add(m);
            }
        }
        all.sort(Comparator.<Integer>comparingInt(Integer::bitCount).thenComparingInt(m -> m));
        return all;
    }

    int sending(int t, int grains) {
        town(t);
        within(grains, 1, 999);
        List<Integer> may = new ArrayList<>();
        int[] comes = new int[now.crates.size()];
        for (int c = 0; c < now.crates.size(); c++) {
            Crate x = now.crates.get(c);
            if (x.closed() && !x.ballast && least(now, x.town, t, true) != NONE) {
                may.add(c);
                comes[c] = x.cat ? x.grains : Math.max(0, x.grains - least(now, x.town, t, true));
            }
        }
        for (int m : subsets(may)) {
            int sum = 0;
            for (int c = 0; c < comes.length; c++) {
                sum += (m >> c & 1) * comes[c];
            }
            if (sum >= grains) {
                return m;
            }
        }
        return NONE;
    }

    private int grains(int m, boolean ballast) {
        int sum = 0;
        for (int c = 0; c < now.crates.size(); c++) {
            if ((m >> c & 1) == 1 && now.crates.get(c).ballast == ballast) {
                sum += now.crates.get(c).grains;
            }
        }
        return sum;
    }

    int thief(int t, int grains) {
        town(t);
        within(grains, 0, 999);
        List<Integer> there = closedIn(now, t);
        there.removeIf(c -> now.crates.get(c).ballast);
        int best = 0;
        for (int m : subsets(there)) {
            if (grains(m, false) <= grains && grains(m, false) > grains(best, false)) {
                best = m;
            }
        }
        return best;
    }

    int level(int t) {
        town(t);
        int best = 0;
        int least = Integer.MAX_VALUE;
        for (int m : subsets(closedIn(now, t))) {
            World w = now.copy();
            for (int c = 0; c < w.crates.size(); c++) {
                if ((m >> c & 1) == 1) {
                    w.open(c);
                }
            }
            int difference = Math.abs(w.luck.get(t) - w.bad.get(t));
            if (difference < least) {
                least = difference;
                best = m;
            }
        }
        return best;
    }

    private int harm(int a, int b) {
        Crate x = now.crates.get(a);
        Crate y = now.crates.get(b);
        return x.ballast == y.ballast ? 0 : Math.min(x.grains, y.grains);
    }

    private int leastHarm(int last, List<Integer> rest, Map<String, Integer> known) {
        if (rest.isEmpty()) {
            return 0;
        }
        String key = last + ":" + rest;
        Integer had = known.get(key);
        if (had != null) {
            return had;
        }
        int least = Integer.MAX_VALUE;
        for (Integer c : rest) {
            List<Integer> less = new ArrayList<>(rest);
            less.remove(c);
            least = Math.min(least, (last == NONE ? 0 : harm(last, c)) + leastHarm(c, less, known));
        }
        known.put(key, least);
        return least;
    }

    int hold(int t, int i) {
        town(t);
        List<Integer> rest = closedIn(now, t);
        if (i != NONE && (i < 0 || i >= rest.size())) {
            throw new NoSuchElementException();
        }
        Map<String, Integer> known = new HashMap<>();
        int left = leastHarm(NONE, rest, known);
        if (i == NONE) {
            return left;
        }
        List<Integer> row = new ArrayList<>();
        while (!rest.isEmpty()) {
            int last = row.isEmpty() ? NONE : row.get(row.size() - 1);
            for (Integer c : rest) {
                List<Integer> less = new ArrayList<>(rest);
                less.remove(c);
                int here = last == NONE ? 0 : harm(last, c);
                if (here + leastHarm(c, less, known) == left) {
                    left -= here;
                    row.add(c);
                    rest = less;
                    break;
                }
            }
        }
        return row.get(i);
    }

    // ---- throws

    int thrower(int grains, int twelfths, int goal, int throwing) {
        within(grains, 0, 20);
        within(twelfths, 0, 12);
        within(goal, 1, 20);
        within(throwing, 0, 7);
        long all = 0;
        for (int throwsAs = 0; throwsAs < 1 << throwing; throwsAs++) {
            long likely = 1;
            int has = grains;
            for (int i = 0; i < throwing; i++) {
                boolean wins = (throwsAs >> i & 1) == 1;
                likely *= wins ? twelfths : 12 - twelfths;
                if (has > 0 && has < goal) {
                    has += wins ? 1 : -1;
                }
            }
            all += has >= goal ? likely : 0;
        }
        return (int) all;
    }

    private static double average(int grains, int twelfths, int throwing, boolean mustThrow) {
        if (grains == 0 || throwing == 0) {
            return grains;
        }
        double on = (twelfths * average(grains + 1, twelfths, throwing - 1, false)
                + (12 - twelfths) * average(grains - 1, twelfths, throwing - 1, false)) / 12;
        return mustThrow ? on : Math.max(grains, on);
    }

    int stop(int grains, int twelfths, int throwing, int what) {
        what(what, 2);
        within(grains, 0, 20);
        within(twelfths, 0, 12);
        within(throwing, 1, 7);
        double parts = Math.pow(12, throwing);
        long stopping = Math.round(grains * parts);
        long on = Math.round(average(grains, twelfths, throwing, true) * parts);
        return what == 0 ? (int) Math.max(on, stopping) : on > stopping ? 1 : 0;
    }

    // ---- what is seen

    int see(int t, int days, int luck) {
        town(t);
        if (seen.size() == 8 || days < 0 || days > 30 || luck < 0 || luck > 9999) {
            status[2]++;
            return NONE;
        }
        seen.add(new int[] {t, days, luck});
        return seen.size();
    }

    void forget() {
        seen.clear();
    }

    /** The luck of all towns, day by day, with one crate opened on a day, or none. */
    private List<List<Integer>> course(int crate, int on) {
        List<List<Integer>> days = new ArrayList<>();
        World w = now.copy();
        for (int k = 0; k <= 30; k++) {
            if (crate != NONE && k == on) {
                w.open(crate);
            }
            days.add(new ArrayList<>(w.luck));
            w.day();
        }
        return days;
    }

    private boolean fits(List<List<Integer>> course) {
        for (int[] s : seen) {
            if (course.get(s[1]).get(s[0]) != s[2]) {
                return false;
            }
        }
        return true;
    }

    private List<Integer> couples() {
        List<Integer> all = new ArrayList<>();
        for (int c = 0; c < now.crates.size(); c++) {
            for (int d = 0; d <= 9 && now.crates.get(c).closed(); d++) {
                if (fits(course(c, d))) {
                    all.add(10 * c + d);
                }
            }
        }
        return all;
    }

    int opened(int what) {
        what(what, 3);
        List<Integer> all = couples();
        if (what == 2) {
            return fits(course(NONE, 0)) ? 1 : 0;
        }
        return what == 0 ? all.size() : all.isEmpty() ? NONE : all.get(0);
    }

    int next(int what) {
        what(what, 2);
        List<List<List<Integer>>> courses = new ArrayList<>();
        for (int couple : couples()) {
            courses.add(course(couple / 10, couple % 10));
        }
        if (courses.isEmpty()) {
            return what == 0 ? NONE : 0;
        }
        int best = 0;
        int most = 0;
        for (int k = 0; k <= 30; k++) {
            Set<List<Integer>> unlike = new HashSet<>();
            for (List<List<Integer>> course : courses) {
                unlike.add(course.get(k));
            }
            if (unlike.size() > most) {
                most = unlike.size();
                best = k;
            }
        }
        return what == 0 ? best : most;
    }

    // ---- games

    int game(int a, int b, int what) {
        town(a);
        town(b);
        what(what, 2);
        if (a == b) {
            throw new IllegalArgumentException();
        }
        int[][] gains = new int[4][];
        for (int couple = 0; couple < 4; couple++) {
            World w = now.copy();
            int fromA = couple / 2 * (now.luck.get(a) / 10);
            int fromB = couple % 2 * (now.luck.get(b) / 10);
            w.luck.set(a, World.cap(now.luck.get(a) - fromA + fromB));
            w.luck.set(b, World.cap(now.luck.get(b) - fromB + fromA));
            World then = w.later(10);
            gains[couple] = new int[] {then.won.get(a) - now.won.get(a), then.won.get(b) - now.won.get(b)};
        }
        List<Integer> rest = new ArrayList<>();
        for (int couple = 0; couple < 4; couple++) {
            boolean aStays = gains[couple][0] >= gains[couple ^ 2][0];
            boolean bStays = gains[couple][1] >= gains[couple ^ 1][1];
            if (aStays && bStays) {
                rest.add(10 * (couple / 2) + couple % 2);
            }
        }
        return what == 0 ? rest.size() : rest.isEmpty() ? NONE : rest.get(0);
    }

    int years(int seed, int n, int what) {
        what(what, 3);
        within(n, 0, 60);
        int[] state = {seed};
        World w = now.copy();
        for (int i = 0; i < n; i++) {
            if (draw(state, 9) == 0 && !w.crates.isEmpty()) {
                Crate c = w.crates.get(draw(state, w.crates.size()));
                if (c.closed()) {
                    c.gone = true;
                }
            }
            w.day((v, t) -> draw(state, 12) < v.odds(t));
        }
        int gone = 0;
        for (Crate c : w.crates) {
            gone += c.gone ? 1 : 0;
        }
        return new int[] {w.allWon(), sum(w.luck), gone}[what];
    }

    private static int draw(int[] state, int n) {
        state[0] = state[0] * 1103515245 + 12345;
        String bits = String.format("%32s", Integer.toBinaryString(state[0])).replace(' ', '0');
        return Integer.parseInt(bits.substring(1, 16), 2) % n;
    }

    // ---- the image

    void image() {
        imageWorld = now.copy();
        imageActs = new ArrayDeque<>(acts.stream().map(World::copy).toList());
        imageSeen = new ArrayList<>(seen);
    }

    boolean restore() {
        if (imageWorld == null) {
            return false;
        }
        now = imageWorld.copy();
        acts = new ArrayDeque<>(imageActs.stream().map(World::copy).toList());
        seen = new ArrayList<>(imageSeen);
        return true;
    }

    @Override
    public String toString() {
        return Arrays.toString(status);
    }
}
