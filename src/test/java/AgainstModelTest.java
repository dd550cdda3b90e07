import java.util.ArrayDeque;
import java.util.ArrayList;
import java.util.Arrays;
import java.util.Deque;
import java.util.List;
import java.util.Random;
import java.util.regex.Matcher;
import java.util.regex.Pattern;

/** Long runs of random calls; each answer is compared with that of a second program, written as plainly as can be. */
public final class AgainstModelTest {
    private static final int BAD = -1, STATE = -2, FULL = -3, NONE = -9, NO = -1000000;
    private static final int RUNS = 3000;
    private static final int CALLS = 512;

    /** Who has which squares on which nights; whole lists of these are kept where something may be undone. */
    private record Terms(int tenant, int first, int many, int from, int to, int price) {
        boolean holds(int night) {
            return from <= night && night <= to;
        }

        boolean covers(int q, int night, int n) {
            if (!holds(night)) {
                return false;
            }
            for (int i = 0; i < many; i++) {
                if ((first + i) % n == q) {
                    return true;
                }
            }
            return false;
        }
    }

    private record Star(int square, int pace, int bright) {
    }

    private record Image(int night, List<Integer> purses, List<Terms> leases, List<List<Terms>> past, long lot) {
    }

    private record Fault(int place) {
    }

    private static final class Model {
        private static final Pattern TOKEN = Pattern.compile("[a-z]+|[0-9]+|;|[^ ]", Pattern.DOTALL);

        String text = "";
        int n = 4;
        List<Star> stars = new ArrayList<>();
        List<Integer> purses = new ArrayList<>();
        List<Terms> leases = new ArrayList<>();
        List<Terms> offers = new ArrayList<>();
        List<int[]> seen = new ArrayList<>();
        Deque<List<Terms>> past = new ArrayDeque<>();
        Image[] images = new Image[2];
        int night = 0;
        long lot = 1;
        long trace = 0;

        long call(int which, int[] a, long v) {
            switch (which) {
                case 0: return type(v, a[0]);
                case 1: return clear();
                case 2: return sky();
                case 3: return ok(a[0], stars.size()) && ok(a[1], 1000) ? place(stars.get(a[0]), a[1]) : BAD;
                case 4: return lease(a[0], a[1]);
                case 5: return ok(a[0], n) && ok(a[1], 100) ? owner(a[0], a[1]) : BAD;
                case 6: return claims(a[0], a[1]);
                case 7: return cycle();
                case 8: return goBy();
                case 9: return ok(a[0], purses.size()) ? purses.get(a[0]) : BAD;
                case 10: return begins(a);
                case 11: return ends(a[0]);
                case 12: return undo();
                case 13: return lot((int) v);
                case 14: return dark(a[0], a[1], a[2]);
                case 15: return meets(a[0], a[1], a[2]);
                case 16: return offer(a);
                case 17: return refuse();
                case 18: return letting(a[0], a[1], a[2]);
                case 19: return saw(a[0], a[1]);
                case 20: return forget();
                case 21: return dates(a[0]);
                case 22: return odds(a[0], a[1], a[2], a[3]);
                case 23: return rate(a[0], a[1]);
                case 24: return keep(a[0]);
                case 25: return back(a[0]);
                case 26: return count(a[0]);
                default: return trace;
            }
        }

        static boolean ok(int v, int end) {
            return 0 <= v && v < end;
        }

        int type(long v, int many) {
            if (many < 1 || many > 8) {
                return BAD;
            }
            if (text.length() + many > 300) {
                return FULL;
            }
            String more = "";
            for (int i = 0; i < many; i++) {
                more = (char) (v & 255) + more;
                v >>= 8;
            }
            text += more;
            return text.length();
        }

        int clear() {
            int had = text.length();
            text = "";
            return had;
        }

        int sky() {
            Model fresh = new Model();
            Object told = fresh.read(text);
            if (told instanceof Fault fault) {
                return -10 - fault.place;
            }
            text = "";
            n = fresh.n;
            stars = fresh.stars;
            purses = fresh.purses;
            leases = fresh.leases;
            offers.clear();
            seen.clear();
            past.clear();
            images = new Image[2];
            night = 0;
            return (Integer) told;
        }

        /** How many items, or the fault; the tokens are cut first, so that an item is a row of them. */
        Object read(String text) {
            List<String> tokens = new ArrayList<>();
            List<Integer> places = new ArrayList<>();
            Matcher m = TOKEN.matcher(text);
            while (m.find()) {
                tokens.add(m.group());
                places.add(m.start());
            }
            tokens.add("");
            places.add(text.length());
            int items = 0;
            int at = 0;
            while (!tokens.get(at).isEmpty()) {
                int wrong = readItem(tokens, at, items);
                if (wrong >= 0) {
                    return new Fault(places.get(wrong));
                }
                at = tokens.subList(at, tokens.size()).indexOf(";") + at + 1;
                items++;
            }
            return items;
        }

        /** Which token is wrong, or -1. */
        int readItem(List<String> tokens, int at, int items) {
            int[][] bounds;
            switch (tokens.get(at)) {
                case "sky": bounds = items > 0 ? null : new int[][] {{2, 8}}; break;
                case "star": bounds = stars.size() == 8 ? null : new int[][] {{0, n - 1}, {0, 9}, {1, 9}}; break;
                case "tenant": bounds = purses.size() == 4 ? null : new int[][] {{0, 99}}; break;
                case "lease": bounds = leases.size() == 10 ? null
                    : new int[][] {{0, purses.size() - 1}, {0, n - 1}, {1, n}, {0, 99}, {0, 99}}; break;
                default: bounds = null;
            }
            if (bounds == null) {
                return at;
            }
            int[] v = new int[5];
            for (int i = 0; i < bounds.length; i++) {
                String token = tokens.get(at + 1 + i);
                if (!token.matches("0|[1-9][0-9]?")) {
                    return at + 1 + i;
                }
                v[i] = Integer.parseInt(token);
                if (v[i] < bounds[i][0] || v[i] > bounds[i][1] || i == 4 && v[4] < v[3]) {
                    return at + 1 + i;
                }
            }
            if (!tokens.get(at + 1 + bounds.length).equals(";")) {
                return at + 1 + bounds.length;
            }
            switch (tokens.get(at)) {
                case "sky": n = v[0]; break;
                case "star": stars.add(new Star(v[0], v[1], v[2])); break;
                case "tenant": purses.add(v[0]); break;
                default: leases.add(new Terms(v[0], v[1], v[2], v[3], v[4], 0));
            }
            return -1;
        }

        int place(Star s, int night) {
            int q = s.square;
            int left = s.pace;
            for (int i = 0; i < night && s.pace > 0; i++) {
                left--;
                if (left == 0) {
                    q = q + 1 == n ? 0 : q + 1;
                    left = s.pace;
                }
            }
            return q;
        }

        int lease(int k, int what) {
            if (!ok(k, leases.size()) || !ok(what, 5)) {
                return BAD;
            }
            Terms l = leases.get(k);
            return List.of(l.tenant, l.first, l.many, l.from, l.to).get(what);
        }

        int owner(int q, int night) {
            return leases.stream().filter(l -> l.covers(q, night, n)).map(Terms::tenant).findFirst().orElse(NONE);
        }

        int claims(int q, int night) {
            return ok(q, n) && ok(night, 100) ? (int) leases.stream().filter(l -> l.covers(q, night, n)).count() : BAD;
        }

        int cycle() {
            int[][] rows = new int[stars.size()][];
            for (int s = 0; s < rows.length; s++) {
                rows[s] = new int[Math.max(1, stars.get(s).pace * n)];
                for (int x = 0; x < rows[s].length; x++) {
                    rows[s][x] = place(stars.get(s), x);
                }
            }
            for (int c = 1;; c++) {
                boolean same = true;
                for (int[] row : rows) {
                    for (int x = 0; x < row.length && same; x++) {
                        same = row[x] == row[(x + c) % row.length];
                    }
                }
                if (same) {
                    return c;
                }
            }
        }

        int brought(int t, int night, int cloud) {
            int sum = 0;
            for (Star s : stars) {
                int q = place(s, night);
                sum += q != cloud && owner(q, night) == t ? s.bright : 0;
            }
            return sum;
        }

        int goBy() {
            if (night == 99) {
                return STATE;
            }
            lot = (lot * 1103515245L + 12345L) & 0xffffffffL;
            int cloud = (int) (lot / 65536 % n);
            for (Star s : stars) {
                int q = place(s, night);
                int t = owner(q, night);
                if (q != cloud && t != NONE) {
                    purses.set(t, purses.get(t) + s.bright);
                }
            }
            night++;
            return cloud;
        }

        boolean areTerms(int[] a) {
            return ok(a[0], purses.size()) && ok(a[1], n) && ok(a[2] - 1, n) && a[2] > 0 && ok(a[3], 100) && ok(a[4], 100)
                && a[3] <= a[4];
        }

        void remember() {
            past.addLast(new ArrayList<>(leases));
            if (past.size() > 6) {
                past.removeFirst();
            }
        }

        int begins(int[] a) {
            if (!areTerms(a)) {
                return BAD;
            }
            if (leases.size() == 10) {
                return FULL;
            }
            remember();
            leases.add(new Terms(a[0], a[1], a[2], a[3], a[4], 0));
            return leases.size() - 1;
        }

        int ends(int k) {
            if (!ok(k, leases.size())) {
                return BAD;
            }
            remember();
            leases.remove(k);
            return leases.size();
        }

        int undo() {
            if (past.isEmpty()) {
                return STATE;
            }
            leases = new ArrayList<>(past.removeLast());
            return leases.size();
        }

        int lot(int v) {
            int was = (int) lot;
            lot = v & 0xffffffffL;
            return was;
        }

        int dark(int t, int a, int b) {
            if (!ok(t, purses.size()) || !ok(a, 100) || !ok(b, 100) || b < a) {
                return BAD;
            }
            int many = 0;
            for (int x = a; x <= b; x++) {
                int now = x;
                boolean has = leases.stream().anyMatch(l -> l.tenant == t && l.holds(now));
                boolean lit = stars.stream().anyMatch(s -> owner(place(s, now), now) == t);
                many += has && !lit ? 1 : 0;
            }
            return many;
        }

        int meets(int t, int s, int a) {
            if (!ok(t, purses.size()) || !ok(s, stars.size()) || !ok(a, 100)) {
                return BAD;
            }
            int x = a;
            while (x < 100 && owner(place(stars.get(s), x), x) != t) {
                x++;
            }
            return x < 100 ? x : NONE;
        }

        int offer(int[] a) {
            if (!areTerms(a) || a[5] < 1 || a[5] > 99) {
                return BAD;
            }
            if (offers.size() == 8) {
                return FULL;
            }
            offers.add(new Terms(a[0], a[1], a[2], a[3], a[4], a[5]));
            return offers.size() - 1;
        }

        int refuse() {
            int were = offers.size();
            offers.clear();
            return were;
        }

        boolean mayBeLet(List<Terms> set, int a, int b) {
            for (int x = 0; x < 100; x++) {
                boolean[] lit = new boolean[4];
                boolean[] holds = new boolean[4];
                int[] has = new int[n];
                for (Terms o : set) {
                    for (int q = 0; q < n; q++) {
                        has[q] += o.covers(q, x, n) ? 1 : 0;
                    }
                    holds[o.tenant] |= o.holds(x);
                    for (Star s : stars) {
                        lit[o.tenant] |= o.covers(places[stars.indexOf(s)][x], x, n);
                    }
                }
                if (Arrays.stream(has).anyMatch(h -> h > 1)) {
                    return false;
                }
                for (int t = 0; t < 4; t++) {
                    if (a <= x && x <= b && holds[t] && !lit[t]) {
                        return false;
                    }
                }
            }
            return true;
        }

        private int[][] places;

        int letting(int a, int b, int what) {
            if (!ok(a, 100) || !ok(b, 100) || b < a || !ok(what, 2)) {
                return BAD;
            }
            places = new int[stars.size()][100];
            for (int s = 0; s < places.length; s++) {
                for (int x = 0; x < 100; x++) {
                    places[s][x] = place(stars.get(s), x);
                }
            }
            int best = -1;
            int bestSet = -1;
            for (int set = (1 << offers.size()) - 1; set >= 0; set--) {
                List<Terms> chosen = new ArrayList<>();
                for (int i = 0; i < offers.size(); i++) {
                    if ((set & 1 << i) != 0) {
                        chosen.add(offers.get(i));
                    }
                }
                int price = chosen.stream().mapToInt(Terms::price).sum();
                if (price >= best && mayBeLet(chosen, a, b)) {
                    best = price;
                    bestSet = set;
                }
            }
            return what == 0 ? best : bestSet;
        }

        int saw(int s, int q) {
            if (!ok(s, stars.size()) || !ok(q, n)) {
                return BAD;
            }
            if (seen.size() == 8) {
                return FULL;
            }
            seen.add(new int[] {s, q});
            return seen.size();
        }

        int forget() {
            int was = seen.size();
            seen.clear();
            return was;
        }

        int dates(int what) {
            if (!ok(what, 2)) {
                return BAD;
            }
            boolean[] fits = new boolean[1000];
            Arrays.fill(fits, true);
            for (int[] look : seen) {
                Star s = stars.get(look[0]);
                int round = Math.max(1, s.pace * n);
                for (int x = 0; x < 1000; x++) {
                    fits[x] &= place(s, x % round) == look[1];
                }
            }
            int many = 0;
            int first = NONE;
            for (int x = 999; x >= 0; x--) {
                many += fits[x] ? 1 : 0;
                first = fits[x] ? x : first;
            }
            return what == 0 ? many : first;
        }

        int odds(int t, int m, int k, int what) {
            if (!ok(t, purses.size()) || m < 1 || m > 3 || k < 0 || k > 99 || !ok(what, 2)) {
                return BAD;
            }
            // How many runs of clouds bring each amount, night by night.
            int[] ways = new int[300];
            ways[0] = 1;
            int all = 1;
            for (int i = 0; i < m; i++) {
                int[] next = new int[300];
                for (int cloud = 0; cloud < n; cloud++) {
                    int more = brought(t, night + i, cloud);
                    for (int sum = 0; sum + more < 300; sum++) {
                        next[sum + more] += ways[sum];
                    }
                }
                ways = next;
                all *= n;
            }
            int good = Arrays.stream(ways, k, 300).sum();
            for (int d = all; d > 1; d--) {
                if (all % d == 0 && good % d == 0) {
                    all /= d;
                    good /= d;
                }
            }
            return what == 0 ? good : all;
        }

        int rate(int kind, int t) {
            if (!ok(kind, 6) || !ok(t, purses.size())) {
                return NO;
            }
            int squares = 0;
            for (int q = 0; q < n; q++) {
                squares += owner(q, night) == t ? 1 : 0;
            }
            int has = (int) leases.stream().filter(l -> l.tenant == t).count();
            int purse = purses.get(t);
            trace += new int[] {1, 11, 101, 1011, 10101, 100001}[kind];
            return new int[] {purse, purse + has, purse - squares, 2 * (purse + has), purse - squares + t,
                purse + night}[kind];
        }

        int keep(int i) {
            if (!ok(i, 2)) {
                return BAD;
            }
            images[i] = new Image(night, List.copyOf(purses), List.copyOf(leases), List.copyOf(past), lot);
            return night;
        }

        int back(int i) {
            if (!ok(i, 2)) {
                return BAD;
            }
            if (images[i] == null) {
                return STATE;
            }
            night = images[i].night;
            purses = new ArrayList<>(images[i].purses);
            leases = new ArrayList<>(images[i].leases);
            past = new ArrayDeque<>(images[i].past);
            lot = images[i].lot;
            return night;
        }

        int count(int what) {
            int[] counts = {n, stars.size(), purses.size(), leases.size(), offers.size(), seen.size(), night,
                past.size(), text.length()};
            return ok(what, counts.length) ? counts[what] : BAD;
        }
    }

    private static final String[] NAMES = {"type", "clear", "sky", "star", "lease", "whose", "claims", "cycle", "night",
        "purse", "begins", "ends", "undo", "lot", "dark", "meets", "offer", "refuse", "letting", "saw", "forget",
        "dates", "odds", "rate", "keep", "back", "count", "trace"};

    private static long call(SkyLeases x, int which, int[] a, long v) {
        switch (which) {
            case 0: return x.type(v, a[0]);
            case 1: return x.clear();
            case 2: return x.sky();
            case 3: return x.star(a[0], a[1]);
            case 4: return x.lease(a[0], a[1]);
            case 5: return x.whose(a[0], a[1]);
            case 6: return x.claims(a[0], a[1]);
            case 7: return x.cycle();
            case 8: return x.night();
            case 9: return x.purse(a[0]);
            case 10: return x.begins(a[0], a[1], a[2], a[3], a[4]);
            case 11: return x.ends(a[0]);
            case 12: return x.undo();
            case 13: return x.lot((int) v);
            case 14: return x.dark(a[0], a[1], a[2]);
            case 15: return x.meets(a[0], a[1], a[2]);
            case 16: return x.offer(a[0], a[1], a[2], a[3], a[4], a[5]);
            case 17: return x.refuse();
            case 18: return x.letting(a[0], a[1], a[2]);
            case 19: return x.saw(a[0], a[1]);
            case 20: return x.forget();
            case 21: return x.dates(a[0]);
            case 22: return x.odds(a[0], a[1], a[2], a[3]);
            case 23: return x.rate(a[0], a[1]);
            case 24: return x.keep(a[0]);
            case 25: return x.back(a[0]);
            case 26: return x.count(a[0]);
            default: return x.trace();
        }
    }

    /** One run: an object, its model, and a source of calls that is the same each time. */
    private static final class Run {
        private final int number;
        private final Random random;
        private final SkyLeases x = new SkyLeases();
        private final Model model = new Model();
        private final List<String> calls = new ArrayList<>();

        Run(int number) {
            this.number = number;
            random = new Random(number);
        }

        boolean isAsDue() {
            if (random.nextInt(10) > 0 && !tell()) {
                return false;
            }
            while (calls.size() < CALLS) {
                int which = random.nextInt(NAMES.length);
                boolean rare = which == 1 || which == 2 || which == 17 || which == 20;
                if (rare && random.nextInt(4) > 0) {
                    continue;
                }
                if (random.nextInt(60) == 0 ? !tell() : !same(which, arguments(which), random.nextLong())) {
                    return false;
                }
            }
            return true;
        }

        private boolean same(int which, int[] a, long v) {
            calls.add(NAMES[which] + Arrays.toString(a) + " " + v);
            long want = model.call(which, a, v);
            long got = call(x, which, a, v);
            if (got != want) {
                System.out.println("run " + number + ", call " + calls.size() + ": " + calls.get(calls.size() - 1)
                    + " answered " + got + ", due is " + want);
            }
            return got == want;
        }

        private int upTo(int end) {
            switch (random.nextInt(40)) {
                case 0: return -1;
                case 1: return end;
                case 2: return random.nextInt();
                default: return random.nextInt(Math.max(1, end));
            }
        }

        private int[] terms(int price) {
            int f = upTo(100);
            int u = random.nextInt(3) == 0 ? upTo(100) : Math.max(f, Math.min(99, f) + random.nextInt(12));
            return new int[] {upTo(model.purses.size()), upTo(model.n), upTo(model.n) + 1, f, u, price};
        }

        private int[] arguments(int which) {
            switch (which) {
                case 0: return new int[] {upTo(9)};
                case 3: return new int[] {upTo(model.stars.size()), upTo(1000)};
                case 4: return new int[] {upTo(model.leases.size()), upTo(5)};
                case 5:
                case 6: return new int[] {upTo(model.n), upTo(100)};
                case 10:
                case 16: return terms(upTo(100));
                case 11: return new int[] {upTo(model.leases.size())};
                case 14: return new int[] {upTo(model.purses.size()), upTo(60), upTo(100)};
                case 15: return new int[] {upTo(model.purses.size()), upTo(model.stars.size()), upTo(100)};
                case 18: return winter();
                case 19: return new int[] {upTo(model.stars.size()), upTo(model.n)};
                case 22: return new int[] {upTo(model.purses.size()), 1 + upTo(3), upTo(40), upTo(2)};
                case 23: return new int[] {upTo(6), upTo(model.purses.size())};
                case 26: return new int[] {upTo(9)};
                case 9: return new int[] {upTo(model.purses.size())};
                default: return new int[] {upTo(2)};
            }
        }

        private int[] winter() {
            int a = upTo(100);
            return new int[] {a, random.nextInt(5) == 0 ? upTo(100) : Math.min(99, a) + random.nextInt(8), upTo(2)};
        }

        /** Types a text that is right but for a byte or two, now and then, and has it read. */
        private boolean tell() {
            StringBuilder text = new StringBuilder();
            int n = 4;
            if (random.nextInt(4) > 0) {
                n = 2 + random.nextInt(7);
                text.append(blanks(0)).append("sky").append(blanks(1)).append(n).append(blanks(0)).append(';');
            }
            int tenants = 0;
            int items = random.nextInt(22);
            for (int i = 0; i < items; i++) {
                int kind = random.nextInt(5);
                if (kind < 2) {
                    item(text, "star", random.nextInt(n), random.nextInt(10), 1 + random.nextInt(9));
                } else if (kind == 2 && (tenants < 4 || random.nextInt(9) == 0)) {
                    item(text, "tenant", random.nextInt(100));
                    tenants++;
                } else if (tenants > 0) {
                    int f = random.nextInt(100);
                    item(text, "lease", random.nextInt(Math.min(4, tenants)), random.nextInt(n), 1 + random.nextInt(n), f,
                        f + random.nextInt(100 - f));
                }
            }
            for (int faults = random.nextInt(4) - 2; faults > 0 && text.length() > 0; faults--) {
                spoil(text);
            }
            if (!same(1, new int[0], 0)) {
                return false;
            }
            for (int at = 0; at < text.length(); ) {
                int end = Math.min(text.length(), at + 1 + random.nextInt(8));
                long v = random.nextLong();
                for (int i = at; i < end; i++) {
                    v = v << 8 | text.charAt(i);
                }
                if (!same(0, new int[] {end - at}, v)) {
                    return false;
                }
                at = end;
            }
            return same(2, new int[0], 0);
        }

        private String blanks(int least) {
            return " ".repeat(random.nextInt(12) == 0 ? least + random.nextInt(3) : least);
        }

        private void item(StringBuilder text, String word, int... numbers) {
            text.append(blanks(0)).append(word);
            for (int number : numbers) {
                text.append(blanks(1)).append(number);
            }
            text.append(blanks(0)).append(';');
        }

        private void spoil(StringBuilder text) {
            int at = random.nextInt(text.length());
            switch (random.nextInt(5)) {
                case 0: text.deleteCharAt(at); break;
                case 1: text.setCharAt(at, (char) random.nextInt(256)); break;
                case 2: text.insert(at, (char) ('0' + random.nextInt(10))); break;
                case 3: text.insert(at, " ;astkz".charAt(random.nextInt(7))); break;
                default: text.setLength(at);
            }
        }
    }

    public static void main(String[] args) {
        int wrong = 0;
        for (int i = 0; i < RUNS && wrong < 20; i++) {
            wrong += new Run(i).isAsDue() ? 0 : 1;
        }
        System.out.println(wrong == 0 ? "all answers are as due" : wrong + " runs are not as due");
        if (wrong > 0) {
            System.exit(1);
        }
    }
}
