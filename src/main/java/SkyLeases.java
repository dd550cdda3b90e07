import java.util.Arrays;

/** Stars let by the field: squares of the sky in a ring, stars, tenants and their leases. */
public final class SkyLeases {
    public static final int BAD = -1, STATE = -2, FULL = -3, NONE = -9;
    public static final int NO = -1000000;

    private static final int LAST_NIGHT = 99;
    private static final int LAST_DATE = 999;
    private static final int LEAST_SQUARES = 2;
    private static final int MOST_SQUARES = 8;
    private static final int FIRST_SQUARES = 4;
    private static final int MOST_STARS = 8;
    private static final int MOST_PACE = 9;
    private static final int MOST_BRIGHT = 9;
    private static final int MOST_TENANTS = 4;
    private static final int MOST_LEASES = 10;
    private static final int MOST_OFFERS = 8;
    private static final int MOST_SEEN = 8;
    private static final int MOST_KNOWN = 6;
    private static final int MOST_AMOUNT = 99;
    private static final int MOST_BYTES = 300;
    private static final int MOST_TYPED = 8;
    private static final int MOST_ODDS_NIGHTS = 3;
    private static final int IMAGES = 2;
    private static final int FAULT_BASE = -10;

    private final Text text = new Text();
    private final Reader reader = new Reader();
    private Sky told = new Sky();
    private Sky draft = new Sky();
    private final Now now = new Now();
    private final Now firstImage = new Now();
    private final Now secondImage = new Now();
    private final boolean[] kept = new boolean[IMAGES];
    private final Offers offers = new Offers();
    private final Seen seen = new Seen();
    /** What each cloud lets through on each of the next nights, MOST_SQUARES numbers a night. */
    private final int[] rents = new int[MOST_ODDS_NIGHTS * MOST_SQUARES];
    private long traced = 0;

    public SkyLeases() {
        now.lot = 1;
    }

    // ---- the sky

    public int type(long v, int n) {
        if (n < 1 || n > MOST_TYPED) {
            return BAD;
        }
        if (!text.hasRoomFor(n)) {
            return FULL;
        }
        for (int i = n - 1; i >= 0; i--) {
            text.append((int) (v >>> (8 * i)) & 255);
        }
        return text.length;
    }

    public int clear() {
        int had = text.length;
        text.length = 0;
        return had;
    }

    public int sky() {
        int items = reader.read(text, draft);
        if (items < 0) {
            return items;
        }
        Sky old = told;
        told = draft;
        draft = old;
        text.length = 0;
        now.startWith(told);
        offers.terms.size = 0;
        seen.size = 0;
        for (int i = 0; i < IMAGES; i++) {
            kept[i] = false;
        }
        return items;
    }

    public int star(int s, int night) {
        if (!told.hasStar(s) || !isWithin(night, 0, LAST_DATE)) {
            return BAD;
        }
        return told.squareOf(s, night);
    }

    public int lease(int k, int what) {
        if (!now.leases.has(k) || !isWithin(what, 0, Terms.PARTS - 1)) {
            return BAD;
        }
        return now.leases.part(k, what);
    }

    public int whose(int q, int night) {
        if (!told.hasSquare(q) || !isWithin(night, 0, LAST_NIGHT)) {
            return BAD;
        }
        return ownerOf(q, night);
    }

    public int claims(int q, int night) {
        if (!told.hasSquare(q) || !isWithin(night, 0, LAST_NIGHT)) {
            return BAD;
        }
        int many = 0;
        for (int k = 0; k < now.leases.size; k++) {
            if (now.leases.covers(k, q, night, told.squares)) {
                many++;
            }
        }
        return many;
    }

    public int cycle() {
        return told.nightsToRepeat();
    }

    // ---- nights

    public int night() {
        if (now.night >= LAST_NIGHT) {
            return STATE;
        }
        now.lot = now.lot * 1103515245 + 12345;
        int cloud = told.aroundRing(now.lot >>> 16);
        for (int t = 0; t < told.tenants; t++) {
            now.purses[t] += broughtTo(t, now.night, cloud);
        }
        now.night++;
        return cloud;
    }

    public int purse(int t) {
        return told.hasTenant(t) ? now.purses[t] : BAD;
    }

    public int begins(int t, int a, int l, int f, int u) {
        if (!areTerms(t, a, l, f, u)) {
            return BAD;
        }
        if (now.leases.isFull()) {
            return FULL;
        }
        now.leases.add(t, a, l, f, u);
        now.past.noteBegun();
        return now.leases.size - 1;
    }

    public int ends(int k) {
        if (!now.leases.has(k)) {
            return BAD;
        }
        now.past.noteEnded(now.leases, k);
        now.leases.removeAt(k);
        return now.leases.size;
    }

    public int undo() {
        if (now.past.rows.size == 0) {
            return STATE;
        }
        now.past.undoLatest(now.leases);
        return now.leases.size;
    }

    public int lot(int v) {
        int was = now.lot;
        now.lot = v;
        return was;
    }

    // ---- what comes

    public int dark(int t, int a, int b) {
        if (!told.hasTenant(t) || !areNights(a, b)) {
            return BAD;
        }
        int many = 0;
        for (int night = a; night <= b; night++) {
            if (now.leases.anyHolds(t, night) && !hasAnyStar(t, night)) {
                many++;
            }
        }
        return many;
    }

    public int meets(int t, int s, int a) {
        if (!told.hasTenant(t) || !told.hasStar(s) || !isWithin(a, 0, LAST_NIGHT)) {
            return BAD;
        }
        for (int night = a; night <= LAST_NIGHT; night++) {
            if (ownerOf(told.squareOf(s, night), night) == t) {
                return night;
            }
        }
        return NONE;
    }

    public int offer(int t, int a, int l, int f, int u, int price) {
        if (!areTerms(t, a, l, f, u) || !isWithin(price, 1, MOST_AMOUNT)) {
            return BAD;
        }
        if (offers.terms.isFull()) {
            return FULL;
        }
        offers.terms.add(t, a, l, f, u);
        offers.settleLast(price, told.squares);
        return offers.terms.size - 1;
    }

    public int refuse() {
        int were = offers.terms.size;
        offers.terms.size = 0;
        return were;
    }

    public int letting(int a, int b, int what) {
        if (!areNights(a, b) || !isWithin(what, 0, 1)) {
            return BAD;
        }
        int set = offers.bestSet(told, a, b);
        return what == 0 ? offers.priceOf(set) : set;
    }

    public int saw(int s, int q) {
        if (!told.hasStar(s) || !told.hasSquare(q)) {
            return BAD;
        }
        if (seen.isFull()) {
            return FULL;
        }
        seen.add(s, q);
        return seen.size;
    }

    public int forget() {
        int was = seen.size;
        seen.size = 0;
        return was;
    }

    public int dates(int what) {
        if (!isWithin(what, 0, 1)) {
            return BAD;
        }
        int many = 0;
        int first = NONE;
        for (int night = 0; night <= LAST_DATE; night++) {
            if (seen.fits(told, night)) {
                first = many == 0 ? night : first;
                many++;
            }
        }
        return what == 0 ? many : first;
    }

    public int odds(int t, int m, int k, int what) {
        if (!told.hasTenant(t) || !isWithin(m, 1, MOST_ODDS_NIGHTS)
                || !isWithin(k, 0, MOST_AMOUNT) || !isWithin(what, 0, 1)) {
            return BAD;
        }
        int all = 1;
        for (int i = 0; i < m; i++) {
            all *= told.squares;
            for (int cloud = 0; cloud < told.squares; cloud++) {
                rents[i * MOST_SQUARES + cloud] = broughtTo(t, now.night + i, cloud);
            }
        }
        int good = waysToBring(k, m, rents, told.squares);
        int common = Math.max(1, greatestCommon(all, good));
        return (what == 0 ? good : all) / common;
    }

    // ---- kinds, images

    public int rate(int kind, int t) {
        if (!told.hasTenant(t)) {
            return NO;
        }
        switch (kind) {
            case 0: return tenantRate(t);
            case 1: return cobblerRate(t);
            case 2: return widowRate(t);
            case 3: return heirRate(t);
            case 4: return abbessRate(t);
            case 5: return shepherdRate(t);
            default: return NO;
        }
    }

    public int keep(int image) {
        if (!isWithin(image, 0, IMAGES - 1)) {
            return BAD;
        }
        imageOf(image).become(now);
        kept[image] = true;
        return now.night;
    }

    public int back(int image) {
        if (!isWithin(image, 0, IMAGES - 1)) {
            return BAD;
        }
        if (!kept[image]) {
            return STATE;
        }
        now.become(imageOf(image));
        return now.night;
    }

    public int count(int what) {
        switch (what) {
            case 0: return told.squares;
            case 1: return told.stars;
            case 2: return told.tenants;
            case 3: return now.leases.size;
            case 4: return offers.terms.size;
            case 5: return seen.size;
            case 6: return now.night;
            case 7: return now.past.rows.size;
            case 8: return text.length;
            default: return BAD;
        }
    }

    public long trace() {
        return traced;
    }

    // ---- what several calls ask

    private static boolean isWithin(int v, int least, int most) {
        return v >= least && v <= most;
    }

    private static boolean areNights(int first, int last) {
        return isWithin(first, 0, LAST_NIGHT) && isWithin(last, first, LAST_NIGHT);
    }

    private boolean areTerms(int t, int a, int l, int f, int u) {
        return told.hasTenant(t) && told.hasSquare(a) && isWithin(l, 1, told.squares) && areNights(f, u);
    }

    private int ownerOf(int square, int night) {
        for (int k = 0; k < now.leases.size; k++) {
            if (now.leases.covers(k, square, night, told.squares)) {
                return now.leases.part(k, Terms.TENANT);
            }
        }
        return NONE;
    }

    private boolean hasAnyStar(int t, int night) {
        for (int s = 0; s < told.stars; s++) {
            if (ownerOf(told.squareOf(s, night), night) == t) {
                return true;
            }
        }
        return false;
    }

    private int broughtTo(int t, int night, int cloud) {
        int sum = 0;
        for (int s = 0; s < told.stars; s++) {
            int square = told.squareOf(s, night);
            if (square != cloud && ownerOf(square, night) == t) {
                sum += told.brights[s];
            }
        }
        return sum;
    }

    /** How many runs of clouds over the nights that are left bring so much or more. */
    private static int waysToBring(int need, int nightsLeft, int[] rents, int squares) {
        if (nightsLeft < 1 || nightsLeft > MOST_ODDS_NIGHTS) {
            return need <= 0 ? 1 : 0;
        }
        int ways = 0;
        for (int cloud = 0; cloud < squares; cloud++) {
            int rent = rents[(nightsLeft - 1) * MOST_SQUARES + cloud];
            ways += waysToBring(need - rent, nightsLeft - 1, rents, squares);
        }
        return ways;
    }

    private Now imageOf(int image) {
        return image == 0 ? firstImage : secondImage;
    }

    private static int greatestCommon(int a, int b) {
        int big = a;
        int small = b;
        // Two rounds at least halve the number, so 64 are enough for every int.
        for (int round = 0; round < 64 && small != 0; round++) {
            int rest = big % small;
            big = small;
            small = rest;
        }
        return big;
    }

    // ---- the kinds: each asks the one above it once

    private int tenantRate(int t) {
        traced += 1;
        return now.purses[t];
    }

    private int cobblerRate(int t) {
        traced += 10;
        return tenantRate(t) + now.leases.countOf(t);
    }

    private int widowRate(int t) {
        traced += 100;
        int squares = 0;
        for (int q = 0; q < told.squares; q++) {
            if (ownerOf(q, now.night) == t) {
                squares++;
            }
        }
        return tenantRate(t) - squares;
    }

    private int heirRate(int t) {
        traced += 1000;
        return 2 * cobblerRate(t);
    }

    private int abbessRate(int t) {
        traced += 10000;
        return widowRate(t) + t;
    }

    private int shepherdRate(int t) {
        traced += 100000;
        return tenantRate(t) + now.night;
    }

    /** Rows of who has which squares on which nights: leases, offers, and what may be undone. */
    private static final class Terms {
        static final int TENANT = 0;
        static final int SQUARE = 1;
        static final int MANY = 2;
        static final int FROM = 3;
        static final int TO = 4;
        static final int PARTS = 5;

        private final int most;
        private final int[] parts = new int[MOST_LEASES * PARTS];
        int size = 0;

        Terms(int most) {
            this.most = Math.min(most, MOST_LEASES);
        }

        boolean isFull() {
            return size >= most;
        }

        boolean has(int row) {
            return row >= 0 && row < size;
        }

        int part(int row, int what) {
            return has(row) && isWithin(what, 0, PARTS - 1) ? parts[row * PARTS + what] : 0;
        }

        void add(int t, int a, int l, int f, int u) {
            if (isFull()) {
                return;
            }
            int at = size * PARTS;
            parts[at + TENANT] = t;
            parts[at + SQUARE] = a;
            parts[at + MANY] = l;
            parts[at + FROM] = f;
            parts[at + TO] = u;
            size++;
        }

        /** A row of another one's comes in ahead of the row that is at that place. */
        void insertFrom(Terms other, int otherRow, int row) {
            if (isFull() || !other.has(otherRow) || !isWithin(row, 0, size)) {
                return;
            }
            int at = row * PARTS;
            System.arraycopy(parts, at, parts, at + PARTS, (size - row) * PARTS);
            System.arraycopy(other.parts, otherRow * PARTS, parts, at, PARTS);
            size++;
        }

        void removeAt(int row) {
            if (!has(row)) {
                return;
            }
            int at = row * PARTS;
            System.arraycopy(parts, at + PARTS, parts, at, (size - row - 1) * PARTS);
            size--;
        }

        void become(Terms other) {
            System.arraycopy(other.parts, 0, parts, 0, parts.length);
            size = other.size;
        }

        boolean holds(int row, int night) {
            return has(row) && isWithin(night, parts[row * PARTS + FROM], parts[row * PARTS + TO]);
        }

        boolean hasSquare(int row, int square, int squares) {
            if (!has(row)) {
                return false;
            }
            int behindFirst = square - parts[row * PARTS + SQUARE];
            if (behindFirst < 0) {
                behindFirst += squares;
            }
            return behindFirst < parts[row * PARTS + MANY];
        }

        boolean covers(int row, int square, int night, int squares) {
            return holds(row, night) && hasSquare(row, square, squares);
        }

        boolean anyHolds(int t, int night) {
            for (int row = 0; row < size; row++) {
                if (part(row, TENANT) == t && holds(row, night)) {
                    return true;
                }
            }
            return false;
        }

        int countOf(int t) {
            int many = 0;
            for (int row = 0; row < size; row++) {
                if (part(row, TENANT) == t) {
                    many++;
                }
            }
            return many;
        }
    }

    /** What a text tells; nothing but another text changes it. */
    private static final class Sky {
        int squares = FIRST_SQUARES;
        int stars = 0;
        final int[] starts = new int[MOST_STARS];
        final int[] paces = new int[MOST_STARS];
        final int[] brights = new int[MOST_STARS];
        int tenants = 0;
        final int[] purses = new int[MOST_TENANTS];
        final Terms leases = new Terms(MOST_LEASES);

        void empty() {
            squares = FIRST_SQUARES;
            stars = 0;
            tenants = 0;
            leases.size = 0;
        }

        /** An item whose numbers were found to be as told. */
        void take(int word, int[] numbers) {
            if (word == Text.SKY) {
                squares = numbers[0];
            } else if (word == Text.STAR && stars < MOST_STARS) {
                starts[stars] = numbers[0];
                paces[stars] = numbers[1];
                brights[stars] = numbers[2];
                stars++;
            } else if (word == Text.TENANT && tenants < MOST_TENANTS) {
                purses[tenants] = numbers[0];
                tenants++;
            } else if (word == Text.LEASE) {
                leases.add(numbers[0], numbers[1], numbers[2], numbers[3], numbers[4]);
            }
        }

        boolean hasSquare(int q) {
            return q >= 0 && q < squares;
        }

        boolean hasStar(int s) {
            return s >= 0 && s < stars;
        }

        boolean hasTenant(int t) {
            return t >= 0 && t < tenants;
        }

        int aroundRing(int steps) {
            return squares < 1 ? 0 : steps % squares;
        }

        int squareOf(int s, int night) {
            if (!hasStar(s)) {
                return NONE;
            }
            int pace = paces[s];
            return pace < 1 ? starts[s] : aroundRing(starts[s] + night / pace);
        }

        /** The squares in which a star is, a bit each. */
        int squaresWithStars(int night) {
            int bits = 0;
            for (int s = 0; s < stars; s++) {
                bits |= 1 << squareOf(s, night);
            }
            return bits;
        }

        int nightsToRepeat() {
            int nights = 1;
            for (int s = 0; s < stars; s++) {
                int round = paces[s] * squares;
                int common = greatestCommon(nights, round);
                if (round > 0 && common > 0) {
                    nights = nights / common * round;
                }
            }
            return nights;
        }
    }

    /** All that nights and leases change, so that an image can keep it whole. */
    private static final class Now {
        int night = 0;
        int lot = 0;
        final int[] purses = new int[MOST_TENANTS];
        final Terms leases = new Terms(MOST_LEASES);
        final Past past = new Past();

        void startWith(Sky told) {
            night = 0;
            System.arraycopy(told.purses, 0, purses, 0, MOST_TENANTS);
            leases.become(told.leases);
            past.rows.size = 0;
        }

        void become(Now other) {
            night = other.night;
            lot = other.lot;
            System.arraycopy(other.purses, 0, purses, 0, MOST_TENANTS);
            leases.become(other.leases);
            past.become(other.past);
        }
    }

    /** What was begun and ended of late, the latest last. */
    private static final class Past {
        private static final int BEGUN = -1;

        final Terms rows = new Terms(MOST_KNOWN);
        /** BEGUN, or the place that the ended lease of that row had. */
        private final int[] places = new int[MOST_KNOWN];

        void noteBegun() {
            loseOldestIfFull();
            places[rows.size] = BEGUN;
            // A begun lease is the last one when it is undone, so its terms need no keeping.
            rows.add(0, 0, 0, 0, 0);
        }

        void noteEnded(Terms leases, int k) {
            loseOldestIfFull();
            places[rows.size] = k;
            rows.insertFrom(leases, k, rows.size);
        }

        void undoLatest(Terms leases) {
            int latest = rows.size - 1;
            if (!rows.has(latest)) {
                return;
            }
            if (places[latest] == BEGUN) {
                leases.removeAt(leases.size - 1);
            } else {
                leases.insertFrom(rows, latest, places[latest]);
            }
            rows.removeAt(latest);
        }

        void become(Past other) {
            rows.become(other.rows);
            System.arraycopy(other.places, 0, places, 0, MOST_KNOWN);
        }

        private void loseOldestIfFull() {
            if (rows.isFull()) {
                rows.removeAt(0);
                System.arraycopy(places, 1, places, 0, MOST_KNOWN - 1);
            }
        }
    }

    private static final class Seen {
        int size = 0;
        private final int[] stars = new int[MOST_SEEN];
        private final int[] squares = new int[MOST_SEEN];

        boolean isFull() {
            return size >= MOST_SEEN;
        }

        void add(int s, int q) {
            if (isFull()) {
                return;
            }
            stars[size] = s;
            squares[size] = q;
            size++;
        }

        boolean fits(Sky told, int night) {
            for (int i = 0; i < size; i++) {
                if (told.squareOf(stars[i], night) != squares[i]) {
                    return false;
                }
            }
            return true;
        }
    }

    /** Offers, and the search for the set of them that pays most; squares and sets are bits. */
    private static final class Offers {
        final Terms terms = new Terms(MOST_OFFERS);
        private final int[] prices = new int[MOST_OFFERS];
        private final int[] squareBits = new int[MOST_OFFERS];
        /** The earlier offers that can't stand beside this one. */
        private final int[] clashes = new int[MOST_OFFERS];
        private final int[] starBits = new int[LAST_NIGHT + 1];
        private final int[] heldBits = new int[MOST_TENANTS];

        void settleLast(int price, int squares) {
            int last = terms.size - 1;
            if (!terms.has(last)) {
                return;
            }
            prices[last] = price;
            squareBits[last] = 0;
            for (int q = 0; q < squares; q++) {
                if (terms.hasSquare(last, q, squares)) {
                    squareBits[last] |= 1 << q;
                }
            }
            clashes[last] = 0;
            for (int i = 0; i < last; i++) {
                if (shareSquare(i, last)) {
                    clashes[last] |= 1 << i;
                }
            }
        }

        int priceOf(int set) {
            int sum = 0;
            for (int i = 0; i < terms.size; i++) {
                sum += isIn(set, i) ? prices[i] : 0;
            }
            return sum;
        }

        int bestSet(Sky told, int a, int b) {
            for (int night = a; night <= b; night++) {
                starBits[night] = told.squaresWithStars(night);
            }
            int best = 0;
            int bestPrice = 0;
            // Upward, and only a better price counts: so of several the least bits stay.
            for (int set = 1; set < 1 << terms.size; set++) {
                int price = priceOf(set);
                if (price > bestPrice && !clashesWithin(set) && !isDarkWithin(set, a, b)) {
                    best = set;
                    bestPrice = price;
                }
            }
            return best;
        }

        private static boolean isIn(int set, int i) {
            return (set >> i & 1) == 1;
        }

        private boolean shareSquare(int i, int j) {
            return (squareBits[i] & squareBits[j]) != 0
                    && terms.part(i, Terms.FROM) <= terms.part(j, Terms.TO)
                    && terms.part(j, Terms.FROM) <= terms.part(i, Terms.TO);
        }

        private boolean clashesWithin(int set) {
            for (int i = 0; i < terms.size; i++) {
                if (isIn(set, i) && (clashes[i] & set) != 0) {
                    return true;
                }
            }
            return false;
        }

        private boolean isDarkWithin(int set, int a, int b) {
            for (int night = a; night <= b; night++) {
                if (isDarkOn(set, night)) {
                    return true;
                }
            }
            return false;
        }

        private boolean isDarkOn(int set, int night) {
            Arrays.fill(heldBits, 0);
            for (int i = 0; i < terms.size; i++) {
                if (isIn(set, i) && terms.holds(i, night)) {
                    heldBits[terms.part(i, Terms.TENANT)] |= squareBits[i];
                }
            }
            for (int t = 0; t < MOST_TENANTS; t++) {
                if (heldBits[t] != 0 && (heldBits[t] & starBits[night]) == 0) {
                    return true;
                }
            }
            return false;
        }
    }

    /** The bytes of the text, and its tokens one after another. */
    private static final class Text {
        static final int END = 0;
        static final int WRONG = 1;
        static final int NUMBER = 2;
        static final int SEMICOLON = 3;
        static final int SKY = 4;
        static final int STAR = 5;
        static final int TENANT = 6;
        static final int LEASE = 7;

        private final char[] bytes = new char[MOST_BYTES];
        int length = 0;
        /** The token that was read last, the place of its first byte, and its value if it is a number. */
        int token = END;
        int place = 0;
        int number = 0;
        private int next = 0;

        boolean hasRoomFor(int more) {
            return more <= MOST_BYTES - length;
        }

        void append(int value) {
            if (!hasRoomFor(1)) {
                return;
            }
            bytes[length] = (char) value;
            length++;
        }

        void rewind() {
            next = 0;
        }

        void readToken() {
            while (next < length && bytes[next] == ' ') {
                next++;
            }
            place = next;
            if (next >= length) {
                token = END;
            } else if (isDigit(bytes[next])) {
                readNumber();
            } else if (isLetter(bytes[next])) {
                readWord();
            } else {
                token = bytes[next] == ';' ? SEMICOLON : WRONG;
                next++;
            }
        }

        private void readNumber() {
            number = 0;
            while (next < length && isDigit(bytes[next])) {
                // What is beyond 99 stays there, however many digits follow.
                number = Math.min(number * 10 + bytes[next] - '0', MOST_AMOUNT + 1);
                next++;
            }
            boolean zeroAhead = bytes[place] == '0' && next - place > 1;
            token = zeroAhead || number > MOST_AMOUNT ? WRONG : NUMBER;
        }

        private void readWord() {
            while (next < length && isLetter(bytes[next])) {
                next++;
            }
            if (isWord("sky")) {
                token = SKY;
            } else if (isWord("star")) {
                token = STAR;
            } else if (isWord("tenant")) {
                token = TENANT;
            } else {
                token = isWord("lease") ? LEASE : WRONG;
            }
        }

        private boolean isWord(String word) {
            if (next - place != word.length()) {
                return false;
            }
            for (int i = 0; i < word.length(); i++) {
                if (bytes[place + i] != word.charAt(i)) {
                    return false;
                }
            }
            return true;
        }

        private static boolean isDigit(char c) {
            return c >= '0' && c <= '9';
        }

        private static boolean isLetter(char c) {
            return c >= 'a' && c <= 'z';
        }
    }

    /** Reads the items of a text into a sky; it stops at the first token that can't stand there. */
    private static final class Reader {
        private final int[] numbers = new int[Terms.PARTS];

        /** How many items there are; -10 less the place of the fault. */
        int read(Text text, Sky into) {
            into.empty();
            text.rewind();
            for (int items = 0; items <= MOST_BYTES; items++) {
                text.readToken();
                int word = text.token;
                if (word == Text.END) {
                    return items;
                }
                if (!mayStand(word, items, into) || !readNumbers(text, word, into)) {
                    break;
                }
                into.take(word, numbers);
                text.readToken();
                if (text.token != Text.SEMICOLON) {
                    break;
                }
            }
            return FAULT_BASE - text.place;
        }

        private static boolean mayStand(int word, int itemsAhead, Sky into) {
            switch (word) {
                case Text.SKY: return itemsAhead == 0;
                case Text.STAR: return into.stars < MOST_STARS;
                case Text.TENANT: return into.tenants < MOST_TENANTS;
                case Text.LEASE: return !into.leases.isFull();
                default: return false;
            }
        }

        private boolean readNumbers(Text text, int word, Sky into) {
            int many = howMany(word);
            for (int i = 0; i < many; i++) {
                text.readToken();
                if (text.token != Text.NUMBER || !isWithin(text.number, least(word, i), most(word, i, into))) {
                    return false;
                }
                numbers[i] = text.number;
            }
            return true;
        }

        private static int howMany(int word) {
            switch (word) {
                case Text.STAR: return 3;
                case Text.LEASE: return Terms.PARTS;
                default: return 1;
            }
        }

        private int least(int word, int i) {
            if (word == Text.SKY) {
                return LEAST_SQUARES;
            }
            if (word == Text.LEASE && i == Terms.TO) {
                return numbers[Terms.FROM];
            }
            boolean isBright = word == Text.STAR && i == 2;
            boolean isMany = word == Text.LEASE && i == Terms.MANY;
            return isBright || isMany ? 1 : 0;
        }

        private static int most(int word, int i, Sky into) {
            switch (word) {
                case Text.SKY: return MOST_SQUARES;
                case Text.STAR: return i == 0 ? into.squares - 1 : i == 1 ? MOST_PACE : MOST_BRIGHT;
                case Text.LEASE: return mostOfLease(i, into);
                default: return MOST_AMOUNT;
            }
        }

        private static int mostOfLease(int i, Sky into) {
            switch (i) {
                case Terms.TENANT: return into.tenants - 1;
                case Terms.SQUARE: return into.squares - 1;
                case Terms.MANY: return into.squares;
                default: return LAST_NIGHT;
            }
        }
    }
}
