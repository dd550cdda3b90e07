import java.util.function.IntUnaryOperator;

/** The sentences of the promises 1 to 29 that name a boundary, one test each. */
public final class CallsTest extends Checks {
    private static final String TOLD = "sky 5;star 4 2 3;star 0 0 9;tenant 7;tenant 8;lease 0 3 4 10 20;lease 1 0 5 15 30;";

    public static void main(String[] args) {
        theSky();
        nights();
        whatComes();
        kindsAndImages();
        end();
    }

    private static SkyLeases fresh() {
        return told(TOLD);
    }

    private static int[] beyond(int least, int most) {
        // The last two are as told if some of their bits are cut off.
        return new int[] {least - 1, most + 1, Integer.MIN_VALUE, Integer.MAX_VALUE, least - 256, most + 65536};
    }

    private static void dueArgument(String call, IntUnaryOperator asked, int least, int most) {
        dueWithin(call, asked, least, most, BAD);
        for (int v : beyond(least, most)) {
            due(call + " of " + v, asked.applyAsInt(v), BAD);
        }
    }

    // ---- the sky

    private static void theSky() {
        says("An object is used for at most 512 calls after it has been made", CallsTest::fiveHundredTwelveCalls);
        says("As told; four SQUARES, no STARS, no TENANTS; THE LOT is 1.", CallsTest::newObject);
        says("The lowest n (1 .. 8) bytes of v, the highest of them first, come to THE TEXT: how many it has. BAD; FULL.",
            CallsTest::typed);
        says("THE TEXT is empty: how many bytes it had.", CallsTest::cleared);
        says("THE TEXT tells all, and is empty then: how many ITEMS.", CallsTest::items);
        says("-10 less FAULT: nothing changes.", CallsTest::faults);
        says("The SQUARE of a STAR on a NIGHT (0 .. 999). BAD.", CallsTest::squareOfAStar);
        says("Of a LEASE: 0 its TENANT, 1 its first SQUARE, 2 how many, 3, 4 its first, last NIGHT. BAD.",
            CallsTest::partsOfALease);
        says("WHOSE a SQUARE is on a NIGHT (0 .. 99). NONE; BAD.", CallsTest::whoseASquareIs);
        says("CLAIMS. BAD.", CallsTest::claimsOfASquare);
        says("`int cycle()`: CYCLE.", CallsTest::cycleOfStars);
    }

    private static void fiveHundredTwelveCalls() {
        SkyLeases x = new SkyLeases();
        int calls = (TOLD.length() + 7) / 8 + 1;
        // The text is typed by hand, so that every call is counted.
        for (int at = 0; at < TOLD.length(); at += 8) {
            long v = 0;
            int end = Math.min(TOLD.length(), at + 8);
            for (int i = at; i < end; i++) {
                v = v << 8 | TOLD.charAt(i);
            }
            x.type(v, end - at);
        }
        due("sky()", x.sky(), 7);
        for (int i = 0; i < 8; i++, calls += 2) {
            due("offer", x.offer(i % 2, i % 5, 1, i, 99, 1 + i), i);
            due("saw", x.saw(0, 4), i + 1);
        }
        for (int i = 0; calls < 509; i++, calls += 2) {
            due("begins() of call " + calls, x.begins(0, i % 5, 1, i % 100, 99), 2);
            due("ends() of call " + calls, x.ends(2), 2);
        }
        for (; calls < 511; calls++) {
            due("dates(0) of call " + calls, x.dates(0), 200);
        }
        due("call 512", x.undo(), 3);
    }

    private static void newObject() {
        SkyLeases x = new SkyLeases();
        int[] counts = {4, 0, 0, 0, 0, 0, 0, 0, 0};
        for (int what = 0; what < counts.length; what++) {
            due("count(" + what + ")", x.count(what), counts[what]);
        }
        due("trace()", x.trace(), 0);
        due("star(0, 0)", x.star(0, 0), BAD);
        due("purse(0)", x.purse(0), BAD);
        due("lease(0, 0)", x.lease(0, 0), BAD);
        due("ends(0)", x.ends(0), BAD);
        due("begins", x.begins(0, 0, 1, 0, 0), BAD);
        due("offer", x.offer(0, 0, 1, 0, 0, 1), BAD);
        due("saw", x.saw(0, 0), BAD);
        due("dark", x.dark(0, 0, 0), BAD);
        due("meets", x.meets(0, 0, 0), BAD);
        due("odds", x.odds(0, 1, 0, 0), BAD);
        due("rate", x.rate(0, 0), NO);
        due("undo", x.undo(), STATE);
        due("back(0)", x.back(0), STATE);
        due("back(1)", x.back(1), STATE);
        due("cycle()", x.cycle(), 1);
        due("whose(3, 99)", x.whose(3, 99), NONE);
        due("whose(4, 0)", x.whose(4, 0), BAD);
        due("claims(3, 99)", x.claims(3, 99), 0);
        due("letting", x.letting(0, 99, 0), 0);
        due("dates(0)", x.dates(0), 1000);
        due("dates(1)", x.dates(1), 0);
        due("clear()", x.clear(), 0);
        due("refuse()", x.refuse(), 0);
        due("forget()", x.forget(), 0);
        due("sky()", x.sky(), 0);
        due("keep(0)", x.keep(0), 0);
        due("the lot", x.lot(1), 1);
        due("the cloud of 16838", x.night(), 2);
    }

    private static void typed() {
        dueWithin("type(0, n)", n -> new SkyLeases().type(0, n), 1, 8, BAD);
        String eight = "tenant 7";
        long v = 0x74656e616e742037L;
        for (int n = 1; n <= 8; n++) {
            SkyLeases x = new SkyLeases();
            // The lowest n bytes end the text; those ahead of them are typed one by one, below other bits.
            for (int i = 0; i < 8 - n; i++) {
                due("one byte", x.type(0x123456789abcde00L | eight.charAt(i), 1), i + 1);
            }
            due("n bytes", x.type(v, n), 8);
            due("the end of it", x.type(-1L << 8 | ';', 1), 9);
            due("sky()", x.sky(), 1);
            due("purse(0)", x.purse(0), 7);
        }
        for (int ahead = 292; ahead <= 300; ahead++) {
            for (int n = 1; n <= 8; n++) {
                SkyLeases x = new SkyLeases();
                typeAll(x, " ".repeat(ahead));
                due(n + " bytes behind " + ahead, x.type(0x2020202020202020L, n), ahead + n > 300 ? FULL : ahead + n);
                due("count(8)", x.count(8), ahead + n > 300 ? ahead : ahead + n);
            }
        }
    }

    private static void cleared() {
        SkyLeases x = new SkyLeases();
        due("none", x.clear(), 0);
        x.type('s', 1);
        due("one", x.clear(), 1);
        due("none any more", x.clear(), 0);
        typeAll(x, " ".repeat(300));
        due("all 300", x.clear(), 300);
        due("count(8)", x.count(8), 0);
        due("the first byte anew", x.type('4', 1), 1);
        due("no byte of the text ahead is read", x.sky(), -10);
        due("a fault leaves it", x.clear(), 1);
        due("sky() of none", x.sky(), 0);
    }

    private static void items() {
        dueItems("", 0);
        dueItems("   ", 0);
        dueItems("sky 2;", 1);
        String most = "sky 8;" + "star 0 0 1;".repeat(8) + "tenant 0;".repeat(4) + "lease 0 0 1 0 0;".repeat(10);
        dueItems(most, 23);
        dueItems(most + " ".repeat(300 - most.length()), 23);
        SkyLeases x = fresh();
        due("it is empty then", x.count(8), 0);
        due("an empty text tells an empty sky", x.sky(), 0);
        due("squares", x.count(0), 4);
        due("stars", x.count(1), 0);
        due("tenants", x.count(2), 0);
        due("leases", x.count(3), 0);
    }

    private static void faults() {
        dueFault("4", 0);
        dueFault(" 4", 1);
        dueFault(" ".repeat(299) + "4", 299);
        dueFault(" ".repeat(297) + "sky", 300);
        SkyLeases x = fresh();
        x.night();
        typeAll(x, "sky 2;star 1 1 1;tenant 50;lease 0 0 1 0 0;sky");
        due("a fault behind right items", x.sky(), -10 - 43);
        due("the text stays", x.count(8), 46);
        due("and is read again", x.sky(), -10 - 43);
        int[] counts = {5, 2, 2, 2, 0, 0, 1};
        for (int what = 0; what < counts.length; what++) {
            due("count(" + what + ")", x.count(what), counts[what]);
        }
        due("star(0, 1)", x.star(0, 1), 4);
        due("lease(0, 1)", x.lease(0, 1), 3);
        due("clear", x.clear(), 46);
        typeAll(x, "tenant 1");
        due("too early", x.sky(), -18);
        typeAll(x, "2;");
        due("its end came later", x.sky(), 1);
        due("purse(0)", x.purse(0), 12);
    }

    private static void squareOfAStar() {
        SkyLeases x = fresh();
        dueArgument("star(s, 0)", s -> x.star(s, 0), 0, 1);
        dueArgument("star(0, night)", night -> x.star(0, night), 0, 999);
        due("night 0", x.star(0, 0), 4);
        due("night 1", x.star(0, 1), 4);
        due("night 2", x.star(0, 2), 0);
        due("night 999", x.star(0, 999), (4 + 499) % 5);
        due("no stars", told("sky 5;").star(0, 0), BAD);
    }

    private static void partsOfALease() {
        SkyLeases x = fresh();
        dueArgument("lease(k, 0)", k -> x.lease(k, 0), 0, 1);
        dueArgument("lease(0, what)", what -> x.lease(0, what), 0, 4);
        int[] parts = {0, 3, 4, 10, 20};
        int[] others = {1, 0, 5, 15, 30};
        for (int what = 0; what < 5; what++) {
            due("lease(0, " + what + ")", x.lease(0, what), parts[what]);
            due("lease(1, " + what + ")", x.lease(1, what), others[what]);
        }
        x.ends(0);
        due("of one that came nearer", x.lease(0, 4), 30);
        due("of one that is no more", x.lease(1, 4), BAD);
        x.ends(0);
        due("of none", x.lease(0, 0), BAD);
    }

    private static void whoseASquareIs() {
        SkyLeases x = fresh();
        dueArgument("whose(q, 0)", q -> x.whose(q, 0), 0, 4);
        dueArgument("whose(0, night)", night -> x.whose(0, night), 0, 99);
        due("nobody's", x.whose(3, 9), NONE);
        due("tenant 0's", x.whose(3, 10), 0);
        due("round", x.whose(1, 10), 0);
        due("not round so far", x.whose(2, 10), NONE);
        due("tenant 1's", x.whose(2, 15), 1);
        due("nobody's any more", x.whose(2, 31), NONE);
    }

    private static void claimsOfASquare() {
        SkyLeases x = fresh();
        dueArgument("claims(q, 0)", q -> x.claims(q, 0), 0, 4);
        dueArgument("claims(0, night)", night -> x.claims(0, night), 0, 99);
        due("none", x.claims(3, 9), 0);
        due("one", x.claims(2, 15), 1);
        due("two", x.claims(1, 20), 2);
        due("one again", x.claims(1, 21), 1);
        due("none again", x.claims(1, 31), 0);
    }

    private static void cycleOfStars() {
        due("a new object's", new SkyLeases().cycle(), 1);
        due("pace 2 by 5 squares", fresh().cycle(), 10);
        SkyLeases x = told("sky 3;star 0 4 1;star 1 6 1;star 2 0 1;");
        int cycle = x.cycle();
        due("12 and 18", cycle, 36);
        for (int fewer = 1; fewer <= cycle; fewer++) {
            boolean same = true;
            for (int night = 0; night < 40; night++) {
                same &= x.star(0, night) == x.star(0, night + fewer) && x.star(1, night) == x.star(1, night + fewer);
            }
            due("all is as ahead after " + fewer, same ? 1 : 0, fewer == cycle ? 1 : 0);
        }
    }

    // ---- nights

    private static void nights() {
        says("A NIGHT goes by: the SQUARE of the CLOUD. STATE: it is NIGHT 99.", CallsTest::nightsGoBy);
        says("PURSE of a TENANT. BAD.", () -> {
            SkyLeases x = fresh();
            dueArgument("purse(t)", x::purse, 0, 1);
            due("purse(0)", x.purse(0), 7);
            due("purse(1)", x.purse(1), 8);
        });
        says("A LEASE begins: its number. BAD; FULL.", CallsTest::leasesBegin);
        says("A LEASE ENDS: how many are left. BAD.", CallsTest::leasesEnd);
        says("UNDONE: how many LEASES there are. STATE: nothing is known that can be.", CallsTest::undone);
        says("THE LOT becomes v: what it was.", () -> {
            SkyLeases x = new SkyLeases();
            int was = 1;
            for (int v : new int[] {Integer.MIN_VALUE, Integer.MAX_VALUE, -1, 0, 1, 65536}) {
                due("lot(" + v + ")", x.lot(v), was);
                was = v;
            }
            due("a night is not gone by", x.count(6), 0);
        });
    }

    private static void nightsGoBy() {
        SkyLeases x = new SkyLeases();
        int lot = 1;
        for (int i = 0; i < 99; i++) {
            lot = lot * 1103515245 + 12345;
            due("night() " + i, x.night(), (lot >>> 16) % 4);
        }
        due("night() on 99", x.night(), STATE);
        due("night() on 99 again", x.night(), STATE);
        due("the lot stays", x.lot(5), lot);
        due("night 99", x.count(6), 99);
    }

    private static void leasesBegin() {
        dueArgument("begins: t", v -> fresh().begins(v, 0, 1, 0, 0), 0, 1);
        dueArgument("begins: a", v -> fresh().begins(0, v, 1, 0, 0), 0, 4);
        dueArgument("begins: l", v -> fresh().begins(0, 0, v, 0, 0), 1, 5);
        dueArgument("begins: f", v -> fresh().begins(0, 0, 1, v, 99), 0, 99);
        dueArgument("begins: u", v -> fresh().begins(0, 0, 1, 0, v), 0, 99);
        dueArgument("begins: f up to u", v -> fresh().begins(0, 0, 1, v, 50), 0, 50);
        dueArgument("begins: u from f on", v -> fresh().begins(0, 0, 1, 50, v), 50, 99);
        SkyLeases x = fresh();
        for (int k = 2; k < 10; k++) {
            due("begins", x.begins(1, 4, 5, 0, 99), k);
        }
        due("an eleventh", x.begins(1, 4, 5, 0, 99), FULL);
        x.ends(9);
        due("a tenth anew", x.begins(1, 4, 5, 0, 99), 9);
    }

    private static void leasesEnd() {
        dueArgument("ends(k)", k -> fresh().ends(k), 0, 1);
        SkyLeases x = fresh();
        for (int k = 2; k < 10; k++) {
            x.begins(0, 0, 1, 0, 0);
        }
        due("no eleventh", x.ends(10), BAD);
        for (int left = 9; left >= 0; left--) {
            due("ends", x.ends(left), left);
        }
        due("none is left", x.ends(0), BAD);
    }

    private static void undone() {
        SkyLeases x = fresh();
        due("nothing is known", x.undo(), STATE);
        x.begins(0, 0, 1, 0, 0);
        due("a begun one", x.undo(), 2);
        due("it is not known any more", x.undo(), STATE);
        x.ends(0);
        x.ends(0);
        due("an ended one", x.undo(), 1);
        due("another ended one", x.undo(), 2);
        due("no third", x.undo(), STATE);
        x.begins(5, 0, 1, 0, 0);
        x.ends(7);
        due("refused ones are none", x.undo(), STATE);
    }

    // ---- what comes

    private static void whatComes() {
        says("DARK NIGHTS: how many (0 .. 99, b no less than a). BAD.", CallsTest::darkNights);
        says("MEETS; NONE. BAD (a 0 .. 99).", CallsTest::meetings);
        says("An OFFER: its number. BAD (price 1 .. 99); FULL.", CallsTest::offers);
        says("No OFFERS: how many there were.", CallsTest::offersRefused);
        says("LETTING: the PRICES (what = 0), the set (1). BAD.", CallsTest::lettings);
        says("SEEN: how much there is. BAD; FULL.", CallsTest::seen);
        says("Nothing was SEEN: how much there was.", CallsTest::forgotten);
        says("DATES: how many (what = 0), the first (1; NONE). BAD.", CallsTest::dates);
        says("ODDS: upper (what = 0), lower number (1), in least terms. BAD.", CallsTest::odds);
    }

    private static void darkNights() {
        SkyLeases x = fresh();
        dueArgument("dark: t", v -> x.dark(v, 0, 0), 0, 1);
        dueArgument("dark: a", v -> x.dark(0, v, 99), 0, 99);
        dueArgument("dark: b", v -> x.dark(0, 0, v), 0, 99);
        dueArgument("dark: a up to b", v -> x.dark(0, v, 50), 0, 50);
        dueArgument("dark: b from a on", v -> x.dark(0, 50, v), 50, 99);
        due("one night", x.dark(0, 10, 10), 0);
        SkyLeases none = told("tenant 0;lease 0 0 4 0 99;");
        due("all hundred", none.dark(0, 0, 99), 100);
        due("the first alone", none.dark(0, 0, 0), 1);
        due("the last alone", none.dark(0, 99, 99), 1);
    }

    private static void meetings() {
        SkyLeases x = fresh();
        dueArgument("meets: t", v -> x.meets(v, 0, 0), 0, 1);
        dueArgument("meets: s", v -> x.meets(0, v, 0), 0, 1);
        dueArgument("meets: a", v -> x.meets(0, 0, v), 0, 99);
        due("its first night", x.meets(0, 1, 0), 10);
        due("its last night", x.meets(0, 1, 20), 20);
        due("none behind it", x.meets(0, 1, 21), NONE);
        due("none from 99", x.meets(0, 1, 99), NONE);
    }

    private static void offers() {
        dueArgument("offer: t", v -> fresh().offer(v, 0, 1, 0, 0, 1), 0, 1);
        dueArgument("offer: a", v -> fresh().offer(0, v, 1, 0, 0, 1), 0, 4);
        dueArgument("offer: l", v -> fresh().offer(0, 0, v, 0, 0, 1), 1, 5);
        dueArgument("offer: f", v -> fresh().offer(0, 0, 1, v, 99, 1), 0, 99);
        dueArgument("offer: u", v -> fresh().offer(0, 0, 1, 0, v, 1), 0, 99);
        dueArgument("offer: f up to u", v -> fresh().offer(0, 0, 1, v, 50, 1), 0, 50);
        dueArgument("offer: u from f on", v -> fresh().offer(0, 0, 1, 50, v, 1), 50, 99);
        dueArgument("offer: price", v -> fresh().offer(0, 0, 1, 0, 0, v), 1, 99);
        SkyLeases x = fresh();
        for (int i = 0; i < 8; i++) {
            due("offer", x.offer(1, 4, 5, 0, 99, 99), i);
        }
        due("a ninth", x.offer(1, 4, 5, 0, 99, 99), FULL);
        due("eight", x.count(4), 8);
    }

    private static void offersRefused() {
        SkyLeases x = fresh();
        due("none", x.refuse(), 0);
        for (int i = 0; i < 8; i++) {
            x.offer(0, 0, 1, 0, 99, 1);
        }
        due("eight", x.refuse(), 8);
        due("none any more", x.refuse(), 0);
        due("count(4)", x.count(4), 0);
        due("letting", x.letting(0, 99, 0), 0);
        due("the first anew", x.offer(0, 0, 1, 0, 99, 1), 0);
    }

    private static void lettings() {
        SkyLeases x = fresh();
        x.offer(0, 0, 1, 0, 99, 40);
        x.offer(1, 1, 1, 0, 99, 50);
        x.offer(1, 0, 2, 0, 99, 30);
        dueArgument("letting: a", v -> x.letting(v, 99, 0), 0, 99);
        dueArgument("letting: b", v -> x.letting(0, v, 0), 0, 99);
        dueArgument("letting: a up to b", v -> x.letting(v, 50, 0), 0, 50);
        dueArgument("letting: b from a on", v -> x.letting(50, v, 0), 50, 99);
        dueArgument("letting: what", v -> x.letting(0, 0, v), 0, 1);
        due("the prices", x.letting(0, 99, 0), 40);
        due("the set", x.letting(0, 99, 1), 1);
        SkyLeases none = fresh();
        due("no offers", none.letting(0, 99, 0), 0);
        due("no offers, the set", none.letting(0, 99, 1), 0);
        dueArgument("letting of none: what", v -> none.letting(0, 0, v), 0, 1);
        dueArgument("letting of none: a", v -> none.letting(v, 99, 0), 0, 99);
        dueArgument("letting of none: b", v -> none.letting(0, v, 0), 0, 99);
    }

    private static void seen() {
        dueArgument("saw: s", v -> fresh().saw(v, 0), 0, 1);
        dueArgument("saw: q", v -> fresh().saw(0, v), 0, 4);
        SkyLeases x = fresh();
        for (int i = 1; i <= 8; i++) {
            due("saw", x.saw(1, 4), i);
        }
        due("a ninth", x.saw(1, 4), FULL);
        due("eight", x.count(5), 8);
    }

    private static void forgotten() {
        SkyLeases x = fresh();
        due("none", x.forget(), 0);
        for (int i = 0; i < 8; i++) {
            x.saw(1, 4);
        }
        due("dates(0)", x.dates(0), 0);
        due("eight", x.forget(), 8);
        due("none any more", x.forget(), 0);
        due("count(5)", x.count(5), 0);
        due("dates(0)", x.dates(0), 1000);
        due("the first anew", x.saw(0, 0), 1);
    }

    private static void dates() {
        SkyLeases x = fresh();
        dueArgument("dates: what", x::dates, 0, 1);
        due("all", x.dates(0), 1000);
        due("the first of all", x.dates(1), 0);
        x.saw(0, 3);
        // Nights 8 and 9 of each ten.
        due("how many", x.dates(0), 200);
        due("the first", x.dates(1), 8);
        x.saw(1, 1);
        due("none", x.dates(0), 0);
        due("no first", x.dates(1), NONE);
        dueArgument("dates of none: what", v -> v == 0 || v == 1 ? 0 : x.dates(v), 0, 1);
    }

    private static void odds() {
        SkyLeases x = told("sky 4;star 0 0 2;star 1 0 2;tenant 0;tenant 0;lease 0 0 4 0 99;");
        dueArgument("odds: t", v -> x.odds(v, 1, 0, 0), 0, 1);
        dueArgument("odds: m", v -> x.odds(0, v, 0, 0), 1, 3);
        dueArgument("odds: k", v -> x.odds(0, 1, v, 0), 0, 99);
        dueArgument("odds: what", v -> x.odds(0, 1, 0, v), 0, 1);
        due("2 of 4 are 1", x.odds(0, 1, 4, 0), 1);
        due("of 2", x.odds(0, 1, 4, 1), 2);
        due("none are 0", x.odds(0, 3, 99, 0), 0);
        due("of 1", x.odds(0, 3, 99, 1), 1);
        due("all are 1", x.odds(0, 3, 0, 0), 1);
        due("of 1", x.odds(0, 3, 0, 1), 1);
        due("512 runs of clouds", told("sky 8;star 0 0 1;tenant 0;lease 0 0 1 0 99;").odds(0, 3, 3, 1), 512);
    }

    // ---- kinds, images

    private static void kindsAndImages() {
        says("RATE. NO: BAD.", CallsTest::rates);
        says("An IMAGE is kept: the NIGHT. BAD.", CallsTest::kept);
        says("All of that becomes as an IMAGE has it: the NIGHT. BAD; STATE: none was kept.", CallsTest::cameBack);
        says("0 SQUARES, 1 STARS, 2 TENANTS, 3 LEASES, 4 OFFERS, 5 SEEN, 6 the NIGHT, 7 how many may be UNDONE, "
            + "8 bytes of THE TEXT. BAD.", CallsTest::counts);
        says("`long trace()`: THE TRACE.", CallsTest::traces);
    }

    private static void rates() {
        SkyLeases x = fresh();
        dueWithin("rate(kind, 0)", v -> x.rate(v, 0), 0, 5, NO);
        dueWithin("rate(0, t)", v -> x.rate(0, v), 0, 1, NO);
        due("both wrong", x.rate(-1, -1), NO);
        due("both wrong", x.rate(6, 2), NO);
        due("no tenants", new SkyLeases().rate(0, 0), NO);
        due("never BAD", x.rate(6, 0) == BAD ? 1 : 0, 0);
    }

    private static void kept() {
        SkyLeases x = fresh();
        dueArgument("keep(image)", x::keep, 0, 1);
        due("night 0", x.keep(0), 0);
        pass(x, 99);
        due("night 99", x.keep(1), 99);
        due("image 0 is another", x.back(0), 0);
        due("image 1", x.back(1), 99);
    }

    private static void cameBack() {
        SkyLeases x = fresh();
        for (int wrong : beyond(0, 1)) {
            due("back(" + wrong + ")", x.back(wrong), BAD);
        }
        due("image 0 was not kept", x.back(0), STATE);
        due("image 1 was not kept", x.back(1), STATE);
        x.keep(1);
        due("image 0 was not kept yet", x.back(0), STATE);
        due("image 1 was kept", x.back(1), 0);
        pass(x, 99);
        x.keep(0);
        due("image 1", x.back(1), 0);
        due("nights go by again", x.night() < 0 ? 1 : 0, 0);
        due("image 0", x.back(0), 99);
        due("no night goes by", x.night(), STATE);
        due("image 1 as often as asked", x.back(1), 0);
        typeAll(x, "sky 2;");
        x.sky();
        due("image 0 is gone", x.back(0), STATE);
        due("image 1 is gone", x.back(1), STATE);
        for (int wrong : beyond(0, 1)) {
            due("back(" + wrong + ")", x.back(wrong), BAD);
        }
    }

    private static void counts() {
        SkyLeases x = told("sky 7;" + "star 0 0 1;".repeat(2) + "tenant 0;".repeat(3) + "lease 0 0 1 0 0;");
        dueArgument("count(what)", x::count, 0, 8);
        for (int i = 0; i < 3; i++) {
            x.begins(0, 0, 1, 0, 0);
        }
        for (int i = 0; i < 5; i++) {
            x.offer(0, 0, 1, 0, 0, 1);
        }
        for (int i = 0; i < 6; i++) {
            x.saw(0, 0);
        }
        pass(x, 8);
        typeAll(x, "123456789");
        int[] counts = {7, 2, 3, 4, 5, 6, 8, 3, 9};
        for (int what = 0; what < counts.length; what++) {
            due("count(" + what + ")", x.count(what), counts[what]);
        }
    }

    private static void traces() {
        SkyLeases x = fresh();
        due("at first", x.trace(), 0);
        for (int i = 1; i <= 400; i++) {
            x.rate(5, 0);
        }
        due("400 shepherds", x.trace(), 40000400L);
        due("asked again", x.trace(), 40000400L);
    }
}
