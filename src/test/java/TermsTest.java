/** The sentences of the document's Terms that name a boundary, one test each. */
public final class TermsTest extends Checks {
    public static void main(String[] args) {
        squaresAndStars();
        tenantsAndLeases();
        theText();
        whoseAndNights();
        leasesBegunAndEnded();
        cycleDarkAndMeets();
        lettings();
        seenAndOdds();
        kindsAndImages();
        end();
    }

    // ---- 1

    private static void squaresAndStars() {
        says("SQUARES 0 .. n - 1 lie in a ring (n 2 ..", TermsTest::squaresLieInARing);
        says("8; 4 at first)", TermsTest::twoToEightSquares);
        says("STARS 0 .. (8 at most)", TermsTest::eightStars);
        says("a SQUARE on NIGHT 0", TermsTest::squareOfAStar);
        says("a PACE (0 .. 9)", TermsTest::pace);
        says("BRIGHT (1 .. 9)", TermsTest::bright);
        says("it is in the next SQUARE (behind the last one the first) after each PACE NIGHTS", TermsTest::starsGoOn);
        says("PACE 0: it stays", TermsTest::starsStay);
    }

    private static void squaresLieInARing() {
        for (int n = 2; n <= 8; n++) {
            SkyLeases x = told("sky " + n + ";tenant 0;lease 0 " + (n - 1) + " 2 0 0;");
            dueWithin("whose(q, 0) by " + n, q -> x.whose(q, 0), 0, n - 1, BAD);
            due("whose the last is", x.whose(n - 1, 0), 0);
            due("whose the first is", x.whose(0, 0), 0);
            for (int q = 1; q < n - 1; q++) {
                due("whose(" + q + ", 0) by " + n, x.whose(q, 0), NONE);
            }
        }
    }

    private static void twoToEightSquares() {
        due("count(0) at first", new SkyLeases().count(0), 4);
        due("count(0) of a text without a sky", told("tenant 1;").count(0), 4);
        for (int n = 2; n <= 8; n++) {
            due("count(0)", told("sky " + n + ";").count(0), n);
        }
        dueFault("sky 0;", 4);
        dueFault("sky 1;", 4);
        dueFault("sky 9;", 4);
        dueFault("sky 10;", 4);
    }

    private static void eightStars() {
        StringBuilder text = new StringBuilder("sky 8;");
        for (int s = 0; s < 8; s++) {
            SkyLeases ahead = told(text.toString());
            due("star " + s + " ahead of it", ahead.star(s, 0), BAD);
            text.append("star ").append(7 - s).append(" 0 1;");
        }
        SkyLeases x = told(text.toString());
        due("count(1)", x.count(1), 8);
        for (int s = 0; s < 8; s++) {
            due("star(" + s + ", 0)", x.star(s, 0), 7 - s);
        }
        due("star(8, 0)", x.star(8, 0), BAD);
        due("star(-1, 0)", x.star(-1, 0), BAD);
        dueFault(text + "star 0 0 1;", text.length());
    }

    private static void squareOfAStar() {
        for (int n = 2; n <= 8; n++) {
            String ahead = "sky " + n + ";star ";
            due("the first by " + n, told(ahead + "0 0 1;").star(0, 0), 0);
            due("the last by " + n, told(ahead + (n - 1) + " 0 1;").star(0, 0), n - 1);
            dueFault(ahead + n + " 0 1;", 11);
        }
        dueItems("star 3 0 1;", 1);
        dueFault("star 4 0 1;", 5);
    }

    private static void pace() {
        due("pace 1 by night 1", told("star 0 1 1;").star(0, 1), 1);
        due("pace 9 by night 9", told("star 0 9 1;").star(0, 9), 1);
        dueItems("star 0 0 1;", 1);
        dueFault("star 0 10 1;", 7);
    }

    private static void bright() {
        for (int bright : new int[] {1, 9}) {
            // The draw of lot 1 is even, so that the cloud is over square 0.
            SkyLeases x = told("sky 2;star 1 0 " + bright + ";tenant 0;lease 0 0 2 0 99;");
            x.night();
            due("purse(0)", x.purse(0), bright);
        }
        dueFault("star 0 0 0;", 9);
        dueFault("star 0 0 10;", 9);
    }

    private static void starsGoOn() {
        for (int n = 2; n <= 8; n++) {
            for (int pace = 1; pace <= 9; pace++) {
                SkyLeases x = told("sky " + n + ";star " + (n - 1) + " " + pace + " 1;star 0 " + pace + " 1;");
                String by = " by " + n + " squares and pace " + pace;
                due("the last square to the end" + by, x.star(0, pace - 1), n - 1);
                due("behind the last one the first" + by, x.star(0, pace), 0);
                due("the first to the end" + by, x.star(1, pace - 1), 0);
                due("behind the first one the next" + by, x.star(1, pace), 1);
                due("a night ahead of all round" + by, x.star(1, n * pace - 1), n - 1);
                due("all round" + by, x.star(1, n * pace), 0);
                due("night 999" + by, x.star(1, 999), 999 / pace % n);
            }
        }
    }

    private static void starsStay() {
        SkyLeases x = told("sky 8;star 0 0 1;star 7 0 1;");
        for (int night : new int[] {0, 1, 9, 10, 99, 100, 999}) {
            due("star 0 on " + night, x.star(0, night), 0);
            due("star 1 on " + night, x.star(1, night), 7);
        }
    }

    private static void tenantsAndLeases() {
        says("TENANTS 0 .. (4 at most)", TermsTest::fourTenants);
        says("have a PURSE (0 .. 99)", TermsTest::pursesAsTold);
        says("LEASES (10 at most)", TermsTest::tenLeases);
        says("SQUARES (so many, 1 .. n, from one on, round)", TermsTest::squaresOfALease);
        says("from a NIGHT to a NIGHT (0 .. 99, both ones in it)", TermsTest::nightsOfALease);
        says("(a TENANT that was told; U is no less than F)", TermsTest::tenantOfALease);
    }

    private static void fourTenants() {
        StringBuilder text = new StringBuilder();
        for (int t = 0; t < 4; t++) {
            due("tenant " + t + " ahead of it", told(text.toString()).purse(t), BAD);
            text.append("tenant ").append(10 + t).append(';');
        }
        SkyLeases x = told(text.toString());
        due("count(2)", x.count(2), 4);
        for (int t = 0; t < 4; t++) {
            due("purse(" + t + ")", x.purse(t), 10 + t);
        }
        due("purse(4)", x.purse(4), BAD);
        due("purse(-1)", x.purse(-1), BAD);
        dueFault(text + "tenant 0;", text.length());
    }

    private static void pursesAsTold() {
        SkyLeases x = told("sky 2;star 0 0 9;star 1 0 9;tenant 0;tenant 99;lease 1 0 2 0 99;");
        due("purse(0)", x.purse(0), 0);
        due("purse(1)", x.purse(1), 99);
        dueFault("tenant 100;", 7);
        x.night();
        due("99 are no bound of what is brought", x.purse(1), 108);
    }

    private static void tenLeases() {
        StringBuilder text = new StringBuilder("tenant 0;");
        for (int k = 0; k < 10; k++) {
            text.append("lease 0 0 1 0 ").append(80 + k).append(';');
        }
        SkyLeases x = told(text.toString());
        due("count(3)", x.count(3), 10);
        due("the first", x.lease(0, 4), 80);
        due("the tenth", x.lease(9, 4), 89);
        due("lease(10, 4)", x.lease(10, 4), BAD);
        dueFault(text + "lease 0 0 1 0 0;", text.length());
        due("an eleventh begins", x.begins(0, 0, 1, 0, 0), FULL);
        x.ends(4);
        due("a tenth begins", x.begins(0, 0, 1, 0, 0), 9);
        due("an eleventh begins", x.begins(0, 0, 1, 0, 0), FULL);
    }

    private static void squaresOfALease() {
        for (int n = 2; n <= 8; n++) {
            String ahead = "sky " + n + ";tenant 0;lease 0 ";
            dueFault(ahead + n + " 1 0 0;", 23);
            dueFault(ahead + "0 0 0 0;", 25);
            dueFault(ahead + "0 " + (n + 1) + " 0 0;", 25);
            for (int first = 0; first < n; first++) {
                for (int many = 1; many <= n; many++) {
                    SkyLeases x = told(ahead + first + " " + many + " 0 0;");
                    for (int i = 0; i < n; i++) {
                        due(many + " from " + first + " on, the " + i + "th behind it by " + n,
                            x.whose((first + i) % n, 0), i < many ? 0 : NONE);
                    }
                }
            }
        }
    }

    private static void nightsOfALease() {
        SkyLeases x = told("sky 4;tenant 0;lease 0 0 1 0 99;lease 0 1 1 7 9;lease 0 2 1 99 99;lease 0 3 1 0 0;");
        due("from 0", x.whose(0, 0), 0);
        due("to 99", x.whose(0, 99), 0);
        due("the night ahead", x.whose(1, 6), NONE);
        due("its first night", x.whose(1, 7), 0);
        due("its last night", x.whose(1, 9), 0);
        due("the night behind", x.whose(1, 10), NONE);
        due("99 alone", x.whose(2, 99), 0);
        due("98", x.whose(2, 98), NONE);
        due("0 alone", x.whose(3, 0), 0);
        due("1", x.whose(3, 1), NONE);
        dueFault("tenant 0;lease 0 0 1 100 100;", 21);
        dueFault("tenant 0;lease 0 0 1 0 100;", 23);
    }

    private static void tenantOfALease() {
        dueFault("lease 0 0 1 0 0;", 6);
        dueFault("lease 0 0 1 0 0;tenant 0;", 6);
        dueItems("tenant 0;tenant 0;lease 1 0 1 0 0;", 3);
        dueFault("tenant 0;tenant 0;lease 2 0 1 0 0;", 24);
        dueFault("tenant 0;lease 1 0 1 0 0;tenant 0;", 15);
        dueItems("tenant 0;lease 0 0 1 5 5;", 2);
        dueItems("tenant 0;lease 0 0 1 5 6;", 2);
        dueFault("tenant 0;lease 0 0 1 5 4;", 23);
        dueFault("tenant 0;lease 0 0 1 99 98;", 24);
        dueFault("tenant 0;lease 0 0 1 1 0;", 23);
    }

    private static void theText() {
        says("They are a text (300 bytes at most)", TermsTest::threeHundredBytes);
        says("read byte by byte, blanks (32) between TOKENS", TermsTest::blanks);
        says("ITEMS, each ended by ;", TermsTest::endsOfItems);
        says("sky N (the first of all, if it is told)", TermsTest::skyIsFirst);
        says("TOKENS are words of letters a .. z (sky, star, tenant, lease), NUMBERS and ;", TermsTest::tokens);
        says("FAULT: the place of the first byte of the first TOKEN that can't stand there", TermsTest::firstWrongToken);
        says("sky behind another ITEM", () -> {
            dueFault("sky 4;sky 4;", 6);
            dueFault("tenant 0; sky 4;", 10);
            dueFault("star 0 0 1;  sky", 13);
        });
        says("a ninth star", () -> {
            dueItems("star 0 0 1;".repeat(8) + "tenant 0;", 9);
            dueFault("star 0 0 1;".repeat(8) + "tenant 0;star", 97);
        });
        says("a fifth tenant", () -> {
            dueItems("tenant 0;".repeat(4) + "star 0 0 1;", 5);
            dueFault("tenant 0;".repeat(4) + "star 0 0 1;tenant", 47);
        });
        says("an eleventh lease", () -> {
            dueItems("tenant 0;" + "lease 0 0 1 0 0;".repeat(10) + "tenant 0;", 12);
            dueFault("tenant 0;" + "lease 0 0 1 0 0;".repeat(10) + "tenant 0; lease", 179);
        });
        says("a NUMBER beyond what it may be, too", TermsTest::numbersBeyond);
        says("of a byte that begins none", TermsTest::bytesThatBeginNone);
        says("a word that is none of these", TermsTest::otherWords);
        says("a NUMBER above 99", TermsTest::numbersAbove99);
        says("with a 0 ahead of others", TermsTest::zeroAhead);
        says("the text's length, if it ends too early", TermsTest::endsTooEarly);
    }

    private static void threeHundredBytes() {
        String last = "tenant 9;";
        dueItems(" ".repeat(300 - last.length()) + last, 1);
        dueItems(last + " ".repeat(300 - last.length()), 1);
        SkyLeases x = new SkyLeases();
        due("300 bytes", typeAll(x, " ".repeat(300)), 300);
        due("one more", x.type(' ', 1), FULL);
    }

    private static void blanks() {
        dueItems("", 0);
        dueItems(" ", 0);
        dueItems("   sky   2   ;   star   1   0   1   ;   ", 2);
        // Tokens that part by themselves need none.
        dueItems("sky2;tenant5;", 2);
        dueItems("star 0 0 1;star 0 0 1;", 2);
        for (int other : new int[] {0, 9, 10, 13, 31, 33, 127, 128, 160, 255}) {
            dueFault("sky" + (char) other + "4;", 3);
            dueFault((char) other + "sky 4;", 0);
            dueFault("sky 4;" + (char) other, 6);
        }
    }

    private static void endsOfItems() {
        dueFault(";", 0);
        dueFault("sky 4;;", 6);
        dueFault("sky 4 sky 4;", 6);
        dueFault("tenant 1 tenant 2;", 9);
        dueFault("sky 4 4;", 6);
        dueFault("star 0 0 1 1;", 11);
        dueFault("tenant 0;lease 0 0 1 0 0 0;", 25);
        dueFault("tenant 1", 8);
        dueItems("tenant 1;", 1);
    }

    private static void skyIsFirst() {
        dueItems("sky 5;tenant 0;", 2);
        dueItems("tenant 0;", 1);
        dueFault("tenant 0;sky 5;", 9);
        // Squares of the items behind it are counted by it.
        dueItems("sky 8;star 7 0 1;", 2);
        dueFault("sky 2;star 2 0 1;", 11);
    }

    private static void tokens() {
        for (char beside : new char[] {'a' - 1, 'z' + 1, 'A', 'Z', 'S'}) {
            dueFault(beside + "ky 4;", 0);
            dueFault("sky" + beside + " 4;", 3);
        }
        for (char beside : new char[] {'0' - 1, '9' + 1, ';' + 1}) {
            dueFault("tenant " + beside + ";", 7);
            dueFault("tenant 9" + beside + ";", 8);
        }
        for (int digit = 0; digit <= 9; digit++) {
            due("tenant " + digit, told("tenant " + digit + ";").purse(0), digit);
        }
        dueItems("sky 4;star 0 0 1;tenant 0;lease 0 0 1 0 0;", 4);
    }

    private static void firstWrongToken() {
        dueFault("star 0 99 99 99", 7);
        dueFault("   99  98;", 3);
        dueFault("sky tenant", 4);
        dueFault("sky 4 tenant", 6);
        dueFault("tenant ;", 7);
        dueFault("tenant 1;  4;", 11);
        dueFault("star 0 0 1;?star 0 0 1;?", 11);
        dueFault("star 0 0 lease;", 9);
    }

    private static void numbersBeyond() {
        dueFault("sky 1;", 4);
        dueFault("sky  9;", 5);
        dueFault("star 4 0 1;", 5);
        dueFault("star 0  10 1;", 8);
        dueFault("star 0 0  0;", 10);
        dueFault("star 0 0 10;", 9);
        dueFault("tenant 0;lease  1 0 1 0 0;", 16);
        dueFault("tenant 0;lease 0  4 1 0 0;", 18);
        dueFault("tenant 0;lease 0 0  0 0 0;", 20);
        dueFault("tenant 0;lease 0 0  5 0 0;", 20);
        dueFault("tenant 0;lease 0 0 1 9  8;", 24);
    }

    private static void bytesThatBeginNone() {
        for (int value = 0; value < 256; value++) {
            boolean begins = value == ' ' || value == ';' || value >= '0' && value <= '9' || value >= 'a' && value <= 'z';
            if (!begins) {
                dueFault("tenant 0;  " + (char) value, 11);
                dueFault("tenant " + (char) value, 7);
                dueFault("tenant 5" + (char) value, 8);
            }
        }
    }

    private static void otherWords() {
        for (String word : new String[] {"s", "sk", "skyy", "stars", "sta", "tenants", "tenan", "leas", "leases", "ease",
            "skystar", "a", "z", "zky", "skyz", "skya", "starz", "staz", "tenantz", "leasez", "atenant"}) {
            dueFault(word + " 4;", 0);
            dueFault("tenant 0; " + word, 10);
            dueFault("tenant  " + word + ";", 8);
            dueFault("tenant 0 " + word + ";", 9);
        }
    }

    private static void numbersAbove99() {
        dueItems("tenant 99;", 1);
        for (String number : new String[] {"100", "999", "1000", "2147483648", "4294967295", "4294967296", "4294967301",
            "9223372036854775808", "18446744073709551616", "18446744073709551617"}) {
            dueFault("tenant  " + number + ";", 8);
            dueFault("tenant  " + number, 8);
            dueFault(number, 0);
        }
        dueFault("tenant 1" + "0".repeat(292), 7);
    }

    private static void zeroAhead() {
        dueItems("tenant 0;", 1);
        dueItems("tenant 10;", 1);
        for (String number : new String[] {"00", "01", "09", "010", "000", "0000000001", "099"}) {
            dueFault("tenant  " + number + ";", 8);
            dueFault("tenant  " + number, 8);
        }
        // Parted by a blank they are two numbers, and the second can't stand there.
        dueFault("tenant 0 1;", 9);
    }

    private static void endsTooEarly() {
        String[] pieces = {"sky", "sky 4", "star", "star 0", "star 0 0", "star 0 0 1", "tenant", "tenant 0",
            "tenant 0;lease", "tenant 0;lease 0", "tenant 0;lease 0 0", "tenant 0;lease 0 0 1", "tenant 0;lease 0 0 1 0",
            "tenant 0;lease 0 0 1 0 0"};
        for (String piece : pieces) {
            for (int blanks = 0; blanks < 3; blanks++) {
                String text = piece + " ".repeat(blanks);
                dueFault(text, text.length());
            }
            dueFault(" ".repeat(300 - piece.length()) + piece, 300);
            dueFault(piece + " ".repeat(300 - piece.length()), 300);
        }
    }

    // ---- 2

    private static void whoseAndNights() {
        says("the TENANT's of the LEASE that has it then", TermsTest::leaseThatHasIt);
        says("of several the one told first", TermsTest::oneToldFirst);
        says("CLAIMS: how many LEASES have it then", TermsTest::claimsOfNoneToTen);
        says("A STAR's owner: WHOSE its SQUARE is", TermsTest::ownersOfStars);
        says("NIGHT (0 at first, 99 at most)", TermsTest::nightsTo99);
        says("THE LOT goes on (times 1103515245 and 12345, wrapped", TermsTest::lotIsWrapped);
        says("DRAW: its upper 16 bits, left over by n)", TermsTest::draws);
        says("a CLOUD over the SQUARE of that number", TermsTest::cloudOverEachSquare);
        says("each STAR that is not under it brings its owner BRIGHT (nobody's: none)", TermsTest::rents);
        says("it is the next NIGHT", TermsTest::rentsOfTheNightThatWentBy);
    }

    private static void leaseThatHasIt() {
        SkyLeases x = told("sky 8;" + "tenant 0;".repeat(4) + "lease 3 7 2 98 99;lease 2 0 8 50 50;lease 1 3 1 0 0;");
        due("the last night, round", x.whose(0, 99), 3);
        due("the last night", x.whose(7, 99), 3);
        due("behind its squares", x.whose(1, 99), NONE);
        due("the night ahead", x.whose(0, 97), NONE);
        for (int q = 0; q < 8; q++) {
            due("all squares on 50", x.whose(q, 50), 2);
            due("none on 49", x.whose(q, 49), NONE);
            due("none on 51", x.whose(q, 51), NONE);
            due("one on 0", x.whose(q, 0), q == 3 ? 1 : NONE);
        }
        due("no leases", told("tenant 0;").whose(0, 0), NONE);
    }

    private static void oneToldFirst() {
        SkyLeases x = told("sky 3;tenant 0;tenant 0;tenant 0;lease 2 0 1 5 5;lease 0 0 2 4 6;lease 1 0 3 3 7;");
        int[] owners = {NONE, 1, 0, 2, 0, 1, NONE};
        for (int i = 0; i < owners.length; i++) {
            due("whose(0, " + (2 + i) + ")", x.whose(0, 2 + i), owners[i]);
        }
        due("whose(1, 5)", x.whose(1, 5), 0);
        due("whose(2, 5)", x.whose(2, 5), 1);
        SkyLeases same = told("tenant 0;tenant 0;lease 1 0 4 0 99;lease 0 0 4 0 99;");
        due("the same squares and nights", same.whose(3, 99), 1);
        same.ends(0);
        due("the first has ended", same.whose(3, 99), 0);
    }

    private static void claimsOfNoneToTen() {
        SkyLeases x = told("sky 2;tenant 0;tenant 0;" + "lease 0 1 1 10 20;lease 1 1 2 20 30;".repeat(4)
            + "lease 0 1 2 20 20;lease 1 0 2 20 20;");
        due("all ten", x.claims(1, 20), 10);
        due("those of one square", x.claims(0, 20), 6);
        due("four", x.claims(1, 10), 4);
        due("none in its squares", x.claims(0, 10), 0);
        due("none yet", x.claims(1, 9), 0);
        due("four to the last night", x.claims(0, 30), 4);
        due("none any more", x.claims(0, 31), 0);
    }

    private static void ownersOfStars() {
        // The star goes from square 3 to square 0 on night 1; square 0 is tenant 1's from night 2 on.
        SkyLeases x = told("star 3 1 9;tenant 0;tenant 0;lease 0 3 1 0 99;lease 1 1 1 2 2;lease 0 1 1 2 2;");
        due("it is tenant 0's on night 0", x.meets(0, 0, 0), 0);
        due("nobody's on night 1, tenant 1's on night 2", x.meets(1, 0, 0), 2);
        due("told behind it: not on night 2", x.meets(0, 0, 1), 4);
    }

    private static void nightsTo99() {
        SkyLeases x = new SkyLeases();
        due("at first", x.count(6), 0);
        for (int i = 1; i <= 99; i++) {
            due("night() " + i + " is refused", x.night() < 0 ? 1 : 0, 0);
            due("count(6)", x.count(6), i);
        }
        due("night() on 99", x.night(), STATE);
        due("count(6)", x.count(6), 99);
    }

    private static void lotIsWrapped() {
        int[] lots = {0, 1, -1, 2, Integer.MAX_VALUE, Integer.MIN_VALUE, 1103515245, -1103515245, 65535, 65536};
        for (int lot : lots) {
            SkyLeases x = new SkyLeases();
            x.lot(lot);
            x.night();
            due("the lot behind " + lot, x.lot(0), (int) (lot * 1103515245L + 12345L));
        }
        SkyLeases x = new SkyLeases();
        x.night();
        due("behind 1", x.lot(2), 1103527590);
        x.night();
        due("behind 2", x.lot(3), -2087924461);
        x.night();
        due("behind 3", x.lot(0), -984409216);
    }

    /** The lot whose next one is that: 1103515245 is odd, so that there is one. */
    private static int lotAhead(int next) {
        int inverse = 1;
        for (int i = 0; i < 31; i++) {
            inverse *= 2 - 1103515245 * inverse;
        }
        return (next - 12345) * inverse;
    }

    private static void draws() {
        for (int n = 2; n <= 8; n++) {
            SkyLeases x = told("sky " + n + ";");
            for (int draw : new int[] {0, 1, n - 1, n, 32767, 32768, 65534, 65535}) {
                for (int lower : new int[] {0, 65535}) {
                    x.lot(lotAhead(draw << 16 | lower));
                    due("the cloud of " + draw + " by " + n, x.night(), draw % n);
                }
            }
        }
    }

    private static void cloudOverEachSquare() {
        for (int n = 2; n <= 8; n++) {
            for (int cloud = 0; cloud < n; cloud++) {
                // Tenant 0 has the first square's star, tenant 1 the last one's.
                SkyLeases x = told("sky " + n + ";star 0 0 1;star " + (n - 1) + " 0 1;tenant 0;tenant 0;"
                    + "lease 0 0 1 0 0;lease 1 " + (n - 1) + " 1 0 0;");
                x.lot(lotAhead(cloud << 16));
                due("the cloud by " + n, x.night(), cloud);
                due("the first square under cloud " + cloud, x.purse(0), cloud == 0 ? 0 : 1);
                due("the last square under cloud " + cloud, x.purse(1), cloud == n - 1 ? 0 : 1);
            }
        }
    }

    private static void rents() {
        // Two squares: by draw 0 the cloud is over square 0, by draw 1 over square 1.
        SkyLeases x = told("sky 2;star 0 0 1;star 1 0 2;star 1 0 4;star 0 0 8;tenant 0;tenant 50;lease 0 0 2 0 1;"
            + "lease 1 0 1 0 2;lease 1 1 1 3 3;");
        int[] draws = {0, 1, 0, 0, 1, 0};
        int[] purses = {6, 15, 15, 15, 15, 15};
        int[] others = {50, 50, 50, 56, 56, 56};
        for (int i = 0; i < draws.length; i++) {
            x.lot(lotAhead(draws[i] << 16));
            x.night();
            due("purse(0) behind night " + i, x.purse(0), purses[i]);
            due("purse(1) behind night " + i, x.purse(1), others[i]);
        }
        SkyLeases empty = told("tenant 7;lease 0 0 4 0 99;");
        empty.night();
        due("no stars", empty.purse(0), 7);
    }

    private static void rentsOfTheNightThatWentBy() {
        SkyLeases x = told("sky 2;star 0 1 3;star 1 1 3;tenant 0;tenant 0;tenant 0;lease 0 0 2 0 0;lease 1 0 2 1 1;"
            + "lease 2 0 2 98 99;");
        x.night();
        due("night 0's", x.purse(0), 3);
        due("night 1's, not yet", x.purse(1), 0);
        x.night();
        due("night 1's", x.purse(1), 3);
        due("night 0's, no more", x.purse(0), 3);
        pass(x, 96);
        due("count(6)", x.count(6), 98);
        due("night 98's, not yet", x.purse(2), 0);
        x.night();
        due("night 98's", x.purse(2), 3);
        x.night();
        due("night 99 does not go by", x.purse(2), 3);
    }

    private static void leasesBegunAndEnded() {
        says("A LEASE begins: it comes behind the others.", TermsTest::begunBehind);
        says("It ENDS: those behind it come one nearer.", TermsTest::endedNearer);
        says("UNDONE: the latest of both that was not undone yet", TermsTest::undoneTheLatest);
        says("(6 at most are known, older ones are lost)", TermsTest::sixAreKnown);
        says("nothing else is.", TermsTest::nothingElseIsUndone);
    }

    private static void dueLastNights(SkyLeases x, String when, int... nights) {
        due("count(3) " + when, x.count(3), nights.length);
        for (int k = 0; k < nights.length; k++) {
            due("lease(" + k + ", 4) " + when, x.lease(k, 4), nights[k]);
        }
        due("behind the last one " + when, x.lease(nights.length, 4), BAD);
    }

    private static SkyLeases withLeases(int many) {
        StringBuilder text = new StringBuilder("tenant 0;");
        for (int k = 0; k < many; k++) {
            text.append("lease 0 0 1 0 ").append(10 + k).append(';');
        }
        return told(text.toString());
    }

    private static void begunBehind() {
        SkyLeases none = withLeases(0);
        due("the first of all", none.begins(0, 0, 1, 0, 20), 0);
        dueLastNights(none, "behind none", 20);
        SkyLeases x = withLeases(8);
        due("the ninth", x.begins(0, 3, 4, 5, 50), 8);
        due("the tenth", x.begins(0, 1, 1, 0, 51), 9);
        dueLastNights(x, "behind eight", 10, 11, 12, 13, 14, 15, 16, 17, 50, 51);
        int[] parts = {0, 3, 4, 5, 50};
        for (int what = 0; what < parts.length; what++) {
            due("part " + what, x.lease(8, what), parts[what]);
        }
    }

    private static void endedNearer() {
        SkyLeases x = withLeases(10);
        x.ends(9);
        dueLastNights(x, "without the last", 10, 11, 12, 13, 14, 15, 16, 17, 18);
        x.ends(0);
        dueLastNights(x, "without the first", 11, 12, 13, 14, 15, 16, 17, 18);
        x.ends(3);
        dueLastNights(x, "without one between", 11, 12, 13, 15, 16, 17, 18);
        SkyLeases only = withLeases(1);
        due("the only one", only.ends(0), 0);
        dueLastNights(only, "without the only one");
    }

    private static void undoneTheLatest() {
        SkyLeases x = withLeases(3);
        x.ends(1);
        x.begins(0, 0, 1, 0, 20);
        x.ends(0);
        dueLastNights(x, "ahead", 12, 20);
        x.undo();
        dueLastNights(x, "one undone", 10, 12, 20);
        x.undo();
        dueLastNights(x, "two undone", 10, 12);
        x.begins(0, 0, 1, 0, 30);
        dueLastNights(x, "another begun", 10, 12, 30);
        x.undo();
        dueLastNights(x, "that one undone", 10, 12);
        x.undo();
        dueLastNights(x, "three undone", 10, 11, 12);
        due("no more", x.undo(), STATE);

        SkyLeases ten = withLeases(10);
        ten.ends(9);
        ten.ends(0);
        ten.begins(0, 0, 1, 0, 40);
        ten.undo();
        ten.undo();
        dueLastNights(ten, "the first is back", 10, 11, 12, 13, 14, 15, 16, 17, 18);
        due("to ten", ten.undo(), 10);
        dueLastNights(ten, "the last is back", 10, 11, 12, 13, 14, 15, 16, 17, 18, 19);
    }

    private static void sixAreKnown() {
        SkyLeases x = withLeases(10);
        for (int known = 1; known <= 9; known++) {
            x.ends(0);
            due("count(7)", x.count(7), Math.min(6, known));
        }
        for (int left = 2; left <= 7; left++) {
            due("undo() to " + left, x.undo(), left);
            due("count(7)", x.count(7), 7 - left);
        }
        due("a seventh", x.undo(), STATE);
        dueLastNights(x, "the oldest three are lost", 13, 14, 15, 16, 17, 18, 19);

        SkyLeases y = withLeases(2);
        y.ends(0);
        for (int i = 0; i < 6; i++) {
            y.begins(0, 0, 1, 0, 50 + i);
        }
        for (int left = 6; left >= 1; left--) {
            due("undo() to " + left, y.undo(), left);
        }
        due("the end is lost", y.undo(), STATE);
        dueLastNights(y, "the end is lost", 11);

        SkyLeases z = withLeases(10);
        for (int k : new int[] {9, 0, 4, 2, 5, 1, 3}) {
            z.ends(k);
        }
        z.begins(0, 0, 1, 0, 90);
        dueLastNights(z, "ahead", 11, 14, 16, 90);
        for (int left = 3; left <= 8; left++) {
            due("undo() to " + left, z.undo(), left);
        }
        due("the first two are lost", z.undo(), STATE);
        dueLastNights(z, "the others are at their places", 11, 12, 13, 14, 15, 16, 17, 18);
    }

    private static void nothingElseIsUndone() {
        SkyLeases x = told("sky 2;star 0 0 1;star 1 0 1;tenant 5;lease 0 0 2 0 99;");
        due("a told lease", x.undo(), STATE);
        x.night();
        due("a night", x.undo(), STATE);
        x.lot(9);
        x.saw(0, 0);
        x.offer(0, 0, 1, 0, 0, 1);
        x.rate(0, 0);
        x.keep(0);
        due("other calls", x.undo(), STATE);
        x.begins(0, 0, 1, 0, 0);
        x.night();
        x.lot(9);
        x.undo();
        due("the night stays", x.count(6), 2);
        due("the purse stays", x.purse(0), 7);
        due("the lot stays", x.lot(0), 9);
        due("seen stays", x.count(5), 1);
        due("offers stay", x.count(4), 1);
        due("the trace stays", x.trace(), 1);
        due("the image stays", x.back(0), 1);
    }

    // ---- 3

    private static void cycleDarkAndMeets() {
        says("CYCLE: the fewest NIGHTS (1 at least) by which all goes on as ahead", TermsTest::cycles);
        says("on each NIGHT all STARS are where they are so many NIGHTS later", TermsTest::allAsAhead);
        says("DARK NIGHTS of a TENANT from NIGHT a to b: those on which it has a LEASE", TermsTest::darkByLease);
        says("in its SQUARES (WHOSE is its) is no STAR", TermsTest::darkByStars);
        says("MEETS: the first NIGHT from a on (to 99) on which a STAR is its; NONE.", TermsTest::meetsTo99);
    }

    private static void cycles() {
        due("no stars", told("sky 8;").cycle(), 1);
        due("stars that stay", told("sky 8;star 0 0 1;star 7 0 9;").cycle(), 1);
        for (int n = 2; n <= 8; n++) {
            for (int pace = 1; pace <= 9; pace++) {
                due("one star", told("sky " + n + ";star 0 " + pace + " 1;").cycle(), n * pace);
            }
        }
        due("one within another's", told("sky 3;star 0 8 1;star 1 4 1;star 2 2 1;star 0 0 1;").cycle(), 24);
        due("the same pace twice", told("sky 5;star 0 7 1;star 3 7 1;").cycle(), 35);
        due("paces 6 and 9", told("sky 2;star 0 6 1;star 0 9 1;").cycle(), 36);
        due("the most of all", told("sky 8;star 0 9 1;star 0 8 1;star 0 7 1;star 0 5 1;star 0 0 1;").cycle(), 20160);
        due("the most, told the other way", told("sky 8;star 0 5 1;star 0 7 1;star 0 8 1;star 0 9 1;").cycle(), 20160);
    }

    private static void allAsAhead() {
        String[] texts = {"sky 2;star 0 1 1;star 1 3 1;", "sky 5;star 4 2 1;star 0 4 1;star 1 0 1;",
            "sky 8;star 0 3 1;star 7 6 1;", "sky 3;star 2 9 1;star 2 6 1;star 0 2 1;"};
        for (String text : texts) {
            SkyLeases x = told(text);
            int cycle = x.cycle();
            due("the fewest by " + text, fewestThatFit(x), cycle);
        }
    }

    private static int fewestThatFit(SkyLeases x) {
        // The places are asked once each, so that the calls stay few; no cycle here is beyond 60.
        int[][] places = new int[x.count(1)][120];
        for (int s = 0; s < places.length; s++) {
            for (int night = 0; night < 120; night++) {
                places[s][night] = x.star(s, night);
            }
        }
        for (int later = 1; later <= 60; later++) {
            boolean fits = true;
            for (int[] row : places) {
                for (int night = 0; night + later < 120; night++) {
                    fits &= row[night] == row[night + later];
                }
            }
            if (fits) {
                return later;
            }
        }
        return NONE;
    }

    private static void darkByLease() {
        SkyLeases x = told("sky 2;tenant 0;tenant 0;lease 0 0 1 10 20;lease 0 1 1 20 30;lease 0 0 2 99 99;lease 0 0 1 0 0;");
        due("no lease at all", x.dark(1, 0, 99), 0);
        due("all nights", x.dark(0, 0, 99), 23);
        due("night 0", x.dark(0, 0, 0), 1);
        due("night 99", x.dark(0, 99, 99), 1);
        due("ahead of it", x.dark(0, 1, 9), 0);
        due("its first night", x.dark(0, 1, 10), 1);
        due("two leases on one night", x.dark(0, 20, 20), 1);
        due("its last night", x.dark(0, 30, 98), 1);
        due("behind it", x.dark(0, 31, 98), 0);
    }

    private static void darkByStars() {
        // The star goes on each 9 nights: it is in squares 1 and 2 from night 9 to night 26.
        SkyLeases x = told("sky 4;star 0 9 1;tenant 0;tenant 0;lease 0 3 2 0 99;lease 1 0 2 0 99;");
        due("squares 3 and 0: nights 9 to 26", x.dark(0, 0, 35), 18);
        due("the night ahead", x.dark(0, 8, 8), 0);
        due("the first dark one", x.dark(0, 9, 9), 1);
        due("the last dark one", x.dark(0, 26, 26), 1);
        due("the night behind", x.dark(0, 27, 27), 0);
        due("square 0 is another's: square 1 alone", x.dark(1, 0, 35), 27);
        SkyLeases none = told("sky 2;star 0 0 1;star 1 0 1;tenant 0;tenant 0;lease 0 0 2 5 6;lease 1 0 2 6 7;");
        due("a lease, but no squares", none.dark(1, 0, 99), 1);
        due("stars in all of them", none.dark(0, 0, 99), 0);
    }

    private static void meetsTo99() {
        SkyLeases x = told("sky 2;star 0 0 1;star 1 1 1;tenant 0;tenant 0;lease 0 0 1 7 9;lease 1 0 1 99 99;");
        due("its first night", x.meets(0, 0, 0), 7);
        due("from it on", x.meets(0, 0, 7), 7);
        due("from the next on", x.meets(0, 0, 8), 8);
        due("from the last on", x.meets(0, 0, 9), 9);
        due("behind it", x.meets(0, 0, 10), NONE);
        due("on 99", x.meets(1, 0, 0), 99);
        due("on 99 from 99", x.meets(1, 0, 99), 99);
        due("on 99, another star", x.meets(1, 1, 0), 99);
        SkyLeases late = told("sky 8;star 0 9 1;star 0 0 1;tenant 0;lease 0 3 1 0 99;");
        due("next time round is night 99", late.meets(0, 0, 36), 99);
        due("never", late.meets(0, 1, 0), NONE);
        due("no lease", told("star 0 0 1;tenant 0;").meets(0, 0, 0), NONE);
    }

    private static void lettings() {
        says("OFFERS 0 .. (8 at most)", TermsTest::eightOffers);
        says("a TENANT, SQUARES (from one on, so many)", TermsTest::squaresOfAnOffer);
        says("a PRICE (1 .. 99)", TermsTest::prices);
        says("for NIGHTS F to U", TermsTest::nightsOfAnOffer);
        says("LETTING in winter (NIGHTS a to b)", TermsTest::nightsOfWinter);
        says("of all sets of OFFERS of which no two have a SQUARE on one NIGHT", TermsTest::noTwoOnOneNight);
        says("by which on each NIGHT of a to b", TermsTest::eachNightOfWinter);
        says("each TENANT of an OFFER in it that holds then has a STAR in its OFFERS' SQUARES", TermsTest::noneIsDark);
        says("that with the most PRICES together", TermsTest::mostPrices);
        says("of several the least bits", TermsTest::leastBits);
        says("(LEASES are not asked.)", TermsTest::leasesAreNotAsked);
    }

    private static void eightOffers() {
        SkyLeases x = told("sky 8;star 0 0 1;tenant 0;");
        for (int i = 0; i < 8; i++) {
            due("offer", x.offer(0, i, 1, 0, 99, 1 << Math.min(i, 6)), i);
        }
        due("a ninth", x.offer(0, 0, 1, 0, 99, 1), FULL);
        due("all of them", x.letting(0, 99, 1), 255);
        due("their prices", x.letting(0, 99, 0), 191);
        due("refuse", x.refuse(), 8);
        due("the first again", x.offer(0, 0, 1, 0, 99, 1), 0);
    }

    private static void squaresOfAnOffer() {
        for (int n = 2; n <= 8; n++) {
            for (int q = 0; q < n; q++) {
                SkyLeases x = told("sky " + n + ";star " + q + " 0 1;tenant 0;");
                for (int many = 1; many <= n; many++) {
                    x.refuse();
                    int first = (q + 1) % n;
                    due("offer", x.offer(0, first, many, 0, 99, 1), 0);
                    due(many + " from " + first + " on by " + n, x.letting(0, 99, 1), many == n ? 1 : 0);
                    x.refuse();
                    x.offer(0, (q + n - many + 1) % n, many, 0, 99, 1);
                    due(many + " up to " + q + " by " + n, x.letting(0, 99, 1), 1);
                }
                due("so many as none", x.offer(0, 0, 0, 0, 99, 1), BAD);
                due("more than all", x.offer(0, 0, n + 1, 0, 99, 1), BAD);
                due("from behind the last on", x.offer(0, n, 1, 0, 99, 1), BAD);
                due("from ahead of the first on", x.offer(0, -1, 1, 0, 99, 1), BAD);
            }
        }
        SkyLeases x = told("tenant 0;tenant 0;");
        due("the last tenant", x.offer(1, 0, 1, 0, 0, 1), 0);
        due("no such tenant", x.offer(2, 0, 1, 0, 0, 1), BAD);
        due("no such tenant", x.offer(-1, 0, 1, 0, 0, 1), BAD);
    }

    private static void nightsOfAnOffer() {
        // There is no star, so that an offer is let on those nights alone on which it does not hold.
        SkyLeases x = told("tenant 0;");
        int[][] nights = {{0, 0}, {0, 99}, {99, 99}, {7, 9}, {50, 50}};
        for (int[] night : nights) {
            x.refuse();
            due("offer", x.offer(0, 0, 1, night[0], night[1], 1), 0);
            for (int at : new int[] {0, night[0] - 1, night[0], night[1], night[1] + 1, 99}) {
                if (at >= 0 && at <= 99) {
                    due("let on " + at + ", from " + night[0] + " to " + night[1], x.letting(at, at, 1),
                        night[0] <= at && at <= night[1] ? 0 : 1);
                }
            }
        }
        int[][] wrong = {{-1, 0}, {-1, -1}, {0, 100}, {100, 100}, {1, 0}, {99, 98}};
        for (int[] night : wrong) {
            due("offer from " + night[0] + " to " + night[1], x.offer(0, 0, 1, night[0], night[1], 1), BAD);
        }
    }

    private static void nightsOfWinter() {
        SkyLeases x = told("star 0 0 1;tenant 0;");
        x.offer(0, 0, 1, 0, 99, 5);
        int[][] winters = {{0, 0}, {0, 99}, {99, 99}, {98, 99}, {50, 50}};
        for (int[] w : winters) {
            due("letting from " + w[0] + " to " + w[1], x.letting(w[0], w[1], 0), 5);
        }
        int[][] wrong = {{-1, 0}, {-1, -1}, {0, 100}, {100, 100}, {1, 0}, {99, 98}, {99, 0}};
        for (int[] w : wrong) {
            due("letting from " + w[0] + " to " + w[1], x.letting(w[0], w[1], 0), BAD);
            due("the set from " + w[0] + " to " + w[1], x.letting(w[0], w[1], 1), BAD);
        }
    }

    private static void prices() {
        SkyLeases x = told("star 0 0 1;tenant 0;");
        dueWithin("a price", v -> x.offer(0, 0, 1, 0, 0, v), 1, 99, BAD);
        due("two offers came", x.count(4), 2);
        due("99", x.letting(0, 0, 0), 99);
        x.refuse();
        x.offer(0, 0, 1, 0, 0, 1);
        due("1", x.letting(0, 0, 0), 1);
    }

    private static int letTogether(int n, int[] one, int[] other) {
        StringBuilder text = new StringBuilder("sky " + n + ";");
        for (int q = 0; q < n; q++) {
            text.append("star ").append(q).append(" 0 1;");
        }
        SkyLeases x = told(text + "tenant 0;tenant 0;");
        x.offer(0, one[0], one[1], one[2], one[3], 10);
        x.offer(1, other[0], other[1], other[2], other[3], 10);
        return x.letting(50, 50, 0);
    }

    private static void noTwoOnOneNight() {
        due("squares side by side", letTogether(4, new int[] {0, 2, 0, 9}, new int[] {2, 2, 0, 9}), 20);
        due("one square of both", letTogether(4, new int[] {0, 3, 0, 9}, new int[] {2, 2, 0, 9}), 10);
        due("round to the first", letTogether(4, new int[] {0, 1, 0, 9}, new int[] {3, 2, 0, 9}), 10);
        due("round, side by side", letTogether(4, new int[] {1, 2, 0, 9}, new int[] {3, 2, 0, 9}), 20);
        due("both round", letTogether(8, new int[] {6, 3, 0, 9}, new int[] {7, 2, 0, 9}), 10);
        due("all round", letTogether(8, new int[] {5, 8, 0, 9}, new int[] {4, 1, 0, 9}), 10);
        due("nights side by side", letTogether(2, new int[] {0, 2, 0, 9}, new int[] {0, 2, 10, 19}), 20);
        due("one night of both", letTogether(2, new int[] {0, 2, 0, 9}, new int[] {0, 2, 9, 19}), 10);
        due("one night of both, the other way", letTogether(2, new int[] {0, 2, 9, 19}, new int[] {0, 2, 0, 9}), 10);
        due("night 99", letTogether(2, new int[] {0, 1, 99, 99}, new int[] {0, 1, 60, 99}), 10);
        due("night 0", letTogether(2, new int[] {0, 1, 0, 0}, new int[] {0, 1, 0, 40}), 10);
        due("one within another", letTogether(2, new int[] {0, 1, 5, 6}, new int[] {0, 1, 0, 40}), 10);
        SkyLeases own = told("sky 2;star 0 0 1;tenant 0;");
        own.offer(0, 0, 1, 0, 9, 5);
        own.offer(0, 0, 1, 9, 12, 6);
        due("two of one tenant", own.letting(0, 99, 1), 2);
    }

    private static void eachNightOfWinter() {
        // The star is in square 0 to night 8, in square 1 from 9 to 17, and in square 0 again from 18 on.
        SkyLeases x = told("sky 2;star 0 9 1;tenant 0;");
        x.offer(0, 1, 1, 0, 30, 5);
        due("winter is when it is there", x.letting(9, 17, 0), 5);
        due("a night too early", x.letting(8, 17, 0), 0);
        due("a night too late", x.letting(9, 18, 0), 0);
        due("one night", x.letting(17, 17, 0), 5);
        due("from night 0", x.letting(0, 0, 0), 0);
        due("behind the offer's nights", x.letting(31, 99, 0), 5);
        due("its last night", x.letting(30, 99, 0), 5);
        due("night 99", x.letting(99, 99, 0), 5);
        due("all nights", x.letting(0, 99, 0), 0);
    }

    private static void noneIsDark() {
        SkyLeases x = told("sky 4;star 0 0 1;tenant 0;tenant 0;");
        x.offer(0, 1, 1, 0, 20, 50);
        due("dark alone", x.letting(0, 20, 1), 0);
        due("it does not hold then", x.letting(21, 99, 1), 1);
        x.offer(0, 0, 1, 5, 9, 1);
        due("lit by another of its offers", x.letting(5, 9, 1), 3);
        due("that does not hold on 4", x.letting(4, 9, 1), 2);
        due("that does not hold on 10", x.letting(5, 10, 1), 2);
        x.refuse();
        x.offer(0, 1, 1, 0, 20, 50);
        x.offer(1, 0, 1, 0, 20, 1);
        due("another's offer does not light it", x.letting(0, 20, 1), 2);
        SkyLeases none = told("tenant 0;");
        none.offer(0, 0, 4, 0, 0, 9);
        due("no stars", none.letting(0, 0, 1), 0);
        due("no stars, but it does not hold", none.letting(1, 1, 1), 1);
        SkyLeases round = told("sky 8;star 0 0 1;tenant 0;");
        round.offer(0, 7, 2, 0, 99, 9);
        due("a star behind the last square", round.letting(0, 99, 1), 1);
    }

    private static void mostPrices() {
        SkyLeases x = told("sky 3;star 0 0 1;star 1 0 1;star 2 0 1;tenant 0;tenant 0;tenant 0;");
        due("no offers", x.letting(0, 99, 0), 0);
        due("the empty set", x.letting(0, 99, 1), 0);
        x.offer(0, 0, 3, 0, 99, 20);
        x.offer(1, 0, 1, 0, 99, 10);
        x.offer(1, 1, 1, 0, 99, 9);
        due("20 is more than 19", x.letting(0, 99, 1), 1);
        x.offer(2, 2, 1, 0, 99, 2);
        due("21 is more than 20", x.letting(0, 99, 1), 14);
        due("21", x.letting(0, 99, 0), 21);
    }

    private static void leastBits() {
        SkyLeases x = told("sky 3;star 0 0 1;star 1 0 1;star 2 0 1;tenant 0;");
        for (int i = 0; i < 8; i++) {
            x.offer(0, 0, 3, 0, 99, 7);
        }
        due("of eight the first", x.letting(0, 99, 1), 1);
        x.refuse();
        x.offer(0, 0, 1, 0, 99, 3);
        x.offer(0, 1, 1, 0, 99, 4);
        x.offer(0, 0, 2, 0, 99, 7);
        due("3 is less than 4", x.letting(0, 99, 1), 3);
        x.refuse();
        x.offer(0, 0, 2, 0, 99, 7);
        x.offer(0, 0, 1, 0, 99, 3);
        x.offer(0, 1, 1, 0, 99, 4);
        due("1 is less than 6", x.letting(0, 99, 1), 1);
    }

    private static void leasesAreNotAsked() {
        SkyLeases x = told("sky 2;star 0 0 1;tenant 0;tenant 0;lease 1 0 2 0 99;lease 0 0 2 0 99;");
        x.offer(0, 0, 1, 0, 99, 9);
        due("another's lease has the square", x.letting(0, 99, 1), 1);
        x.refuse();
        x.offer(0, 1, 1, 0, 99, 9);
        due("its own lease has the star", x.letting(0, 99, 1), 0);
    }

    private static void seenAndOdds() {
        says("SEEN (8 at most): a STAR was in a SQUARE.", TermsTest::eightSeen);
        says("DATES: NIGHTS 0 .. 999 on which all is so: how many; the first; NONE.", TermsTest::datesTo999);
        says("ODDS of a TENANT by m NIGHTS (1 .. 3)", TermsTest::oddsNights);
        says("a RENT k (0 .. 99)", TermsTest::oddsRent);
        says("CLOUDS over each SQUARE as likely each NIGHT, from NOW on", TermsTest::oddsFromNow);
        says("that it is brought k or more: a fraction", TermsTest::oddsOrMore);
        says("(NIGHTS beyond 99, too)", TermsTest::oddsBeyond99);
    }

    private static void eightSeen() {
        SkyLeases x = told("sky 2;star 0 0 1;star 1 0 1;");
        for (int i = 1; i <= 8; i++) {
            due("saw", x.saw(i % 2, i % 2), i);
        }
        due("a ninth", x.saw(0, 0), FULL);
        due("dates(0)", x.dates(0), 1000);
        due("forget", x.forget(), 8);
        for (int i = 1; i <= 7; i++) {
            x.saw(0, 0);
        }
        due("the eighth", x.saw(1, 0), 8);
        due("the eighth is asked, too", x.dates(0), 0);
    }

    private static void datesTo999() {
        int[] paces = {1, 5, 7, 8, 9};
        int[] nights = {0, 1, 500, 998, 999, 1000};
        for (int night : nights) {
            SkyLeases x = told("sky 8;star 0 1 1;star 0 5 1;star 0 7 1;star 0 8 1;star 0 9 1;");
            for (int s = 0; s < paces.length; s++) {
                x.saw(s, night / paces[s] % 8);
            }
            // The stars stand so again after 20160 nights only.
            due("dates(0) of night " + night, x.dates(0), night < 1000 ? 1 : 0);
            due("dates(1) of night " + night, x.dates(1), night < 1000 ? night : NONE);
        }
        SkyLeases y = told("sky 4;star 0 1 1;star 2 0 1;");
        due("nothing seen", y.dates(0), 1000);
        due("nothing seen, the first", y.dates(1), 0);
        y.saw(0, 3);
        due("each fourth night", y.dates(0), 250);
        due("the first", y.dates(1), 3);
        y.saw(0, 2);
        due("two squares at once", y.dates(0), 0);
        due("two squares at once, the first", y.dates(1), NONE);
        y.forget();
        y.saw(1, 1);
        due("it stays elsewhere", y.dates(1), NONE);
    }

    private static SkyLeases twoStars() {
        return told("sky 2;star 0 0 3;star 1 0 5;tenant 0;tenant 0;lease 0 0 2 0 99;");
    }

    private static void dueOdds(SkyLeases x, int t, int m, int k, int upper, int lower) {
        String call = "odds(" + t + ", " + m + ", " + k + ", ";
        due(call + "0)", x.odds(t, m, k, 0), upper);
        due(call + "1)", x.odds(t, m, k, 1), lower);
    }

    private static void oddsNights() {
        SkyLeases x = twoStars();
        dueWithin("odds by m", m -> x.odds(0, m, 0, 0), 1, 3, BAD);
        // Each night brings 3 or 5.
        dueOdds(x, 0, 1, 5, 1, 2);
        dueOdds(x, 0, 2, 8, 3, 4);
        dueOdds(x, 0, 2, 10, 1, 4);
        dueOdds(x, 0, 3, 11, 7, 8);
        dueOdds(x, 0, 3, 13, 1, 2);
        dueOdds(x, 0, 3, 15, 1, 8);
    }

    private static void oddsRent() {
        SkyLeases x = twoStars();
        dueWithin("odds by k", k -> x.odds(0, 1, k, 0), 0, 99, BAD);
        dueOdds(x, 0, 3, 0, 1, 1);
        dueOdds(x, 1, 1, 0, 1, 1);
        dueOdds(x, 1, 3, 1, 0, 1);
        dueOdds(x, 0, 3, 99, 0, 1);
        StringBuilder text = new StringBuilder("sky 8;");
        for (int s = 0; s < 4; s++) {
            text.append("star 0 0 9;");
        }
        SkyLeases many = told(text + "tenant 0;lease 0 0 8 0 99;");
        // Three nights bring 108, if none is under the cloud.
        dueOdds(many, 0, 3, 99, 343, 512);
        dueOdds(many, 0, 3, 72, 245, 256);
    }

    private static void oddsFromNow() {
        SkyLeases x = told("sky 3;star 0 1 4;tenant 0;lease 0 0 1 0 99;");
        int[] chances = {2, 0, 0, 2, 0, 0};
        for (int night = 0; night < chances.length; night++) {
            dueOdds(x, 0, 1, 4, chances[night], chances[night] == 0 ? 1 : 3);
            x.night();
        }
        dueOdds(x, 0, 3, 4, 2, 3);
        for (int n = 2; n <= 8; n++) {
            SkyLeases ring = told("sky " + n + ";star 0 0 1;tenant 0;lease 0 0 1 0 99;");
            dueOdds(ring, 0, 1, 1, n - 1, n);
            dueOdds(ring, 0, 3, 3, (n - 1) * (n - 1) * (n - 1), n * n * n);
            dueOdds(ring, 0, 3, 1, n * n * n - 1, n * n * n);
        }
    }

    private static void oddsOrMore() {
        SkyLeases x = twoStars();
        dueOdds(x, 0, 1, 2, 1, 1);
        dueOdds(x, 0, 1, 3, 1, 1);
        dueOdds(x, 0, 1, 4, 1, 2);
        dueOdds(x, 0, 1, 5, 1, 2);
        dueOdds(x, 0, 1, 6, 0, 1);
        x.begins(1, 0, 2, 0, 99);
        dueOdds(x, 1, 1, 1, 0, 1);
    }

    private static void oddsBeyond99() {
        SkyLeases x = twoStars();
        pass(x, 97);
        dueOdds(x, 0, 3, 15, 1, 8);
        x.night();
        dueOdds(x, 0, 3, 15, 0, 1);
        dueOdds(x, 0, 3, 10, 1, 4);
        x.night();
        dueOdds(x, 0, 1, 5, 1, 2);
        dueOdds(x, 0, 2, 5, 1, 2);
        dueOdds(x, 0, 3, 5, 1, 2);
        dueOdds(x, 0, 3, 6, 0, 1);
        dueOdds(x, 0, 3, 3, 1, 1);
    }

    // ---- 4

    private static void kindsAndImages() {
        says("0 TENANT; 1 COBBLER, 2 WIDOW, 5 SHEPHERD (each under TENANT); 3 HEIR (under COBBLER); 4 ABBESS (under WIDOW).",
            TermsTest::sixKinds);
        says("(numbers in brackets are added to THE TRACE, 0 at first, as often as rate() asks that body",
            TermsTest::traceOfEachKind);
        says("TENANT its PURSE (1).", TermsTest::tenants);
        says("COBBLER up, and how many LEASES it has (10).", TermsTest::cobblers);
        says("WIDOW up less SQUARES that are its on this NIGHT (100).", TermsTest::widows);
        says("HEIR twice up (1000).", TermsTest::heirs);
        says("ABBESS up, and its number (10000).", TermsTest::abbesses);
        says("SHEPHERD up, and the NIGHT (100000).", TermsTest::shepherds);
        says("IMAGES 0, 1 keep NOW (NIGHT, PURSES, LEASES, what may be UNDONE, THE LOT); nothing else.",
            TermsTest::imagesKeepNow);
        says("(Read anew: NIGHT 0, as told, no OFFERS, nothing SEEN or to be UNDONE, IMAGES are gone; THE LOT stays.)",
            TermsTest::readAnew);
        says("BAD (a number is not as told, or there is no such thing), STATE (as told), FULL.", TermsTest::firstOfThese);
        says("public static final int BAD = -1, STATE = -2, FULL = -3, NONE = -9;", () -> {
            due("BAD", SkyLeases.BAD, BAD);
            due("STATE", SkyLeases.STATE, STATE);
            due("FULL", SkyLeases.FULL, FULL);
            due("NONE", SkyLeases.NONE, NONE);
        });
        says("`NO = -1000000`: What none is, where a number may be below 0.", TermsTest::belowZero);
    }

    private static void sixKinds() {
        SkyLeases x = told("tenant 40;tenant 50;lease 1 0 3 0 99;lease 1 3 1 5 5;");
        x.night();
        int[] rates = {50, 52, 47, 104, 48, 51};
        for (int kind = 0; kind < 6; kind++) {
            due("rate(" + kind + ", 1)", x.rate(kind, 1), rates[kind]);
        }
        for (int wrong : new int[] {-1, 6, Integer.MIN_VALUE, Integer.MAX_VALUE}) {
            due("rate(" + wrong + ", 1)", x.rate(wrong, 1), NO);
        }
    }

    private static void traceOfEachKind() {
        int[] asked = {1, 11, 101, 1011, 10101, 100001};
        SkyLeases all = told("tenant 0;");
        due("at first", all.trace(), 0);
        long sum = 0;
        for (int kind = 0; kind < 6; kind++) {
            SkyLeases x = told("tenant 0;");
            x.rate(kind, 0);
            due("kind " + kind, x.trace(), asked[kind]);
            x.rate(kind, 0);
            due("kind " + kind + " twice", x.trace(), 2 * asked[kind]);
            x.rate(kind, 1);
            x.rate(-1, 0);
            x.rate(6, 0);
            due("refused ones ask none", x.trace(), 2 * asked[kind]);
            all.rate(kind, 0);
            sum += asked[kind];
            due("all up to " + kind, all.trace(), sum);
        }
    }

    private static void tenants() {
        due("0", told("tenant 0;").rate(0, 0), 0);
        due("99", told("tenant 99;").rate(0, 0), 99);
        SkyLeases x = twoStars();
        x.night();
        due("what was brought, too", x.rate(0, 0), x.purse(0));
    }

    private static void cobblers() {
        SkyLeases x = told("tenant 5;tenant 7;" + "lease 1 0 4 50 60;".repeat(9));
        due("none", x.rate(1, 0), 5);
        due("nine, none of them on this night", x.rate(1, 1), 16);
        x.begins(1, 0, 4, 0, 0);
        due("ten", x.rate(1, 1), 17);
        x.ends(0);
        due("nine", x.rate(1, 1), 16);
    }

    private static void widows() {
        SkyLeases x = told("sky 8;tenant 3;tenant 3;tenant 3;lease 0 7 2 0 0;lease 0 0 1 0 0;lease 1 6 8 0 1;lease 2 0 8 0 99;");
        due("a square of two leases is one", x.rate(2, 0), 1);
        due("what is another's is not its", x.rate(2, 1), -3);
        due("none is its", x.rate(2, 2), 3);
        x.night();
        due("no lease on this night", x.rate(2, 0), 3);
        due("all eight", x.rate(2, 1), -5);
        x.night();
        due("all eight", x.rate(2, 2), -5);
    }

    private static void heirs() {
        due("twice 0", told("tenant 0;").rate(3, 0), 0);
        due("twice 99 and 10", told("tenant 99;" + "lease 0 0 1 0 0;".repeat(10)).rate(3, 0), 218);
    }

    private static void abbesses() {
        SkyLeases x = told("sky 8;" + "tenant 0;".repeat(4) + "lease 3 0 8 0 99;");
        for (int t = 0; t < 3; t++) {
            due("rate(4, " + t + ")", x.rate(4, t), t);
        }
        due("rate(4, 3)", x.rate(4, 3), -5);
    }

    private static void shepherds() {
        SkyLeases x = told("tenant 9;");
        due("night 0", x.rate(5, 0), 9);
        pass(x, 99);
        due("night 99", x.rate(5, 0), 108);
    }

    private static void imagesKeepNow() {
        SkyLeases x = told("sky 2;star 0 0 1;star 1 0 1;tenant 5;lease 0 0 2 0 99;lease 0 0 2 0 50;");
        x.ends(1);
        x.lot(77);
        x.keep(0);
        x.night();
        x.begins(0, 0, 1, 0, 60);
        x.begins(0, 0, 1, 0, 70);
        x.offer(0, 0, 1, 0, 0, 1);
        x.saw(0, 0);
        x.rate(0, 0);
        x.type('z', 1);
        x.keep(1);
        due("back(0)", x.back(0), 0);
        due("purse(0)", x.purse(0), 5);
        dueLastNights(x, "as image 0 has it", 99);
        due("count(7)", x.count(7), 1);
        due("undo()", x.undo(), 2);
        dueLastNights(x, "as image 0 knows it", 99, 50);
        due("the lot", x.lot(0), 77);
        due("offers stay", x.count(4), 1);
        due("seen stays", x.count(5), 1);
        due("the text stays", x.count(8), 1);
        due("the trace stays", x.trace(), 1);
        due("back(1)", x.back(1), 1);
        due("purse(0)", x.purse(0), 6);
        dueLastNights(x, "as image 1 has it", 99, 60, 70);
        due("count(7)", x.count(7), 3);
        due("the lot", x.lot(0), 77 * 1103515245 + 12345);
        due("back(0) a second time", x.back(0), 0);
        dueLastNights(x, "as image 0 has it still", 99);
        due("the lot", x.lot(0), 77);
        due("image 0 is kept again", x.keep(0), 0);
        x.back(0);
        due("the lot that was kept last", x.lot(0), 0);
    }

    private static void readAnew() {
        SkyLeases x = told("sky 8;star 0 0 9;star 1 1 9;tenant 5;tenant 6;lease 0 0 8 0 99;");
        x.night();
        x.begins(1, 0, 1, 0, 0);
        x.offer(0, 0, 1, 0, 99, 9);
        x.saw(0, 1);
        x.keep(0);
        x.keep(1);
        x.lot(-5);
        typeAll(x, "star 3 0 1;tenant 42;lease 0 0 1 0 33;");
        due("sky()", x.sky(), 3);
        int[] counts = {4, 1, 1, 1, 0, 0, 0, 0, 0};
        for (int what = 0; what < counts.length; what++) {
            due("count(" + what + ")", x.count(what), counts[what]);
        }
        due("purse(0)", x.purse(0), 42);
        dueLastNights(x, "as told", 33);
        due("star(0, 99)", x.star(0, 99), 3);
        due("letting", x.letting(0, 99, 0), 0);
        due("dates(0)", x.dates(0), 1000);
        due("undo()", x.undo(), STATE);
        due("back(0)", x.back(0), STATE);
        due("back(1)", x.back(1), STATE);
        due("the lot", x.lot(0), -5);
        x.keep(0);
        // More than one reading, so that nothing of an older sky comes up again.
        for (int i = 0; i < 3; i++) {
            due("sky() of an empty text", x.sky(), 0);
            due("by an empty text, too", x.back(0), STATE);
            for (int what = 0; what < counts.length; what++) {
                due("count(" + what + ") of an empty text", x.count(what), what == 0 ? 4 : 0);
            }
        }
        typeAll(x, "sky 7;star 6 1 1;tenant 1;lease 0 0 1 0 0;?");
        due("a fault", x.sky(), -10 - 42);
        x.clear();
        due("sky() of an empty text", x.sky(), 0);
        for (int what = 0; what < counts.length; what++) {
            due("count(" + what + ") behind a fault", x.count(what), what == 0 ? 4 : 0);
        }
    }

    private static void firstOfThese() {
        SkyLeases x = told("tenant 0;star 0 0 1;" + "lease 0 0 1 0 0;".repeat(10));
        for (int i = 0; i < 8; i++) {
            x.offer(0, 0, 1, 0, 0, 1);
            x.saw(0, 0);
        }
        typeAll(x, " ".repeat(300));
        due("type: BAD ahead of FULL", x.type(0, 9), BAD);
        due("type: FULL", x.type(0, 8), FULL);
        due("begins: BAD ahead of FULL", x.begins(1, 0, 1, 0, 0), BAD);
        due("begins: FULL", x.begins(0, 0, 1, 0, 0), FULL);
        due("offer: BAD ahead of FULL", x.offer(0, 0, 1, 0, 0, 100), BAD);
        due("offer: FULL", x.offer(0, 0, 1, 0, 0, 99), FULL);
        due("saw: BAD ahead of FULL", x.saw(0, 4), BAD);
        due("saw: FULL", x.saw(0, 3), FULL);
        due("back: BAD ahead of STATE", x.back(2), BAD);
        due("back: STATE", x.back(1), STATE);
    }

    private static void belowZero() {
        due("NO", SkyLeases.NO, -1000000);
        SkyLeases x = told("tenant 0;lease 0 0 1 0 99;tenant 0;lease 1 1 2 0 99;");
        due("a rate of -1 is none that is refused", x.rate(2, 0), -1);
        due("a rate of -2 is none that is refused", x.rate(2, 1), -2);
        due("refused", x.rate(2, 2), NO);
    }
}
