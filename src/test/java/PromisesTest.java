/** For each promise: ordinary calls, the edges that the document names, and wrong calls. */
public final class PromisesTest extends Checks {
    private static final int[] WRONG_NUMBERS = {-1, Integer.MIN_VALUE, Integer.MAX_VALUE};

    private static void dueRefusedText(String text, int place) {
        SkyLeases x = told("sky 5;star 2 1 3;tenant 7;lease 0 1 2 3 4;");
        x.night();
        x.saw(0, 1);
        x.offer(0, 0, 1, 0, 0, 5);
        x.begins(0, 0, 1, 0, 0);
        x.keep(1);
        typeAll(x, text);
        due("sky() of '" + text + "'", x.sky(), -10 - place);
        String after = " after the fault of '" + text + "'";
        int[] counts = {5, 1, 1, 2, 1, 1, 1, 1, text.length()};
        for (int what = 0; what < counts.length; what++) {
            due("count(" + what + ")" + after, x.count(what), counts[what]);
        }
        due("lease(0, 4)" + after, x.lease(0, 4), 4);
        due("back(1)" + after, x.back(1), 1);
    }

    public static void main(String[] args) {
        newObject();
        type();
        clear();
        skyTells();
        skyRefuses();
        skyReadAnew();
        star();
        lease();
        whoseAndClaims();
        cycle();
        night();
        cloudsOfAnUnsignedLot();
        purse();
        begins();
        ends();
        undo();
        lot();
        dark();
        meets();
        offerAndRefuse();
        letting();
        lettingOfEqualPrices();
        lettingByNight();
        sawAndForget();
        dates();
        odds();
        rateAndTrace();
        images();
        count();
        allAtItsMost();
        end();
    }

    private static void newObject() {
        SkyLeases x = new SkyLeases();
        int[] counts = {4, 0, 0, 0, 0, 0, 0, 0, 0};
        for (int what = 0; what < counts.length; what++) {
            due("new: count(" + what + ")", x.count(what), counts[what]);
        }
        due("new: trace", x.trace(), 0);
        due("new: back(0)", x.back(0), STATE);
        due("new: undo", x.undo(), STATE);
        due("new: cycle", x.cycle(), 1);
        due("new: star", x.star(0, 0), BAD);
        due("new: purse", x.purse(0), BAD);
        due("new: lease", x.lease(0, 0), BAD);
        due("new: whose(3, 99)", x.whose(3, 99), NONE);
        due("new: whose(4, 0)", x.whose(4, 0), BAD);
        due("new: lot", x.lot(7), 1);
    }

    private static void type() {
        SkyLeases x = new SkyLeases();
        for (int n : new int[] {0, -1, 9, Integer.MIN_VALUE, Integer.MAX_VALUE}) {
            due("type(0, " + n + ")", x.type(0, n), BAD);
        }
        due("type one", x.type(0x7374617220302030L, 1), 1);
        due("only the lowest byte came", x.sky(), -10 - 0);
        due("clear", x.clear(), 1);
        due("type the highest first", x.type(0x736b79L, 3), 3);
        due("type more bytes than are asked", x.type(0x7777777777777777L << 24 | 0x20353bL, 3), 6);
        due("sky 5;", x.sky(), 1);
        due("squares", x.count(0), 5);

        for (int i = 1; i <= 37; i++) {
            due("fill", x.type(0x2020202020202020L, 8), 8 * i);
        }
        due("5 beyond 296", x.type(0, 5), FULL);
        due("wrong ahead of full", x.type(0, 9), BAD);
        due("nothing came", x.count(8), 296);
        due("up to 300", x.type(0x20202020L, 4), 300);
        due("one beyond", x.type(0x20L, 1), FULL);
        due("blanks alone tell nothing", x.sky(), 0);
        due("and are gone", x.count(8), 0);
        due("a negative v", x.type(-1L, 8), 8);
    }

    private static void clear() {
        SkyLeases x = new SkyLeases();
        due("clear of none", x.clear(), 0);
        typeAll(x, "sky 2;star");
        due("clear", x.clear(), 10);
        due("clear again", x.clear(), 0);
        due("nothing is told", x.sky(), 0);
        due("squares", x.count(0), 4);
    }

    private static void skyTells() {
        due("items", readOf("sky 2;star 1 9 9;tenant 99;lease 0 1 2 99 99;"), 4);
        due("blanks everywhere", readOf("  sky   8 ; star  7 0  1  ;  "), 2);
        due("no blanks where none are needed", readOf("sky2;tenant5;"), 2);
        due("stars ahead of no sky", readOf("star 3 0 1;"), 1);
        StringBuilder most = new StringBuilder("sky 8;");
        for (int i = 0; i < 8; i++) {
            most.append("star 0 0 1;");
        }
        for (int i = 0; i < 4; i++) {
            most.append("tenant 0;");
        }
        for (int i = 0; i < 10; i++) {
            most.append("lease 3 0 1 0 0;");
        }
        String text = most.toString();
        due("most of all", readOf(text), 23);
        SkyLeases x = told(text);
        due("8 squares", x.count(0), 8);
        due("8 stars", x.count(1), 8);
        due("4 tenants", x.count(2), 4);
        due("10 leases", x.count(3), 10);
        due("a told lease can't be undone", x.undo(), STATE);
    }

    private static void skyRefuses() {
        dueRefusedText("sky 1;", 4);
        dueRefusedText("sky 9;", 4);
        dueRefusedText("sky;", 3);
        dueRefusedText("sky 4", 5);
        dueRefusedText("sky 4  ", 7);
        dueRefusedText("sky 4;sky 4;", 6);
        dueRefusedText("tenant 1;sky 4;", 9);
        dueRefusedText("sky 4 4;", 6);
        dueRefusedText(";", 0);
        dueRefusedText("sky 4;;", 6);
        dueRefusedText("4", 0);
        dueRefusedText("  4", 2);
        dueRefusedText("sky 4;skies", 6);
        dueRefusedText("skyz 4;", 0);
        dueRefusedText("zky 4;", 0);
        dueRefusedText("`ky 4;", 0);
        dueRefusedText("{", 0);
        dueRefusedText("tenant :;", 7);
        dueRefusedText("tenant /;", 7);
        dueRefusedText(" ".repeat(292) + "tenant 9", 300);
        dueRefusedText(" ".repeat(296) + "star", 300);
        dueRefusedText(" ".repeat(299) + "x", 299);
        dueRefusedText("Sky 4;", 0);
        dueRefusedText("sk", 0);
        dueRefusedText("sky\t4;", 3);
        dueRefusedText("sky -4;", 4);
        dueRefusedText("sky 4.;", 5);
        dueRefusedText("tenant " + (char) 0 + ";", 7);
        dueRefusedText("tenant " + (char) 255 + ";", 7);
        dueRefusedText("star 4 0 1;", 5);
        dueRefusedText("sky 2;star 2 0 1;", 11);
        dueRefusedText("star 0 10 1;", 7);
        dueRefusedText("star 0 9 0;", 9);
        dueRefusedText("star 0 9 10;", 9);
        dueRefusedText("star 0 9;", 8);
        dueRefusedText("star 0 9 1 1;", 11);
        dueRefusedText("star 0 9 1 star", 11);
        dueRefusedText("star", 4);
        dueRefusedText("star 0", 6);
        dueRefusedText("star 0 1 1", 10);
        dueRefusedText("tenant 100;", 7);
        dueRefusedText("tenant 00;", 7);
        dueRefusedText("tenant 09;", 7);
        dueRefusedText("tenant 4294967296;", 7);
        dueRefusedText("tenant 18446744073709551617;", 7);
        dueRefusedText("tenant 100", 7);
        dueRefusedText("tenant 1x;", 8);
        dueRefusedText("lease 0 0 1 0 0;tenant 5;", 6);
        dueRefusedText("tenant 5;lease 1 0 1 0 0;", 15);
        dueRefusedText("tenant 5;lease 0 4 1 0 0;", 17);
        dueRefusedText("tenant 5;lease 0 3 0 0 0;", 19);
        dueRefusedText("tenant 5;lease 0 3 5 0 0;", 19);
        dueRefusedText("tenant 5;lease 0 3 4 100 0;", 21);
        dueRefusedText("tenant 5;lease 0 3 4 99 98;", 24);
        dueRefusedText("tenant 5;lease 0 3 4 0;", 22);
        dueRefusedText("tenant 5;tenant 5;tenant 5;tenant 5;tenant 5;", 36);
        dueRefusedText("star 0 0 1;".repeat(8) + "star 9", 88);
        dueRefusedText("tenant 0;" + "lease 0 0 1 0 0;".repeat(10) + "lease x", 169);
    }

    private static void skyReadAnew() {
        SkyLeases x = told("sky 5;star 2 1 3;tenant 7;lease 0 1 3 0 99;");
        x.night();
        x.night();
        x.begins(0, 0, 1, 0, 0);
        x.offer(0, 0, 1, 0, 0, 9);
        x.saw(0, 1);
        x.rate(0, 0);
        x.keep(0);
        x.keep(1);
        int lot = x.lot(77);
        due("two nights' lot", lot, -1770082073);
        typeAll(x, "tenant 8;lease 0 3 1 5 6;lease 0 2 1 5 6;");
        due("read anew", x.sky(), 3);
        int[] counts = {4, 0, 1, 2, 0, 0, 0, 0, 0};
        for (int what = 0; what < counts.length; what++) {
            due("anew: count(" + what + ")", x.count(what), counts[what]);
        }
        due("anew: purse", x.purse(0), 8);
        due("anew: lease", x.lease(1, 1), 2);
        due("anew: back(0)", x.back(0), STATE);
        due("anew: back(1)", x.back(1), STATE);
        due("anew: undo", x.undo(), STATE);
        due("anew: dates", x.dates(0), 1000);
        due("anew: trace stays", x.trace(), 1);
        due("anew: the lot stays", x.lot(0), 77);
        due("anew: no text", x.sky(), 0);
        due("anew: no tenants", x.count(2), 0);
        due("anew: no leases", x.count(3), 0);

        typeAll(x, "sky 7;star 6 0 1;tenant 5;lease 0 0 7 0 0;lease");
        due("a fault behind right items", x.sky(), -57);
        x.clear();
        typeAll(x, "star 3 0 2;");
        due("nothing of it is left", x.sky(), 1);
        counts = new int[] {4, 1, 0, 0, 0, 0, 0, 0, 0};
        for (int what = 0; what < counts.length; what++) {
            due("after a fault: count(" + what + ")", x.count(what), counts[what]);
        }
        due("the star is the new one", x.star(0, 0), 3);

        typeAll(x, "tenant 123");
        x.clear();
        typeAll(x, "tenant 1");
        due("bytes that were cleared are not read", x.sky(), -18);
        due("it goes on behind", typeAll(x, "2;"), 10);
        due("sky", x.sky(), 1);
        due("purse", x.purse(0), 12);
        due("a text of 300 bytes", readOf(" ".repeat(291) + "tenant 9;"), 1);
    }

    private static void star() {
        SkyLeases x = told("sky 3;star 2 0 1;star 1 1 1;star 0 9 1;");
        due("pace 0 stays", x.star(0, 999), 2);
        due("pace 1", x.star(1, 0), 1);
        due("pace 1 on", x.star(1, 1), 2);
        due("pace 1 round", x.star(1, 2), 0);
        due("pace 1 far", x.star(1, 999), 1);
        due("pace 9 before it goes on", x.star(2, 8), 0);
        due("pace 9 on", x.star(2, 9), 1);
        due("pace 9 far", x.star(2, 999), 0);
        for (int wrong : new int[] {-1, 3, Integer.MIN_VALUE, Integer.MAX_VALUE}) {
            due("no such star", x.star(wrong, 0), BAD);
        }
        for (int wrong : new int[] {-1, 1000, Integer.MIN_VALUE, Integer.MAX_VALUE}) {
            due("no such night", x.star(0, wrong), BAD);
        }
    }

    private static void lease() {
        SkyLeases x = told("sky 6;tenant 1;tenant 2;lease 1 5 4 7 98;lease 0 0 1 0 0;");
        int[] parts = {1, 5, 4, 7, 98};
        for (int what = 0; what < parts.length; what++) {
            due("lease(0, " + what + ")", x.lease(0, what), parts[what]);
        }
        due("lease(1, 2)", x.lease(1, 2), 1);
        for (int wrong : WRONG_NUMBERS) {
            due("no such lease", x.lease(wrong, 0), BAD);
            due("no such part", x.lease(0, wrong), BAD);
        }
        due("a third lease", x.lease(2, 0), BAD);
        due("a sixth part", x.lease(0, 5), BAD);
    }

    private static void whoseAndClaims() {
        SkyLeases x = told("sky 5;tenant 1;tenant 2;tenant 3;lease 2 4 2 10 20;lease 1 0 5 15 30;lease 0 3 1 0 99;");
        due("round the ring", x.whose(0, 10), 2);
        due("its first square", x.whose(4, 10), 2);
        due("behind it", x.whose(1, 10), NONE);
        due("ahead of it", x.whose(3, 10), 0);
        due("before the first night", x.whose(4, 9), NONE);
        due("on the last night", x.whose(4, 20), 2);
        due("the second told", x.whose(4, 21), 1);
        due("the first told", x.whose(0, 15), 2);
        due("after all", x.whose(4, 31), NONE);
        due("claims none", x.claims(1, 10), 0);
        due("claims on night 0", x.claims(3, 0), 1);
        due("claims on night 99", x.claims(3, 99), 1);
        due("claims one", x.claims(3, 10), 1);
        due("claims two", x.claims(3, 15), 2);
        due("claims two too", x.claims(0, 20), 2);
        due("night 99", x.whose(3, 99), 0);
        for (int wrong : new int[] {-1, 5, Integer.MIN_VALUE, Integer.MAX_VALUE}) {
            due("whose of no square", x.whose(wrong, 0), BAD);
            due("claims of no square", x.claims(wrong, 0), BAD);
        }
        for (int wrong : new int[] {-1, 100, Integer.MIN_VALUE, Integer.MAX_VALUE}) {
            due("whose on no night", x.whose(0, wrong), BAD);
            due("claims on no night", x.claims(0, wrong), BAD);
        }
    }

    private static void cycle() {
        due("stars that stay", told("star 0 0 1;star 1 0 1;").cycle(), 1);
        due("one star", told("sky 5;star 0 3 1;").cycle(), 15);
        due("4 and 6", told("sky 2;star 0 4 1;star 0 6 1;star 1 0 1;").cycle(), 24);
        due("the same pace", told("sky 7;star 0 9 1;star 3 9 1;").cycle(), 63);
        due("5 7 8 9", told("sky 8;star 0 5 1;star 0 7 1;star 0 8 1;star 0 9 1;").cycle(), 20160);
    }

    private static void night() {
        // From lot 1 the draws are 16838, 5758 and 10113.
        SkyLeases x = told("sky 4;star 2 1 5;star 1 1 3;star 3 0 9;tenant 10;tenant 20;"
                + "lease 0 2 1 0 0;lease 1 1 1 0 1;lease 1 2 1 1 1;");
        due("16838 over 4", x.night(), 2);
        due("under the cloud", x.purse(0), 10);
        due("not under it", x.purse(1), 23);
        due("it is the next night", x.count(6), 1);
        due("5758 over 4", x.night(), 2);
        due("the second night's cloud", x.purse(1), 23);
        due("nobody's star", x.purse(0), 10);
        due("10113 over 4", x.night(), 1);
        due("no lease any more", x.purse(0) + x.purse(1), 33);
        due("three nights' lot", x.lot(0), 662824084);
        for (int i = 3; i < 99; i++) {
            x.night();
        }
        due("night 99", x.count(6), 99);
        x.lot(1234);
        due("no night beyond", x.night(), STATE);
        due("the lot stays too", x.lot(0), 1234);
        due("night 99 still", x.count(6), 99);

        SkyLeases y = told("sky 2;star 0 1 7;star 1 1 2;tenant 99;lease 0 0 2 98 98;");
        for (int i = 0; i < 98; i++) {
            y.night();
        }
        due("nothing yet", y.purse(0), 99);
        due("the star in square 0 brings less by its cloud", y.night() == 0 ? 101 : 106, y.purse(0));
    }

    private static void cloudsOfAnUnsignedLot() {
        // A lot whose next one is -1, so that the draw is 65535.
        int inverse = 1;
        for (int i = 0; i < 31; i++) {
            inverse *= 2 - 1103515245 * inverse;
        }
        int ahead = (-1 - 12345) * inverse;
        for (int n = 2; n <= 8; n++) {
            SkyLeases x = told("sky " + n + ";");
            x.lot(ahead);
            due("the cloud of 65535 by " + n, x.night(), 65535 % n);
            due("the lot", x.lot(0), -1);
        }
    }

    private static void purse() {
        SkyLeases x = told("tenant 0;tenant 99;");
        due("purse(0)", x.purse(0), 0);
        due("purse(1)", x.purse(1), 99);
        for (int wrong : new int[] {-1, 2, 4, Integer.MIN_VALUE, Integer.MAX_VALUE}) {
            due("no such tenant", x.purse(wrong), BAD);
        }
    }

    private static void begins() {
        SkyLeases x = told("sky 3;tenant 5;tenant 6;lease 0 0 1 0 99;");
        due("begins", x.begins(1, 0, 3, 0, 99), 1);
        due("it comes behind", x.whose(0, 0), 0);
        due("and has the rest", x.whose(2, 0), 1);
        due("begins(0, 2, 1, 99, 99)", x.begins(0, 2, 1, 99, 99), 2);
        int[][] wrong = {{-1, 0, 1, 0, 0}, {2, 0, 1, 0, 0}, {0, -1, 1, 0, 0}, {0, 3, 1, 0, 0}, {0, 0, 0, 0, 0},
            {0, 0, 4, 0, 0}, {0, 0, 1, -1, 0}, {0, 0, 1, 100, 100}, {0, 0, 1, 0, 100}, {0, 0, 1, 5, 4},
            {0, 0, 1, 0, -1}, {0, 0, Integer.MAX_VALUE, 0, 0}, {0, 0, 1, Integer.MIN_VALUE, 0}};
        for (int[] w : wrong) {
            due("begins of wrong terms", x.begins(w[0], w[1], w[2], w[3], w[4]), BAD);
        }
        due("nothing began", x.count(3), 3);
        due("two may be undone", x.count(7), 2);
        for (int i = 3; i < 10; i++) {
            due("begins", x.begins(0, 0, 1, 0, 0), i);
        }
        due("an eleventh", x.begins(0, 0, 1, 0, 0), FULL);
        due("wrong ahead of full", x.begins(2, 0, 1, 0, 0), BAD);
        due("ten", x.count(3), 10);
    }

    private static void ends() {
        SkyLeases x = told("tenant 5;lease 0 0 1 0 0;lease 0 1 1 0 0;lease 0 2 1 0 0;");
        due("no such lease", x.ends(3), BAD);
        for (int wrong : WRONG_NUMBERS) {
            due("no such lease", x.ends(wrong), BAD);
        }
        due("nothing to undo", x.count(7), 0);
        due("ends(1)", x.ends(1), 2);
        due("the first stays", x.lease(0, 1), 0);
        due("the last came nearer", x.lease(1, 1), 2);
        due("no third", x.lease(2, 1), BAD);
        due("ends(1)", x.ends(1), 1);
        due("ends(0)", x.ends(0), 0);
        due("ends of none", x.ends(0), BAD);
    }

    private static void undo() {
        SkyLeases x = told("tenant 5;lease 0 0 1 1 11;lease 0 1 2 2 12;lease 0 2 3 3 13;");
        x.ends(1);
        x.begins(0, 3, 4, 4, 14);
        x.ends(0);
        x.night();
        x.lot(99);
        due("count(7)", x.count(7), 3);
        due("the end is undone", x.undo(), 3);
        due("at its place", x.lease(0, 4), 11);
        due("the others behind it", x.lease(2, 4), 14);
        due("the beginning is undone", x.undo(), 2);
        due("the first end is undone", x.undo(), 3);
        for (int what = 0; what < 5; what++) {
            due("its part " + what, x.lease(1, what), new int[] {0, 1, 2, 2, 12}[what]);
        }
        due("nothing more", x.undo(), STATE);
        due("the night is not undone", x.count(6), 1);
        due("nor is the lot", x.lot(0), 99);

        for (int i = 0; i < 7; i++) {
            x.begins(0, 0, 1, i, i);
        }
        due("six are known", x.count(7), 6);
        due("undo", x.undo(), 9);
        x.ends(0);
        x.ends(0);
        due("six again", x.count(7), 6);
        due("undo", x.undo(), 8);
        due("the second lease is back", x.lease(0, 4), 12);
        due("undo", x.undo(), 9);
        due("the first lease is back", x.lease(0, 4), 11);
        for (int left = 8; left >= 5; left--) {
            due("undo", x.undo(), left);
        }
        due("the rest is lost", x.undo(), STATE);
        due("the last one left", x.lease(4, 3), 1);

        SkyLeases y = told("tenant 5;" + "lease 0 0 1 0 0;lease 0 0 1 1 1;lease 0 0 1 2 2;lease 0 0 1 3 3;"
                + "lease 0 0 1 4 4;lease 0 0 1 5 5;lease 0 0 1 6 6;lease 0 0 1 7 7;");
        int[] ended = {0, 3, 5, 0, 2, 1, 1, 0};
        for (int k : ended) {
            y.ends(k);
        }
        for (int left = 1; left <= 6; left++) {
            due("undo", y.undo(), left);
        }
        due("the oldest two are lost", y.undo(), STATE);
        int[] nights = {1, 2, 3, 5, 6, 7};
        for (int k = 0; k < nights.length; k++) {
            due("lease " + k + " of those that are left", y.lease(k, 3), nights[k]);
        }
    }

    private static void lot() {
        SkyLeases x = new SkyLeases();
        due("1 at first", x.lot(Integer.MIN_VALUE), 1);
        due("lot", x.lot(Integer.MAX_VALUE), Integer.MIN_VALUE);
        due("lot", x.lot(-1), Integer.MAX_VALUE);
        due("lot", x.lot(0), -1);
        x.night();
        due("0 goes on", x.lot(1), 12345);
        x.night();
        due("1 goes on", x.lot(1), 1103527590);
    }

    private static void dark() {
        SkyLeases x = told("sky 4;star 0 1 1;tenant 1;tenant 2;tenant 3;"
                + "lease 0 0 2 2 9;lease 1 1 3 0 99;lease 1 0 1 50 50;");
        // The star is in square night mod 4; tenant 0 has squares 0 and 1 in nights 2 to 9.
        due("nights 2 3 6 7", x.dark(0, 0, 99), 4);
        due("a part of them", x.dark(0, 3, 6), 2);
        due("one night", x.dark(0, 6, 6), 1);
        due("no lease, not dark", x.dark(0, 10, 99), 0);
        due("no lease at all", x.dark(2, 0, 99), 0);
        // Tenant 1 is dark when the star is in square 0, and in 5 and 9, when square 1 is tenant 0's.
        due("what is another's does not count", x.dark(1, 0, 11), 5);
        due("a second lease", x.dark(1, 48, 52), 2);
        for (int[] w : new int[][] {{-1, 0, 0}, {3, 0, 0}, {0, -1, 0}, {0, 0, 100}, {0, 5, 4}, {0, 100, 100},
            {0, Integer.MIN_VALUE, 0}, {0, 0, Integer.MAX_VALUE}}) {
            due("dark of wrong numbers", x.dark(w[0], w[1], w[2]), BAD);
        }
        due("all squares another's", told("sky 2;star 0 0 1;tenant 1;tenant 1;lease 0 0 2 0 9;lease 1 0 2 5 20;")
                .dark(1, 0, 99), 5);
    }

    private static void meets() {
        SkyLeases x = told("sky 4;star 0 3 1;star 3 0 1;tenant 1;tenant 2;"
                + "lease 0 1 1 5 99;lease 1 1 2 0 99;");
        due("the lease begins", x.meets(0, 0, 0), 5);
        due("the second told meets ahead", x.meets(1, 0, 0), 3);
        due("from it on", x.meets(1, 0, 5), 6);
        due("next time round", x.meets(0, 0, 6), 15);
        due("the last night", x.meets(0, 0, 99), 99);
        due("never", x.meets(0, 1, 0), NONE);
        due("not any more", x.meets(1, 0, 96), NONE);
        for (int[] w : new int[][] {{-1, 0, 0}, {2, 0, 0}, {0, -1, 0}, {0, 2, 0}, {0, 0, -1}, {0, 0, 100},
            {0, 0, Integer.MAX_VALUE}, {0, Integer.MAX_VALUE, 0}}) {
            due("meets of wrong numbers", x.meets(w[0], w[1], w[2]), BAD);
        }
    }

    private static void offerAndRefuse() {
        SkyLeases x = told("sky 3;tenant 1;tenant 2;");
        int[][] wrong = {{-1, 0, 1, 0, 0, 1}, {2, 0, 1, 0, 0, 1}, {0, -1, 1, 0, 0, 1}, {0, 3, 1, 0, 0, 1},
            {0, 0, 0, 0, 0, 1}, {0, 0, 4, 0, 0, 1}, {0, 0, 1, -1, 0, 1}, {0, 0, 1, 0, 100, 1}, {0, 0, 1, 5, 4, 1},
            {0, 0, 1, 0, 0, 0}, {0, 0, 1, 0, 0, 100}, {0, 0, 1, 0, 0, -1}, {0, 0, 1, 0, 0, Integer.MAX_VALUE}};
        for (int round = 0; round < 2; round++) {
            due("refuse", x.refuse(), 8 * round);
            for (int i = 0; i < 8; i++) {
                due("offer", x.offer(1, 2, 3, 0, 99, 99), i);
                due("offers", x.count(4), i + 1);
                for (int[] w : wrong) {
                    due("wrong offer", x.offer(w[0], w[1], w[2], w[3], w[4], w[5]), BAD);
                }
            }
            due("a ninth", x.offer(1, 2, 3, 0, 99, 99), FULL);
            due("offers are no leases", x.count(3), 0);
        }
    }

    private static void letting() {
        SkyLeases x = told("sky 6;star 0 0 1;star 2 0 1;star 4 2 1;tenant 1;tenant 2;lease 1 0 6 0 99;");
        due("no offers: prices", x.letting(0, 99, 0), 0);
        due("no offers: set", x.letting(0, 99, 1), 0);
        x.offer(0, 1, 1, 0, 99, 99);
        due("dark in winter", x.letting(0, 0, 0), 0);
        x.offer(0, 0, 1, 10, 20, 7);
        due("not dark with another of its offers", x.letting(10, 20, 0), 106);
        due("that set", x.letting(10, 20, 1), 3);
        due("dark ahead of it", x.letting(9, 20, 1), 2);
        due("dark behind it", x.letting(20, 21, 1), 2);
        x.offer(1, 5, 2, 20, 30, 8);
        due("no two on one night, out of winter too", x.letting(10, 15, 1), 3);
        due("another tenant's squares don't help", x.letting(21, 22, 1), 4);
        x.offer(1, 5, 2, 21, 30, 5);
        due("nights side by side", x.letting(21, 30, 0), 12);
        due("that set", x.letting(21, 30, 1), 10);
        for (int[] w : new int[][] {{-1, 0, 0}, {0, 100, 0}, {1, 0, 0}, {100, 100, 0}, {0, 0, -1}, {0, 0, 2},
            {Integer.MIN_VALUE, Integer.MAX_VALUE, 0}}) {
            due("letting of wrong numbers", x.letting(w[0], w[1], w[2]), BAD);
        }
        x.refuse();
        due("refused", x.letting(10, 20, 0), 0);
        x.offer(0, 0, 1, 0, 99, 1);
        due("a price of 1", x.letting(0, 99, 0), 1);
        x.offer(1, 2, 1, 0, 99, 1);
        x.offer(0, 5, 1, 0, 99, 1);
        due("nothing of the refused is left", x.letting(0, 99, 1), 7);
    }

    private static void lettingOfEqualPrices() {
        SkyLeases x = told("sky 2;star 0 0 1;star 1 0 1;tenant 1;");
        x.offer(0, 0, 1, 0, 9, 3);
        x.offer(0, 1, 1, 0, 9, 4);
        x.offer(0, 0, 2, 0, 9, 7);
        due("7", x.letting(0, 9, 0), 7);
        due("3 is less than 4", x.letting(0, 9, 1), 3);
        x.refuse();
        x.offer(0, 0, 2, 5, 9, 9);
        x.offer(0, 0, 2, 0, 5, 9);
        due("1 is less than 2", x.letting(0, 9, 1), 1);
    }

    private static void lettingByNight() {
        SkyLeases x = told("sky 2;star 0 5 1;tenant 1;");
        x.offer(0, 0, 1, 0, 9, 3);
        due("the star is there", x.letting(0, 4, 0), 3);
        due("it went on", x.letting(0, 5, 0), 0);
        due("it is not held then", x.letting(10, 19, 0), 3);
        x.offer(0, 1, 1, 5, 9, 2);
        due("the next square is held", x.letting(0, 9, 1), 3);
        due("it holds from 5 on", x.letting(4, 4, 1), 3);
    }

    private static void sawAndForget() {
        SkyLeases x = told("sky 3;star 0 0 1;star 1 1 1;");
        for (int round = 0; round < 2; round++) {
            due("forget", x.forget(), 8 * round);
            for (int i = 1; i <= 8; i++) {
                due("saw", x.saw(i % 2, i % 3), i);
                due("seen", x.count(5), i);
                for (int[] w : new int[][] {{-1, 0}, {2, 0}, {0, -1}, {0, 3}, {Integer.MAX_VALUE, 0}}) {
                    due("wrong saw", x.saw(w[0], w[1]), BAD);
                }
            }
            due("a ninth", x.saw(0, 0), FULL);
        }
    }

    private static void dates() {
        SkyLeases x = told("sky 3;star 0 0 1;star 1 7 1;star 0 2 1;");
        due("all nights", x.dates(0), 1000);
        due("the first of all", x.dates(1), 0);
        x.saw(0, 0);
        due("it stays there", x.dates(0), 1000);
        x.saw(1, 2);
        // Star 1: nights 7 to 13 of each 21; 1000 is 47 times 21 and 13 more.
        due("star 1", x.dates(0), 47 * 7 + 6);
        due("its first", x.dates(1), 7);
        x.saw(2, 2);
        due("both", x.dates(1), 10);
        x.saw(0, 1);
        due("never", x.dates(0), 0);
        due("no first", x.dates(1), NONE);
        x.forget();
        due("forgotten", x.dates(0), 1000);
        for (int wrong : new int[] {-1, 2, Integer.MIN_VALUE, Integer.MAX_VALUE}) {
            due("dates of a wrong number", x.dates(wrong), BAD);
        }
        SkyLeases y = told("sky 8;star 0 9 1;star 0 8 1;star 0 1 1;");
        y.saw(0, 6);
        y.saw(1, 4);
        // Nights 54 to 62 of each 72, and 32 to 39 of each 64.
        due("far ones count", y.dates(1), 416);
    }

    private static void odds() {
        SkyLeases x = told("sky 6;star 0 0 4;star 1 0 3;star 0 0 1;star 5 0 9;star 3 1 2;tenant 1;tenant 2;"
                + "lease 0 0 2 0 98;lease 1 3 1 0 99;");
        // Tenant 0 is brought 3 by a cloud over 0, 5 over its star in 1 and 8 otherwise.
        dueOdds(x, 0, 1, 0, 1, 1);
        dueOdds(x, 0, 1, 3, 1, 1);
        dueOdds(x, 0, 1, 4, 5, 6);
        dueOdds(x, 0, 1, 6, 2, 3);
        dueOdds(x, 0, 1, 9, 0, 1);
        dueOdds(x, 0, 2, 16, 4, 9);
        dueOdds(x, 0, 3, 24, 8, 27);
        dueOdds(x, 0, 3, 9, 1, 1);
        dueOdds(x, 0, 3, 10, 215, 216);
        dueOdds(x, 0, 3, 99, 0, 1);
        dueOdds(x, 1, 1, 2, 5, 6);
        dueOdds(x, 1, 3, 3, 0, 1);
        for (int i = 0; i < 98; i++) {
            x.night();
        }
        dueOdds(x, 0, 3, 8, 2, 3);
        dueOdds(x, 0, 3, 9, 0, 1);
        x.night();
        dueOdds(x, 0, 3, 0, 1, 1);
        dueOdds(x, 0, 3, 1, 0, 1);
        dueOdds(x, 1, 3, 1, 0, 1);
        int[][] wrong = {{-1, 1, 0, 0}, {2, 1, 0, 0}, {0, 0, 0, 0}, {0, 4, 0, 0}, {0, 1, -1, 0}, {0, 1, 100, 0},
            {0, 1, 0, -1}, {0, 1, 0, 2}, {0, Integer.MAX_VALUE, 0, 0}, {0, 1, Integer.MIN_VALUE, 0}};
        for (int[] w : wrong) {
            due("odds of wrong numbers", x.odds(w[0], w[1], w[2], w[3]), BAD);
        }
        due("the lot is not drawn", x.lot(0), drawnNights(99));
    }

    private static int drawnNights(int nights) {
        SkyLeases x = new SkyLeases();
        for (int i = 0; i < nights; i++) {
            x.night();
        }
        return x.lot(0);
    }

    private static void dueOdds(SkyLeases x, int t, int m, int k, int upper, int lower) {
        String call = "odds(" + t + ", " + m + ", " + k + ", ";
        due(call + "0)", x.odds(t, m, k, 0), upper);
        due(call + "1)", x.odds(t, m, k, 1), lower);
    }

    private static void rateAndTrace() {
        SkyLeases x = told("sky 5;tenant 10;tenant 30;tenant 3;"
                + "lease 1 0 2 0 9;lease 1 1 2 5 9;lease 0 4 1 1 9;lease 2 0 5 50 99;");
        x.night();
        long trace = 0;
        int[] asked = {1, 11, 101, 1011, 10101, 100001};
        int[][] rates = {{10, 11, 9, 22, 9, 11}, {30, 32, 28, 64, 29, 31}, {3, 4, 3, 8, 5, 4}};
        for (int t = 0; t < rates.length; t++) {
            for (int kind = 0; kind < asked.length; kind++) {
                due("rate(" + kind + ", " + t + ")", x.rate(kind, t), rates[t][kind]);
                trace += asked[kind];
                due("trace", x.trace(), trace);
            }
        }
        for (int wrong : new int[] {-1, 6, Integer.MIN_VALUE, Integer.MAX_VALUE}) {
            due("no such kind", x.rate(wrong, 0), NO);
        }
        for (int wrong : new int[] {-1, 3, 4, Integer.MIN_VALUE, Integer.MAX_VALUE}) {
            due("no such tenant", x.rate(0, wrong), NO);
        }
        due("trace of none", x.trace(), trace);
        SkyLeases poor = told("sky 8;tenant 0;lease 0 0 8 0 99;");
        due("below 0", poor.rate(2, 0), -8);
        due("below 0, too", poor.rate(4, 0), -8);
    }

    private static void images() {
        SkyLeases x = told("sky 2;star 0 0 3;star 1 0 3;tenant 10;lease 0 0 2 0 99;lease 0 1 1 5 6;");
        x.ends(1);
        x.night();
        due("keep(0)", x.keep(0), 1);
        due("none was kept", x.back(1), STATE);
        int lot = x.lot(1);
        x.lot(lot);
        x.night();
        x.begins(0, 0, 1, 7, 7);
        x.undo();
        x.undo();
        x.offer(0, 0, 1, 0, 0, 1);
        x.saw(0, 0);
        typeAll(x, "sky");
        x.rate(0, 0);
        due("keep(1)", x.keep(1), 2);
        due("back(0)", x.back(0), 1);
        due("night", x.count(6), 1);
        due("purse", x.purse(0), 13);
        due("leases", x.count(3), 1);
        due("undo known", x.count(7), 1);
        due("the lot", x.lot(5), lot);
        due("offers stay", x.count(4), 1);
        due("seen stays", x.count(5), 1);
        due("the text stays", x.count(8), 3);
        due("the trace stays", x.trace(), 1);
        due("undo", x.undo(), 2);
        due("the right lease", x.lease(1, 3), 5);
        due("back(1)", x.back(1), 2);
        due("purse", x.purse(0), 16);
        due("nothing to undo", x.undo(), STATE);
        due("leases", x.count(3), 2);
        due("back(0) again", x.back(0), 1);
        due("the image was not changed", x.count(7), 1);
        x.begins(0, 0, 1, 9, 9);
        x.begins(0, 0, 1, 9, 9);
        x.keep(1);
        x.undo();
        x.undo();
        x.ends(0);
        x.begins(0, 0, 1, 9, 9);
        x.ends(0);
        x.back(1);
        due("a beginning is undone", x.undo(), 2);
        due("and another", x.undo(), 1);
        due("and an end", x.undo(), 2);
        due("at its place", x.lease(1, 3), 5);
        for (int wrong : new int[] {-1, 2, Integer.MIN_VALUE, Integer.MAX_VALUE}) {
            due("keep of none", x.keep(wrong), BAD);
            due("back of none", x.back(wrong), BAD);
        }
    }

    private static void count() {
        SkyLeases x = told("sky 7;star 0 0 3;star 1 0 3;tenant 10;tenant 1;tenant 2;lease 0 0 2 0 99;");
        for (int i = 0; i < 3; i++) {
            x.begins(0, 0, 1, 0, 0);
        }
        for (int i = 0; i < 5; i++) {
            x.offer(0, 0, 1, 0, 0, 1);
        }
        for (int i = 0; i < 6; i++) {
            x.saw(0, 0);
        }
        for (int i = 0; i < 8; i++) {
            x.night();
        }
        typeAll(x, "123456789");
        int[] counts = {7, 2, 3, 4, 5, 6, 8, 3, 9};
        for (int what = 0; what < counts.length; what++) {
            due("count(" + what + ")", x.count(what), counts[what]);
        }
        for (int wrong : new int[] {-1, 9, Integer.MIN_VALUE, Integer.MAX_VALUE}) {
            due("count of none", x.count(wrong), BAD);
        }
    }

    /** Every row is full, so that a step beyond one would show. */
    private static void allAtItsMost() {
        StringBuilder text = new StringBuilder("sky 8;");
        for (int i = 0; i < 8; i++) {
            text.append("star ").append(i).append(" 0 9;");
        }
        text.append("tenant 0;".repeat(4)).append("lease 3 0 8 0 99;").append("lease 0 0 1 0 0;".repeat(8));
        SkyLeases x = told(text.toString());
        due("a tenth lease", x.begins(2, 7, 8, 0, 99), 9);
        for (int i = 0; i < 8; i++) {
            due("offer " + i, x.offer(i % 4, i, 1, 0, 99, 99), i);
            due("saw " + i, x.saw(i, i), i + 1);
        }
        due("all offers: prices", x.letting(0, 99, 0), 792);
        due("all offers: set", x.letting(0, 99, 1), 255);
        due("all dates", x.dates(0), 1000);
        dueOdds(x, 3, 3, 99, 1, 1);
        dueOdds(x, 2, 3, 1, 0, 1);
        due("claims", x.claims(0, 0), 10);
        due("dark behind all others", x.dark(2, 0, 99), 100);
        due("meets", x.meets(3, 7, 99), 99);
        for (int i = 0; i < 99; i++) {
            x.night();
        }
        due("99 nights of seven stars", x.purse(3), 99 * 63);
        due("rate", x.rate(4, 3), 99 * 63 - 8 + 3);
        due("keep", x.keep(1), 99);
        for (int left = 9; left >= 0; left--) {
            due("ends", x.ends(left), left);
        }
        for (int left = 1; left <= 6; left++) {
            due("undo", x.undo(), left);
        }
        due("back", x.back(1), 99);
        due("ten leases", x.count(3), 10);
        due("ends", x.ends(0), 9);
        due("undo of an end, to ten", x.undo(), 10);
        due("the first one is back", x.whose(5, 50), 3);
        due("cycle", x.cycle(), 1);
    }
}
