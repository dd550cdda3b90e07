import java.util.ArrayList;
import java.util.EnumSet;
import java.util.List;
import java.util.Set;
import java.util.function.ToLongFunction;

/**
 * What a call changes, and what it leaves: of two objects that were made alike one takes the call, and then both are
 * asked about everything; the parts in which they differ are those that the call changed.
 */
public final class ChangesTest extends Checks {
    private enum Part { SKY, NIGHT, PURSES, LEASES, PAST, LOT, OFFERS, SEEN, TEXT, TRACE, IMAGE0, IMAGE1 }

    private static final int NIGHT_99 = 99;

    public static void main(String[] args) {
        says("Refused, and nothing changes, the first of these:", ChangesTest::refusedCalls);
        says("(Nothing is changed.)", ChangesTest::callsThatOnlyTell);
        says("-10 less FAULT: nothing changes.", ChangesTest::faultsInTheText);
        says("THE TEXT tells all, and is empty then", ChangesTest::readAnew);
        says("A NIGHT goes by", () -> dueChanges("night()", SkyLeases::night, Part.NIGHT, Part.PURSES, Part.LOT));
        says("nothing else is.", ChangesTest::leases);
        says("THE LOT becomes v", () -> dueChanges("lot(-7)", x -> x.lot(-7), Part.LOT));
        says("come to THE TEXT", () -> dueChanges("type", x -> x.type(';', 1), Part.TEXT));
        says("THE TEXT is empty", () -> dueChanges("clear()", SkyLeases::clear, Part.TEXT));
        says("An OFFER: its number.", () -> dueChanges("offer", x -> x.offer(1, 4, 1, 0, 99, 50), Part.OFFERS));
        says("No OFFERS", () -> dueChanges("refuse()", SkyLeases::refuse, Part.OFFERS));
        says("SEEN: how much there is.", () -> dueChanges("saw", x -> x.saw(1, 1), Part.SEEN));
        says("Nothing was SEEN", () -> dueChanges("forget()", SkyLeases::forget, Part.SEEN));
        says("as often as rate() asks that body", ChangesTest::rates);
        says("keep NOW (NIGHT, PURSES, LEASES, what may be UNDONE, THE LOT); nothing else.", ChangesTest::images);
        end();
    }

    // ---- two objects that are alike, and what they answer

    /** Something of everything: each part is other than in a new object. */
    private static SkyLeases rich() {
        SkyLeases x = told("sky 5;star 4 2 3;star 0 0 9;star 2 0 8;tenant 7;tenant 8;tenant 0;"
            + "lease 0 3 4 0 20;lease 1 0 5 0 31;lease 2 0 5 0 32;");
        x.rate(3, 0);
        x.night();
        x.ends(2);
        x.keep(0);
        x.begins(1, 2, 1, 0, 99);
        x.night();
        x.keep(1);
        x.lot(123456);
        x.night();
        x.ends(1);
        x.offer(0, 0, 1, 0, 99, 40);
        x.offer(2, 2, 1, 5, 60, 30);
        x.saw(0, 4);
        typeAll(x, "sky 3;star 1 1 1;tenant 44");
        dueCounts("rich", x, 5, 3, 3, 2, 2, 1, 3, 3, 26);
        return x;
    }

    /** As much as there may be of all that is bounded. */
    private static SkyLeases full() {
        StringBuilder text = new StringBuilder("sky 8;" + "star 7 1 9;".repeat(8) + "tenant 99;".repeat(4));
        for (int k = 0; k < 6; k++) {
            text.append("lease 3 0 8 0 ").append(80 + k).append(';');
        }
        SkyLeases x = told(text.toString());
        pass(x, NIGHT_99);
        // One end ahead of five that began: the oldest of what is known is not like the others.
        x.ends(2);
        for (int k = 5; k < 10; k++) {
            x.begins(k % 4, k - 5, 8, k, 90 + k);
        }
        for (int i = 0; i < 8; i++) {
            x.offer(i % 4, i, 1, 0, 99, 99);
            x.saw(i, 6);
        }
        typeAll(x, " ".repeat(292) + "tenant 5");
        dueCounts("full", x, 8, 8, 4, 10, 8, 8, NIGHT_99, 6, 300);
        return x;
    }

    private static void dueCounts(String name, SkyLeases x, int... counts) {
        for (int what = 0; what < counts.length; what++) {
            due("count(" + what + ") of the " + name + " object", x.count(what), counts[what]);
        }
    }

    private static List<Long> ask(SkyLeases x, Part part) {
        List<Long> answers = new ArrayList<>();
        switch (part) {
            case SKY: askSky(x, answers); break;
            case NIGHT: answers.add((long) x.count(6)); break;
            case PURSES: askPurses(x, answers); break;
            case LEASES: askLeases(x, answers); break;
            case PAST: askPast(x, answers); break;
            case LOT: answers.add((long) x.lot(0)); break;
            case OFFERS: askOffers(x, answers); break;
            case SEEN: askSeen(x, answers); break;
            case TEXT: askText(x, answers); break;
            case TRACE: answers.add(x.trace()); break;
            case IMAGE0: askImage(x, 0, answers); break;
            default: askImage(x, 1, answers);
        }
        return answers;
    }

    private static void askSky(SkyLeases x, List<Long> answers) {
        answers.add((long) x.count(0));
        answers.add((long) x.count(1));
        answers.add((long) x.count(2));
        answers.add((long) x.cycle());
        for (int s = 0; s < 8; s++) {
            for (int night : new int[] {0, 1, 2, 9, 999}) {
                answers.add((long) x.star(s, night));
            }
        }
    }

    private static void askPurses(SkyLeases x, List<Long> answers) {
        for (int t = 0; t < 4; t++) {
            answers.add((long) x.purse(t));
        }
    }

    private static void askLeases(SkyLeases x, List<Long> answers) {
        int many = x.count(3);
        answers.add((long) many);
        for (int k = 0; k < many; k++) {
            for (int what = 0; what < 5; what++) {
                answers.add((long) x.lease(k, what));
            }
        }
    }

    /** Each lease that is undone shows by its last night, which no other lease has. */
    private static void askPast(SkyLeases x, List<Long> answers) {
        answers.add((long) x.count(7));
        for (int left = x.undo(); left >= 0; left = x.undo()) {
            answers.add((long) left);
            for (int k = 0; k < left; k++) {
                answers.add((long) x.lease(k, 4));
            }
        }
    }

    private static void askOffers(SkyLeases x, List<Long> answers) {
        answers.add((long) x.count(4));
        for (int a : new int[] {0, 1, 5, 61, 99}) {
            answers.add((long) x.letting(a, 99, 0));
            answers.add((long) x.letting(a, 99, 1));
        }
    }

    private static void askSeen(SkyLeases x, List<Long> answers) {
        answers.add((long) x.count(5));
        answers.add((long) x.dates(0));
        answers.add((long) x.dates(1));
    }

    private static void askText(SkyLeases x, List<Long> answers) {
        answers.add((long) x.count(8));
        answers.add((long) x.sky());
        answers.add((long) x.type(';', 1));
        answers.add((long) x.sky());
        askSky(x, answers);
        askPurses(x, answers);
    }

    private static void askImage(SkyLeases x, int image, List<Long> answers) {
        answers.add((long) x.back(image));
        if (answers.get(0) >= 0) {
            answers.add((long) x.count(6));
            answers.add((long) x.lot(0));
            askPurses(x, answers);
            askLeases(x, answers);
            askPast(x, answers);
        }
    }

    /** The parts in which an object that took the call differs from one that did not. */
    private static Set<Part> changedBy(boolean isFull, ToLongFunction<SkyLeases> call) {
        Set<Part> changed = EnumSet.noneOf(Part.class);
        for (Part part : Part.values()) {
            SkyLeases one = isFull ? full() : rich();
            SkyLeases other = isFull ? full() : rich();
            call.applyAsLong(one);
            if (!ask(one, part).equals(ask(other, part))) {
                changed.add(part);
            }
        }
        return changed;
    }

    private static void dueChanges(String name, ToLongFunction<SkyLeases> call, Part... parts) {
        Set<Part> want = EnumSet.noneOf(Part.class);
        want.addAll(List.of(parts));
        Set<Part> got = changedBy(false, call);
        if (!got.equals(want)) {
            fault(name + " changed " + got + ", due is " + want);
        }
    }

    private static void dueRefused(boolean isFull, String name, ToLongFunction<SkyLeases> call, int want) {
        due(name, call.applyAsLong(isFull ? full() : rich()), want);
        Set<Part> got = changedBy(isFull, call);
        if (!got.isEmpty()) {
            fault(name + " was refused, but changed " + got);
        }
    }

    // ---- the tests

    private static void refusedCalls() {
        refusedForNumbers();
        dueRefused(false, "back(2)", x -> x.back(2), BAD);
        dueRefused(true, "back(0)", x -> x.back(0), STATE);
        dueRefused(true, "back(1)", x -> x.back(1), STATE);
        dueRefused(true, "night()", SkyLeases::night, STATE);
        dueRefused(true, "type of one byte", x -> x.type(';', 1), FULL);
        dueRefused(true, "type of eight bytes", x -> x.type(0x3b3b3b3b3b3b3b3bL, 8), FULL);
        dueRefused(true, "begins", x -> x.begins(0, 0, 1, 0, 0), FULL);
        dueRefused(true, "offer", x -> x.offer(0, 0, 1, 0, 0, 1), FULL);
        dueRefused(true, "saw", x -> x.saw(0, 0), FULL);
        ToLongFunction<SkyLeases> undoneAll = x -> {
            x.back(0);
            x.undo();
            return x.undo();
        };
        due("undo() of nothing", undoneAll.applyAsLong(rich()), STATE);
        Set<Part> byOne = changedBy(false, x -> x.back(0) + x.undo());
        Set<Part> byTwo = changedBy(false, undoneAll);
        if (!byOne.equals(byTwo)) {
            fault("undo() of nothing changed " + byTwo + " where " + byOne + " were changed");
        }
    }

    private static void refusedForNumbers() {
        for (boolean isFull : new boolean[] {false, true}) {
            for (int n : new int[] {0, 9, -1}) {
                dueRefused(isFull, "type(0, " + n + ")", x -> x.type(0, n), BAD);
            }
            int[][] terms = {{-1, 0, 1, 0, 0}, {4, 0, 1, 0, 0}, {0, -1, 1, 0, 0}, {0, 8, 1, 0, 0}, {0, 0, 0, 0, 0},
                {0, 0, 9, 0, 0}, {0, 0, 1, -1, 0}, {0, 0, 1, 100, 100}, {0, 0, 1, 0, 100}, {0, 0, 1, 1, 0}};
            for (int[] w : terms) {
                dueRefused(isFull, "begins of a wrong number", x -> x.begins(w[0], w[1], w[2], w[3], w[4]), BAD);
                dueRefused(isFull, "offer of a wrong number", x -> x.offer(w[0], w[1], w[2], w[3], w[4], 1), BAD);
            }
            dueRefused(isFull, "offer for 0", x -> x.offer(0, 0, 1, 0, 0, 0), BAD);
            dueRefused(isFull, "offer for 100", x -> x.offer(0, 0, 1, 0, 0, 100), BAD);
            dueRefused(isFull, "ends(-1)", x -> x.ends(-1), BAD);
            dueRefused(isFull, "ends(10)", x -> x.ends(10), BAD);
            dueRefused(isFull, "saw(8, 0)", x -> x.saw(8, 0), BAD);
            dueRefused(isFull, "saw(0, 8)", x -> x.saw(0, 8), BAD);
            dueRefused(isFull, "saw(-1, 0)", x -> x.saw(-1, 0), BAD);
            dueRefused(isFull, "rate(6, 0)", x -> x.rate(6, 0), NO);
            dueRefused(isFull, "rate(-1, 0)", x -> x.rate(-1, 0), NO);
            for (int kind = 0; kind < 6; kind++) {
                int asked = kind;
                dueRefused(isFull, "rate(kind, 4)", x -> x.rate(asked, 4), NO);
            }
            dueRefused(isFull, "keep(2)", x -> x.keep(2), BAD);
            dueRefused(isFull, "keep(-1)", x -> x.keep(-1), BAD);
            dueRefused(isFull, "back(-1)", x -> x.back(-1), BAD);
        }
    }

    private static void callsThatOnlyTell() {
        for (boolean isFull : new boolean[] {false, true}) {
            dueOnlyTells(isFull, "star", x -> x.star(0, 999));
            dueOnlyTells(isFull, "lease", x -> x.lease(0, 4));
            dueOnlyTells(isFull, "whose", x -> x.whose(0, 99));
            dueOnlyTells(isFull, "claims", x -> x.claims(0, 99));
            dueOnlyTells(isFull, "cycle", SkyLeases::cycle);
            dueOnlyTells(isFull, "purse", x -> x.purse(0));
            dueOnlyTells(isFull, "dark", x -> x.dark(0, 0, 99));
            dueOnlyTells(isFull, "meets", x -> x.meets(0, 0, 0));
            dueOnlyTells(isFull, "letting", x -> x.letting(0, 99, 0) + x.letting(5, 6, 1));
            dueOnlyTells(isFull, "dates", x -> x.dates(0) + x.dates(1));
            dueOnlyTells(isFull, "odds", x -> x.odds(0, 3, 20, 0) + x.odds(1, 1, 0, 1));
            dueOnlyTells(isFull, "count", x -> x.count(0) + x.count(8));
            dueOnlyTells(isFull, "trace", SkyLeases::trace);
        }
    }

    private static void dueOnlyTells(boolean isFull, String name, ToLongFunction<SkyLeases> call) {
        Set<Part> got = changedBy(isFull, call);
        if (!got.isEmpty()) {
            fault(name + " changed " + got);
        }
        SkyLeases x = isFull ? full() : rich();
        due(name + " asked twice", call.applyAsLong(x), call.applyAsLong(x));
    }

    private static void faultsInTheText() {
        dueRefused(false, "sky() that ends too early", SkyLeases::sky, -10 - 26);
        dueRefused(true, "sky() of 300 bytes that ends too early", SkyLeases::sky, -10 - 300);
    }

    private static void readAnew() {
        Set<Part> all = EnumSet.complementOf(EnumSet.of(Part.LOT, Part.TRACE));
        ToLongFunction<SkyLeases> told = x -> {
            x.type(';', 1);
            return x.sky();
        };
        due("sky()", told.applyAsLong(rich()), 3);
        dueChanges("sky()", told, all.toArray(new Part[0]));
        dueChanges("sky() of an empty text", x -> {
            x.clear();
            return x.sky();
        }, all.toArray(new Part[0]));
    }

    private static void leases() {
        dueChanges("undo()", SkyLeases::undo, Part.LEASES, Part.PAST);
        dueChanges("ends(0)", x -> x.ends(0), Part.LEASES, Part.PAST);
        dueChanges("begins", x -> x.begins(0, 0, 1, 0, 77), Part.LEASES, Part.PAST);
    }

    private static void rates() {
        for (int kind = 0; kind < 6; kind++) {
            int asked = kind;
            dueChanges("rate(" + kind + ", 1)", x -> x.rate(asked, 1), Part.TRACE);
        }
    }

    private static void images() {
        dueChanges("keep(0)", x -> x.keep(0), Part.IMAGE0);
        dueChanges("keep(1)", x -> x.keep(1), Part.IMAGE1);
        dueChanges("back(0)", x -> x.back(0), Part.NIGHT, Part.PURSES, Part.LEASES, Part.PAST, Part.LOT);
        dueChanges("back(1)", x -> x.back(1), Part.NIGHT, Part.PURSES, Part.LEASES, Part.PAST, Part.LOT);
    }
}
