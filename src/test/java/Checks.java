import java.io.IOException;
import java.nio.file.Files;
import java.nio.file.Path;
import java.util.ArrayList;
import java.util.HashSet;
import java.util.List;
import java.util.Set;
import java.util.function.IntUnaryOperator;

/** What the tests share: calls with the answer that is due, told under the sentence of the document that asks it. */
abstract class Checks {
    static final int BAD = -1, STATE = -2, FULL = -3, NONE = -9, NO = -1000000;

    private static final List<String> faults = new ArrayList<>();
    private static final Set<String> sentences = new HashSet<>();
    private static String document;
    private static String sentence = "";

    /** One test for one sentence, in the document's own words: a slip in them would hide what is tested. */
    static void says(String words, Runnable test) {
        sentence = words;
        if (!document().contains(words)) {
            fault("these words are not in the document");
        }
        if (!sentences.add(words)) {
            fault("this sentence has a test already");
        }
        try {
            test.run();
        } catch (RuntimeException | StackOverflowError thrown) {
            fault("a call threw " + thrown);
        }
        sentence = "";
    }

    static void due(String call, long got, long want) {
        if (got != want) {
            fault(call + " answered " + got + ", due is " + want);
        }
    }

    static void fault(String what) {
        faults.add(sentence.isEmpty() ? what : "'" + sentence + "': " + what);
    }

    /** The numbers from least to most are taken at both ends, those beyond them are refused. */
    static void dueWithin(String call, IntUnaryOperator asked, int least, int most, int refused) {
        for (int v : new int[] {least, most}) {
            if (asked.applyAsInt(v) == refused) {
                fault(call + " of " + v + " was refused");
            }
        }
        for (int v : new int[] {least - 1, most + 1, Integer.MIN_VALUE, Integer.MAX_VALUE}) {
            due(call + " of " + v, asked.applyAsInt(v), refused);
        }
    }

    /** Types a text by pieces of up to eight bytes; what the last piece answered. */
    static int typeAll(SkyLeases x, String text) {
        int answer = x.count(8);
        for (int at = 0; at < text.length(); at += 8) {
            int end = Math.min(text.length(), at + 8);
            long v = 0;
            for (int i = at; i < end; i++) {
                v = v << 8 | text.charAt(i);
            }
            answer = x.type(v, end - at);
        }
        return answer;
    }

    static SkyLeases told(String text) {
        SkyLeases x = new SkyLeases();
        typeAll(x, text);
        int items = x.sky();
        if (items < 0) {
            fault("the text " + text + " was refused: " + items);
        }
        return x;
    }

    static int readOf(String text) {
        SkyLeases x = new SkyLeases();
        typeAll(x, text);
        return x.sky();
    }

    static void dueItems(String text, int items) {
        due("sky() of '" + text + "'", readOf(text), items);
    }

    static void dueFault(String text, int place) {
        due("sky() of '" + text + "'", readOf(text), -10 - place);
    }

    static void pass(SkyLeases x, int nights) {
        for (int i = 0; i < nights; i++) {
            x.night();
        }
    }

    static void end() {
        for (String fault : faults) {
            System.out.println(fault);
        }
        System.out.println(faults.isEmpty() ? "all answers are as due" : faults.size() + " answers are not as due");
        if (!faults.isEmpty()) {
            System.exit(1);
        }
    }

    private static String document() {
        if (document == null) {
            try {
                document = Files.readString(Path.of("../shared/DOC.md")).replaceAll("\\s+", " ");
            } catch (IOException e) {
                document = "";
            }
        }
        return document;
    }
}
