import java.util.HashSet;
import java.util.NoSuchElementException;
import java.util.Set;

/** What the tests share: answers held against those that are due, and warehouses told as texts. */
abstract class Check {
    static final Class<?> NO_ELEMENT = NoSuchElementException.class;
    static final Class<?> ARGUMENT = IllegalArgumentException.class;
    static final Class<?> STATE = IllegalStateException.class;

    private static String sentence = "";
    private static int sentences = 0;
    private static int wrong = 0;
    /** The sentences under which an answer was looked at, or a refusal, then with its exception's name. */
    private static final Set<String> looked = new HashSet<>();

    interface Call {
        void ask();
    }

    /** Names what the checks that follow are about. */
    static void sentence(String said) {
        sentence = said;
        sentences++;
    }

    static void fault(String text) {
        wrong++;
        System.out.println(sentence + ": " + text);
    }

    static boolean hasLookedAt(String sentenceOrRefusal) {
        return looked.contains(sentenceOrRefusal);
    }

    static void dueText(String call, String got, String want) {
        looked.add(sentence);
        if (!got.equals(want)) {
            fault(call + " answered " + got + ", due is " + want);
        }
    }

    static void due(String call, long got, long want) {
        dueText(call, Long.toString(got), Long.toString(want));
    }

    static void due(String call, boolean got, boolean want) {
        dueText(call, Boolean.toString(got), Boolean.toString(want));
    }

    static void refused(String call, Class<?> with, Call asked) {
        looked.add(sentence + " " + with.getSimpleName());
        Class<?> got = null;
        try {
            asked.ask();
        } catch (RuntimeException e) {
            got = e.getClass();
        }
        if (got != with) {
            fault(call + " threw " + got + ", due is " + with);
        }
    }

    static StockDrawer drawn(int seed, int size) {
        StockDrawer x = new StockDrawer(seed);
        x.draw(size);
        return x;
    }

    /** The text tells what the seed draws, so that a reader can follow what comes of it. */
    static StockDrawer drawn(int seed, int size, String told) {
        StockDrawer x = drawn(seed, size);
        dueText("draw(" + size + ") of seed " + seed, told(x), told);
        return x;
    }

    /** For example "rooms 6, grams 3: 0/0 +4, 0/0 +5!, 0/0 -4": place/good, put or taken, a lie has a !. */
    static String told(StockDrawer x) {
        StringBuilder text = new StringBuilder("rooms");
        for (int i = 0; i < x.count(0); i++) {
            int kind = x.part(i, 0);
            if (kind == 1 && x.part(i, 1) == 0) {
                text.append(", grams");
            }
            if (kind == 2) {
                text.append(x.part(i, 1) == 0 ? ": " : ", ").append(x.part(i, 3)).append('/').append(x.part(i, 4));
            }
            text.append(kind < 2 ? " " : x.part(i, 5) == 1 ? " -" : " +").append(x.part(i, 2));
            text.append(x.part(i, 6) == 1 ? "!" : "");
        }
        return text.toString();
    }

    static String left(StockDrawer x) {
        StringBuilder text = new StringBuilder();
        for (int i = 0; i < x.count(5); i++) {
            text.append(x.left(i)).append(' ');
        }
        return text.toString().trim();
    }

    static void leaveOut(StockDrawer x, int... parts) {
        for (int part : parts) {
            x.leave(part, true);
        }
    }

    static void leaveAllOut(StockDrawer x) {
        for (int i = 0; i < x.count(0); i++) {
            if (x.part(i, 7) == 1) {
                x.leave(i, true);
            }
        }
    }

    /** All answers that change nothing, as one text; some 90 calls for eight parts. */
    static String everything(StockDrawer x) {
        StringBuilder text = new StringBuilder();
        for (int what = -1; what < 9; what++) {
            text.append(x.count(what)).append(' ');
        }
        text.append("so ").append(x.conditions()).append(' ').append(x.holds()).append(' ').append(x.minimal());
        for (int i = 0; i < x.count(0); i++) {
            text.append("; part ").append(i).append(':');
            for (int what = 0; what < 8; what++) {
                text.append(' ').append(x.part(i, what));
            }
        }
        text.append("; left ").append(left(x)).append("; pieces and most");
        for (int place = 0; place < x.count(1); place++) {
            for (int good = 0; good < x.count(2); good++) {
                text.append(' ').append(x.pieces(place, good));
            }
            text.append(" of ").append(x.most(place));
        }
        return text.toString();
    }

    /** Tells apart two objects that differ in parts, parts out, verdict or state; for small drawings. */
    static String everythingFromHere(StockDrawer x) {
        StringBuilder text = new StringBuilder(everything(x));
        for (int i = 0; i < x.count(0); i++) {
            boolean isLeft = x.part(i, 7) == 1;
            text.append(' ').append(x.leave(i, isLeft)).append(x.leave(i, !isLeft));
        }
        text.append("; another drawing: ").append(x.draw(1)).append(' ').append(everything(x));
        return text.toString();
    }

    /** Ends the test with exit code 1 if an answer was not the one that is due. */
    static void end() {
        System.out.println(sentences + " sentences, " + wrong + " wrong answers");
        if (wrong != 0) {
            System.exit(1);
        }
    }
}
