import java.math.BigInteger;
import java.util.ArrayList;
import java.util.Arrays;
import java.util.HashMap;
import java.util.List;
import java.util.Map;
import java.util.NoSuchElementException;
import java.util.Random;
import java.util.TreeMap;
import java.util.TreeSet;

/**
 * Long runs of calls of every kind, right and wrong arguments mixed, each answer held against a
 * second reading of the document that shares no code with the class: whole lists instead of rows,
 * and everything told from the start again for each answer.
 */
public final class OracleTest {
    private static final int RUNS = 1500;
    private static final int CALLS_OF_A_RUN = 512;

    private static int wrong = 0;
    private static final Map<String, Integer> SEEN = new TreeMap<>();

    private record Part(int kind, int number, int amount, int place, int good, int takes, int lie) { }

    private static final class Oracle {
        private static final BigInteger WORD = BigInteger.ONE.shiftLeft(64);
        private BigInteger state;
        private BigInteger stateOfDrawing = BigInteger.ZERO;
        private int size = -1;
        private int bits = 0;
        private List<Part> parts = new ArrayList<>();
        private TreeSet<Integer> out = new TreeSet<>();

        Oracle(long seed) {
            again(seed);
        }

        void again(long seed) {
            state = BigInteger.valueOf(seed).mod(WORD);
        }

        private int below(int n) {
            state = state.multiply(new BigInteger("6364136223846793005"))
                .add(new BigInteger("1442695040888963407")).mod(WORD);
            return state.divide(BigInteger.ONE.shiftLeft(33)).mod(BigInteger.valueOf(n)).intValue();
        }

        private List<Part> drawParts(int ofSize) {
            List<Part> made = new ArrayList<>();
            int places = below(ofSize + 1) + 1;
            for (int p = 0; p < places; p++) {
                made.add(new Part(0, p, below(20) + 4, -1, -1, 0, 0));
            }
            int goods = below(ofSize + 1) + 1;
            for (int g = 0; g < goods; g++) {
                made.add(new Part(1, g, below(6) + 1, -1, -1, 0, 0));
            }
            int acts = below(4) + 3 * ofSize;
            for (int a = 0; a < acts; a++) {
                int place = below(places);
                int good = below(goods);
                int amount = below(5) + 1;
                int takes = below(3) == 2 ? 1 : 0;
                int lie = below(6) == 0 ? 1 : 0;
                made.add(new Part(2, a, amount, place, good, takes, lie));
            }
            return made;
        }

        private void sizeInRange(int ofSize) {
            if (ofSize < 0 || ofSize > 5) {
                throw new IllegalArgumentException();
            }
        }

        int draw(int ofSize) {
            sizeInRange(ofSize);
            stateOfDrawing = state;
            parts = drawParts(ofSize);
            out = new TreeSet<>();
            size = ofSize;
            return parts.size();
        }

        boolean same(long seed, int ofSize) {
            sizeInRange(ofSize);
            return new Oracle(seed).drawParts(ofSize).equals(parts);
        }

        private void partThere(int i) {
            if (i < 0 || i >= parts.size()) {
                throw new NoSuchElementException();
            }
        }

        int part(int i, int what) {
            partThere(i);
            Part p = parts.get(i);
            int[] facts = {p.kind, p.number, p.amount, p.place, p.good, p.takes, p.lie, out.contains(i) ? 0 : 1};
            if (what < 0 || what >= facts.length) {
                throw new IllegalArgumentException();
            }
            return facts[what];
        }

        boolean leave(int i, boolean toBeOut) {
            partThere(i);
            if (out.contains(i) == toBeOut) {
                throw new IllegalStateException();
            }
            if (toBeOut) {
                out.add(i);
            } else {
                out.remove(i);
            }
            return holds();
        }

        private int indexOf(int kind, int number) {
            for (int i = 0; i < parts.size(); i++) {
                if (parts.get(i).kind == kind && parts.get(i).number == number) {
                    return i;
                }
            }
            return -1;
        }

        private List<Part> counting(TreeSet<Integer> without) {
            List<Part> acts = new ArrayList<>();
            for (int i = 0; i < parts.size(); i++) {
                Part p = parts.get(i);
                if (p.kind == 2 && !without.contains(i) && !without.contains(indexOf(0, p.place))
                        && !without.contains(indexOf(1, p.good))) {
                    acts.add(p);
                }
            }
            return acts;
        }

        private int kinds(int kind) {
            return (int) parts.stream().filter(p -> p.kind == kind).count();
        }

        /** The pieces behind the first acts of these, by place and good. */
        private Map<List<Integer>, Integer> after(List<Part> acts, int many) {
            Map<List<Integer>, Integer> stock = new HashMap<>();
            for (Part a : acts.subList(0, many)) {
                stock.merge(List.of(a.place, a.good), a.takes == 1 ? -a.amount : a.amount, Integer::sum);
            }
            return stock;
        }

        private int weight(Map<List<Integer>, Integer> stock, int place) {
            int grams = 0;
            for (int g = 0; g < kinds(1); g++) {
                int there = stock.getOrDefault(List.of(place, g), 0);
                if (there > 0) {
                    grams += there * parts.get(indexOf(1, g)).amount;
                }
            }
            return grams;
        }

        private int conditionsWithout(TreeSet<Integer> without) {
            List<Part> acts = counting(without);
            boolean[] so = new boolean[6];
            for (int many = 0; many <= acts.size(); many++) {
                Map<List<Integer>, Integer> stock = after(acts, many);
                for (int p = 0; p < kinds(0); p++) {
                    so[0] |= weight(stock, p) > parts.get(indexOf(0, p)).amount;
                }
                so[1] |= stock.values().stream().anyMatch(n -> n < 0);
            }
            for (int a = 1; a < acts.size(); a++) {
                Part x = acts.get(a - 1);
                Part y = acts.get(a);
                so[2] |= x.place == y.place && x.good == y.good && x.amount == y.amount && x.takes != y.takes;
            }
            so[3] = acts.stream().anyMatch(a -> a.lie == 1);
            so[4] = after(acts, acts.size()).values().stream().mapToInt(n -> n).sum() % 2 != 0;
            for (int p = 0; p < kinds(0); p++) {
                int place = p;
                so[5] |= !without.contains(indexOf(0, p)) && acts.stream().noneMatch(a -> a.place == place);
            }
            int all = 0;
            for (int c = 0; c < so.length; c++) {
                all += so[c] ? 1 << c : 0;
            }
            return all;
        }

        int conditions() {
            return conditionsWithout(out);
        }

        private boolean holdsWithout(TreeSet<Integer> without) {
            return (conditionsWithout(without) | ~bits) == -1;
        }

        boolean holds() {
            return holdsWithout(out);
        }

        boolean verdict(int newBits) {
            if (newBits < 0 || newBits > 63) {
                throw new IllegalArgumentException();
            }
            bits = newBits;
            return holds();
        }

        private TreeSet<Integer> outAnd(int i) {
            TreeSet<Integer> more = new TreeSet<>(out);
            more.add(i);
            return more;
        }

        int shorter() {
            if (!holds()) {
                throw new IllegalStateException();
            }
            int before;
            do {
                before = out.size();
                for (int i = parts.size() - 1; i >= 0; i--) {
                    if (!out.contains(i) && holdsWithout(outAnd(i))) {
                        out.add(i);
                    }
                }
            } while (out.size() != before);
            return parts.size() - out.size();
        }

        boolean minimal() {
            boolean yes = holds();
            for (int i = 0; i < parts.size(); i++) {
                yes = yes && (out.contains(i) || !holdsWithout(outAnd(i)));
            }
            return yes;
        }

        int left(int i) {
            List<Integer> those = new ArrayList<>();
            for (int p = 0; p < parts.size(); p++) {
                if (!out.contains(p)) {
                    those.add(p);
                }
            }
            if (i < 0 || i >= those.size()) {
                throw new NoSuchElementException();
            }
            return those.get(i);
        }

        int whole() {
            int were = out.size();
            out.clear();
            return were;
        }

        int pieces(int place, int good) {
            if (indexOf(0, place) < 0 || indexOf(1, good) < 0) {
                throw new NoSuchElementException();
            }
            List<Part> acts = counting(out);
            return after(acts, acts.size()).getOrDefault(List.of(place, good), 0);
        }

        int most(int place) {
            if (indexOf(0, place) < 0) {
                throw new NoSuchElementException();
            }
            List<Part> acts = counting(out);
            int most = 0;
            for (int many = 0; many <= acts.size(); many++) {
                most = Math.max(most, weight(after(acts, many), place));
            }
            return most;
        }

        int count(int what) {
            int lies = (int) parts.stream().filter(p -> p.lie == 1).count();
            List<Integer> all = Arrays.asList(parts.size(), kinds(0), kinds(1), kinds(2), lies,
                parts.size() - out.size(), counting(out).size(), size);
            return what < 0 || what >= all.size() ? -1 : all.get(what);
        }
    }

    /** One call with its arguments, to be asked of both. */
    private record Call(String name, long a, int b) {
        private Object onClass(StockDrawer x) {
            int i = (int) a;
            return switch (name) {
                case "draw" -> x.draw(i);
                case "again" -> {
                    x.again(a);
                    yield "done";
                }
                case "part" -> x.part(i, b);
                case "leave" -> x.leave(i, b == 1);
                case "conditions" -> x.conditions();
                case "verdict" -> x.verdict(i);
                case "holds" -> x.holds();
                case "shorter" -> x.shorter();
                case "minimal" -> x.minimal();
                case "left" -> x.left(i);
                case "whole" -> x.whole();
                case "pieces" -> x.pieces(i, b);
                case "most" -> x.most(i);
                case "same" -> x.same(a, b);
                default -> x.count(i);
            };
        }

        private Object onOracle(Oracle x) {
            int i = (int) a;
            return switch (name) {
                case "draw" -> x.draw(i);
                case "again" -> {
                    x.again(a);
                    yield "done";
                }
                case "part" -> x.part(i, b);
                case "leave" -> x.leave(i, b == 1);
                case "conditions" -> x.conditions();
                case "verdict" -> x.verdict(i);
                case "holds" -> x.holds();
                case "shorter" -> x.shorter();
                case "minimal" -> x.minimal();
                case "left" -> x.left(i);
                case "whole" -> x.whole();
                case "pieces" -> x.pieces(i, b);
                case "most" -> x.most(i);
                case "same" -> x.same(a, b);
                default -> x.count(i);
            };
        }

        private String classAnswer(StockDrawer x) {
            try {
                return String.valueOf(onClass(x));
            } catch (RuntimeException e) {
                return "throws." + e.getClass().getSimpleName();
            }
        }

        private String oracleAnswer(Oracle x) {
            try {
                return String.valueOf(onOracle(x));
            } catch (RuntimeException e) {
                return "throws." + e.getClass().getSimpleName();
            }
        }
    }

    private static final String[] NAMES = {
        "draw", "again", "part", "part", "leave", "leave", "leave", "leave", "conditions", "conditions",
        "verdict", "verdict", "verdict", "holds", "shorter", "minimal", "minimal", "left", "left", "whole",
        "pieces", "pieces", "most", "most", "same", "same", "count", "count"};

    private static final int[] FAR = {Integer.MIN_VALUE, Integer.MAX_VALUE, -2, 64, 1 << 20, Integer.MIN_VALUE + 1};

    /** Mostly from one below the range to one above it, now and then far away. */
    private static int about(Random r, int range) {
        return r.nextInt(25) == 0 ? FAR[r.nextInt(FAR.length)] : r.nextInt(range + 2) - 1;
    }

    /** Verdicts that hold are rare among all of them, so they are asked for by what is so. */
    private static int someBits(Random r, Oracle o) {
        int pick = r.nextInt(10);
        if (pick == 0) {
            return about(r, 64);
        }
        int so = o.conditions();
        return pick < 3 ? r.nextInt(64) : so & (1 << r.nextInt(6) | (r.nextBoolean() ? 1 << r.nextInt(6) : 0));
    }

    private static Call someCall(Random r, Oracle o) {
        String name = NAMES[r.nextInt(NAMES.length)];
        return switch (name) {
            case "draw" -> new Call(name, about(r, 6), 0);
            case "again" -> new Call(name, r.nextBoolean() ? r.nextLong() : r.nextInt(50), 0);
            case "part" -> new Call(name, about(r, o.count(0)), about(r, 8));
            case "leave" -> new Call(name, about(r, o.count(0)), r.nextInt(4) == 0 ? 0 : 1);
            case "verdict" -> new Call(name, someBits(r, o), 0);
            case "left" -> new Call(name, about(r, o.count(5)), 0);
            case "pieces" -> new Call(name, about(r, o.count(1)), about(r, o.count(2)));
            case "most" -> new Call(name, about(r, o.count(1)), 0);
            case "same" -> r.nextInt(4) == 0
                ? new Call(name, r.nextLong(), about(r, 6))
                : new Call(name, o.stateOfDrawing.longValue(), r.nextInt(3) == 0 ? about(r, 6) : o.size);
            case "count" -> new Call(name, about(r, 8), 0);
            default -> new Call(name, 0, 0);
        };
    }

    private static void run(int number) {
        Random r = new Random(number);
        int seed = number % 2 == 0 ? r.nextInt() : number - RUNS / 2;
        StockDrawer x = new StockDrawer(seed);
        Oracle o = new Oracle(seed);
        for (int c = 0; c < CALLS_OF_A_RUN; c++) {
            Call call = someCall(r, o);
            String got = call.classAnswer(x);
            String want = call.oracleAnswer(o);
            boolean named = want.startsWith("throws.") || want.equals("true") || want.equals("false");
            SEEN.merge(call.name + " " + (named ? want : "a number"), 1, Integer::sum);
            if (!got.equals(want)) {
                wrong++;
                System.out.println("run " + number + ", call " + c + ": new StockDrawer(" + seed + ") .. " + call
                    + " answered " + got + ", due is " + want);
                return;
            }
        }
    }

    /** A kind of answer that no run meets would be a kind that nothing tests. */
    private static void everyKindOfAnswerWasMet() {
        String[] kinds = {
            "draw a number", "draw throws.IllegalArgumentException", "part a number",
            "part throws.NoSuchElementException", "part throws.IllegalArgumentException", "leave true",
            "leave false", "leave throws.NoSuchElementException", "leave throws.IllegalStateException",
            "conditions a number", "verdict true", "verdict false", "verdict throws.IllegalArgumentException",
            "holds true", "holds false", "shorter a number", "shorter throws.IllegalStateException",
            "minimal true", "minimal false", "left a number", "left throws.NoSuchElementException",
            "whole a number", "pieces a number", "pieces throws.NoSuchElementException", "most a number",
            "most throws.NoSuchElementException", "same true", "same false",
            "same throws.IllegalArgumentException", "count a number"};
        for (String kind : kinds) {
            if (SEEN.getOrDefault(kind, 0) < 100) {
                wrong++;
                System.out.println("too few answers of the kind: " + kind + ", " + SEEN.getOrDefault(kind, 0));
            }
        }
    }

    public static void main(String[] args) {
        for (int number = 0; number < RUNS && wrong < 20; number++) {
            run(number);
        }
        everyKindOfAnswerWasMet();
        System.out.println(wrong == 0 ? "all answers are as the oracle's" : wrong + " answers are not as the oracle's");
        if (wrong != 0) {
            System.exit(1);
        }
    }
}
