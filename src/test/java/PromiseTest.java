import java.lang.reflect.Method;
import java.lang.reflect.Modifier;

/**
 * For each promise its ordinary answers, its boundary cases and each refusal that the document names
 * for it. The warehouses are small enough to be followed by hand; what stands in them is told where used.
 */
public final class PromiseTest extends Check {
    /** The promises behind the first one, in their order. */
    private static final String[] METHODS = {"draw", "again", "part", "leave", "conditions", "verdict", "holds",
        "shorter", "minimal", "left", "whole", "pieces", "most", "same", "count"};
    private static final String ORDINARY = ", ordinary answers";
    private static final String BOUNDARY = ", boundary cases";
    private static final String REFUSALS = ", refusals";

    private static void ordinary(int promise) {
        sentence("promise " + promise + ORDINARY);
    }

    private static void boundary(int promise) {
        sentence("promise " + promise + BOUNDARY);
    }

    private static void refusals(int promise) {
        sentence("promise " + promise + REFUSALS);
    }

    /** All parts as one text, without whether they are left. */
    private static String parts(StockDrawer x) {
        StringBuilder text = new StringBuilder();
        for (int i = 0; i < x.count(0); i++) {
            for (int what = 0; what < 7; what++) {
                text.append(x.part(i, what)).append(what < 6 ? ',' : ';');
            }
        }
        return text.toString();
    }

    // Promise 1

    private static void newObject() {
        ordinary(1);
        StockDrawer x = new StockDrawer(5);
        for (int what = 0; what < 7; what++) {
            due("count(" + what + ")", x.count(what), 0);
        }
        due("count(7)", x.count(7), -1);
        due("conditions()", x.conditions(), 0);
        due("holds()", x.holds(), true);
        due("minimal()", x.minimal(), true);
        due("shorter()", x.shorter(), 0);
        due("whole()", x.whole(), 0);
        due("same(5, 0)", x.same(5, 0), false);
        due("verdict(1)", x.verdict(1), false);
        boundary(1);
        due("same(-5, 5) by new StockDrawer(-5)", drawn(-5, 5).same(-5L, 5), true);
        due("same(2^31, 5) by its lowest seed", drawn(Integer.MIN_VALUE, 5).same(1L << 31, 5), false);
        due("same(2^31 - 1, 5) by its highest seed", drawn(Integer.MAX_VALUE, 5).same((1L << 31) - 1, 5), true);
        refusals(1);
        refused("shorter(), verdict 1", STATE, () -> x.shorter());
        refused("part(0, 0)", NO_ELEMENT, () -> x.part(0, 0));
        refused("leave(0, true)", NO_ELEMENT, () -> x.leave(0, true));
        refused("left(0)", NO_ELEMENT, () -> x.left(0));
        refused("pieces(0, 0)", NO_ELEMENT, () -> x.pieces(0, 0));
        refused("most(0)", NO_ELEMENT, () -> x.most(0));
    }

    // Promise 2

    private static void draw() {
        ordinary(2);
        StockDrawer x = new StockDrawer(2);
        due("draw(0)", x.draw(0), 5);
        dueText("draw(0)", parts(x),
            "0,0,6,-1,-1,0,0;1,0,3,-1,-1,0,0;2,0,4,0,0,0,0;2,1,5,0,0,0,1;2,2,4,0,0,1,0;");
        due("draw(1) of 25", new StockDrawer(25).draw(1), 8);
        dueText("draw(1) of 25", parts(drawn(25, 1)),
            "0,0,13,-1,-1,0,0;0,1,19,-1,-1,0,0;1,0,3,-1,-1,0,0;1,1,3,-1,-1,0,0;"
            + "2,0,5,1,0,0,0;2,1,2,0,0,0,0;2,2,5,0,1,1,0;2,3,2,1,1,0,0;");
        drawGoesOnFromTheState();
        boundary(2);
        due("draw(0) without acts", new StockDrawer(3).draw(0), 2);
        due("draw(5) with the most parts there can be", new StockDrawer(441).draw(5), 30);
        refusals(2);
        refusedDrawChangesNothing();
    }

    private static void drawGoesOnFromTheState() {
        StockDrawer x = drawn(2, 3);
        String first = parts(x);
        x.leave(0, true);
        x.verdict(0);
        x.draw(3);
        due("another drawing is the first one", parts(x).equals(first), false);
        due("parts left of another drawing", x.count(5), x.count(0));
        // 20 draws: places, room, goods, grams, acts, and five for each of three acts
        StockDrawer y = drawn(2, 0);
        long state = 2;
        for (int i = 0; i < 20; i++) {
            state = state * 6364136223846793005L + 1442695040888963407L;
        }
        y.draw(4);
        due("the state behind 20 draws", y.same(state, 4), true);
    }

    private static void refusedDrawChangesNothing() {
        StockDrawer x = drawn(2, 0);
        x.leave(3, true);
        int[] sizes = {-1, 6, Integer.MIN_VALUE, Integer.MAX_VALUE};
        for (int size : sizes) {
            refused("draw(" + size + ")", ARGUMENT, () -> x.draw(size));
        }
        due("the drawing stays", x.same(2, 0), true);
        due("what is out stays", x.count(5), 4);
        due("the size stays", x.count(7), 0);
        StockDrawer y = drawn(2, 0);
        x.draw(5);
        y.draw(5);
        dueText("the state stays", parts(x), parts(y));
    }

    // Promise 3

    private static void again() {
        ordinary(3);
        StockDrawer x = drawn(2, 0);
        x.leave(3, true);
        x.again(25);
        due("the drawing stays", x.same(2, 0), true);
        due("what is out stays", x.count(5), 4);
        x.draw(1);
        dueText("again(25)", parts(x), parts(drawn(25, 1)));
        boundary(3);
        x.again(Long.MIN_VALUE + 7);
        x.draw(5);
        due("again with a long", x.same(Long.MIN_VALUE + 7, 5), true);
        due("its lower half alone", x.same(7, 5), false);
    }

    // Promise 4

    private static void part() {
        ordinary(4);
        StockDrawer x = drawn(25, 1);
        int[][] facts = {
            {0, 0, 13, -1, -1, 0, 0, 1}, {0, 1, 19, -1, -1, 0, 0, 1},
            {1, 0, 3, -1, -1, 0, 0, 1}, {1, 1, 3, -1, -1, 0, 0, 1},
            {2, 0, 5, 1, 0, 0, 0, 1}, {2, 1, 2, 0, 0, 0, 0, 1}, {2, 2, 5, 0, 1, 1, 0, 1}, {2, 3, 2, 1, 1, 0, 0, 1}};
        for (int i = 0; i < facts.length; i++) {
            for (int what = 0; what < 8; what++) {
                due("part(" + i + ", " + what + ")", x.part(i, what), facts[i][what]);
            }
        }
        due("part(3, 6), a lie", drawn(2, 0).part(3, 6), 1);
        boundary(4);
        x.leave(1, true);
        due("part(1, 7), out", x.part(1, 7), 0);
        due("part(1, 2), out", x.part(1, 2), 19);
        due("part(4, 7), its place is out", x.part(4, 7), 1);
        due("part(29, 1), the last one there can be", drawn(441, 5).part(29, 1), 17);
        refusals(4);
        refused("part(8, 0)", NO_ELEMENT, () -> x.part(8, 0));
        refused("part(-1, 0)", NO_ELEMENT, () -> x.part(-1, 0));
        refused("part(MAX, 0)", NO_ELEMENT, () -> x.part(Integer.MAX_VALUE, 0));
        refused("part(MIN, 0)", NO_ELEMENT, () -> x.part(Integer.MIN_VALUE, 0));
        refused("part(0, 8)", ARGUMENT, () -> x.part(0, 8));
        refused("part(0, -1)", ARGUMENT, () -> x.part(0, -1));
        refused("part(8, 8), both wrong", NO_ELEMENT, () -> x.part(8, 8));
    }

    // Promise 5

    private static void leave() {
        ordinary(5);
        // a room of 6, 3 grams; 4 put, 5 put (a lie), 4 taken
        StockDrawer x = drawn(2, 0);
        due("leave(3, true), verdict 0", x.leave(3, true), true);
        due("leave(3, false)", x.leave(3, false), true);
        x.verdict(8);
        due("leave(2, true) keeps the lie", x.leave(2, true), true);
        due("leave(3, true) is the lie", x.leave(3, true), false);
        due("leave(3, false)", x.leave(3, false), true);
        due("leave(1, true), the good of the lie", x.leave(1, true), false);
        due("count(6)", x.count(6), 0);
        due("leave(1, false)", x.leave(1, false), true);
        boundary(5);
        due("leave(4, true), the last part", x.leave(4, true), true);
        due("leave(4, false)", x.leave(4, false), true);
        due("leave(0, true), the first one, the place of the lie", x.leave(0, true), false);
        dueText("left", left(x), "1 3 4");
        refusals(5);
        refused("leave(0, true) again", STATE, () -> x.leave(0, true));
        refused("leave(3, false), it is left", STATE, () -> x.leave(3, false));
        refused("leave(5, true)", NO_ELEMENT, () -> x.leave(5, true));
        refused("leave(-1, false)", NO_ELEMENT, () -> x.leave(-1, false));
        refused("leave(MAX, true)", NO_ELEMENT, () -> x.leave(Integer.MAX_VALUE, true));
        refused("leave(MIN, true)", NO_ELEMENT, () -> x.leave(Integer.MIN_VALUE, true));
        // a part number that the drawing before had
        x.verdict(0);
        x.again(3);
        x.draw(0);
        refused("leave(2, true) with two parts", NO_ELEMENT, () -> x.leave(2, true));
    }

    // Promise 6

    private static void conditions() {
        ordinary(6);
        due("all of them", drawn(61, 1).conditions(), 63);
        due("none: 3 put twice, 6 of 17 grams", drawn(1, 0).conditions(), 0);
        due("0 and 1: 21 of 19 grams, -5 pieces", drawn(25, 1).conditions(), 3);
        due("0: 24 of 5 grams, then less, 12", drawn(9, 0).conditions() & 1, 1);
        due("1 and 4: -2, -1, 3 pieces", drawn(33, 0).conditions(), 18);
        StockDrawer x = drawn(2, 0);
        due("0, 3 and 4", x.conditions(), 25);
        x.leave(3, true);
        due("2, as the act between is out", x.conditions(), 5);
        conditionsAtTheirBoundaries();
    }

    private static void conditionsAtTheirBoundaries() {
        boundary(6);
        due("not 0: 6 of 6 grams", drawn(117, 0).conditions(), 16);
        due("1: -4 pieces at the end, even", drawn(4, 0).conditions(), 2);
        due("not 2: the same put twice by draws 0 and 1", drawn(74, 0).conditions(), 16);
        due("5: no acts", drawn(3, 0).conditions(), 32);
        StockDrawer x = drawn(2, 0);
        x.leave(1, true);
        due("5, as the good of all acts is out", x.conditions(), 32);
        x.leave(0, true);
        due("not 5: the place is out too", x.conditions(), 0);
        StockDrawer y = drawn(61, 1);
        y.leave(0, true);
        due("not 5: the idle place is out", y.conditions(), 31);
        y.leave(7, true);
        due("4 by -3 pieces", y.conditions(), 31);
    }

    // Promise 7

    private static void verdict() {
        ordinary(7);
        StockDrawer x = drawn(2, 0);
        int so = 25;
        for (int bits = 0; bits < 64; bits++) {
            due("verdict(" + bits + ")", x.verdict(bits), (bits & ~so) == 0);
        }
        due("verdict(25)", x.verdict(25), true);
        refusals(7);
        int[] far = {-1, 64, Integer.MIN_VALUE, Integer.MAX_VALUE, 64 + 25};
        for (int bits : far) {
            refused("verdict(" + bits + ")", ARGUMENT, () -> x.verdict(bits));
        }
        due("the verdict stays", x.holds(), true);
        due("and is 25 still", x.leave(3, true), false);
        boundary(7);
        StockDrawer y = new StockDrawer(3);
        due("verdict(0) before a drawing", y.verdict(0), true);
        due("verdict(63) before a drawing", y.verdict(63), false);
        due("verdict(32) before a drawing", y.verdict(32), false);
        y.draw(0);
        due("a drawing leaves the verdict", y.holds(), true);
        y.leave(0, true);
        due("and holds no more", y.holds(), false);
    }

    // Promise 8

    private static void holds() {
        ordinary(8);
        StockDrawer x = drawn(2, 0);
        x.verdict(9);
        due("holds(), 9 of 25", x.holds(), true);
        x.verdict(26);
        due("holds(), 26 of 25", x.holds(), false);
        x.verdict(8);
        x.leave(3, true);
        due("holds() without the lie", x.holds(), false);
        x.whole();
        due("holds() with the lie", x.holds(), true);
        boundary(8);
        due("holds(), no verdict was asked for", drawn(2, 0).holds(), true);
        x.verdict(0);
        x.shorter();
        due("holds(), verdict 0 with all out", x.holds(), true);
        x.verdict(1);
        due("holds(), verdict 1 with all out", x.holds(), false);
    }

    // Promise 9

    private static void shorter() {
        ordinary(9);
        // two places, two goods; at place 1 of good 0: 4 put, 4 taken, 3 taken (a lie), 2 put
        StockDrawer x = drawn(61, 1);
        x.verdict(63);
        due("shorter()", x.shorter(), 6);
        dueText("left", left(x), "0 1 2 4 5 6");
        x.whole();
        x.verdict(8);
        due("shorter() for the lie", x.shorter(), 3);
        dueText("left", left(x), "1 2 6");
        StockDrawer twoLies = drawn(15, 0, "rooms 15, grams 2: 0/0 +5!, 0/0 +5!");
        twoLies.verdict(8);
        due("shorter(), one of two lies", twoLies.shorter(), 3);
        dueText("left, the last part was out first", left(twoLies), "0 1 2");
        shorterInManyRounds();
        boundary(9);
        due("shorter() again", x.shorter(), 3);
        x.verdict(0);
        due("shorter() for nothing", x.shorter(), 0);
        due("shorter() of nothing", x.shorter(), 0);
        x.whole();
        x.leave(6, true);
        x.verdict(4);
        due("what is out stays out", x.shorter(), 4);
        dueText("left", left(x), "1 2 4 5");
        refusals(9);
        x.whole();
        x.leave(6, true);
        x.verdict(8);
        refused("shorter()", STATE, () -> x.shorter());
        dueText("all stay", left(x), "0 1 2 3 4 5 7");
    }

    private static void shorterInManyRounds() {
        // three rounds leave out parts here, the fourth none
        StockDrawer x = drawn(2, 3);
        due("verdict(22)", x.verdict(22), true);
        due("shorter()", x.shorter(), 9);
        due("minimal()", x.minimal(), true);
        StockDrawer y = drawn(2, 3);
        y.verdict(22);
        int[] leftOut = new int[5];
        for (int round = 0; round < 5; round++) {
            leftOut[round] = leaveOutByHand(y);
        }
        due("round 3 left out some", leftOut[2] > 0, true);
        due("round 4 left out none", leftOut[3], 0);
        dueText("left by hand", left(y), left(x));
    }

    private static int leaveOutByHand(StockDrawer y) {
        int some = 0;
        for (int i = y.count(0) - 1; i >= 0; i--) {
            if (y.part(i, 7) == 0) {
                continue;
            }
            if (y.leave(i, true)) {
                some++;
            } else {
                y.leave(i, false);
            }
        }
        return some;
    }

    // Promise 10

    private static void minimal() {
        ordinary(10);
        StockDrawer x = drawn(61, 1);
        x.verdict(8);
        due("minimal(), all left", x.minimal(), false);
        int[] needless = {7, 5, 4, 3, 0};
        for (int i : needless) {
            due("minimal() before leave(" + i + ", true)", x.minimal(), false);
            x.leave(i, true);
        }
        due("minimal(), lie, place and good", x.minimal(), true);
        dueText("minimal() leaves out none", left(x), "1 2 6");
        x.leave(6, true);
        due("minimal(), it does not hold", x.minimal(), false);
        boundary(10);
        due("minimal(), verdict 0 with parts left", drawn(61, 1).minimal(), false);
        StockDrawer y = drawn(3, 0);
        y.verdict(32);
        due("minimal(), the good is not needed", y.minimal(), false);
        y.leave(1, true);
        due("minimal(), an idle place", y.minimal(), true);
        y.verdict(0);
        y.leave(0, true);
        due("minimal(), none left, verdict 0", y.minimal(), true);
    }

    // Promise 11

    private static void leftOnes() {
        ordinary(11);
        StockDrawer x = drawn(2, 0);
        for (int i = 0; i < 5; i++) {
            due("left(" + i + ")", x.left(i), i);
        }
        refusals(11);
        refused("left(5), none out", NO_ELEMENT, () -> x.left(5));
        x.leave(0, true);
        x.leave(3, true);
        refused("left(3), two out", NO_ELEMENT, () -> x.left(3));
        refused("left(-1)", NO_ELEMENT, () -> x.left(-1));
        refused("left(MAX)", NO_ELEMENT, () -> x.left(Integer.MAX_VALUE));
        refused("left(MIN)", NO_ELEMENT, () -> x.left(Integer.MIN_VALUE));
        boundary(11);
        due("left(0), the first part is out", x.left(0), 1);
        due("left(1), its place is out", x.left(1), 2);
        due("left(2), the last one", x.left(2), 4);
    }

    // Promise 12

    private static void whole() {
        ordinary(12);
        StockDrawer x = drawn(2, 0);
        x.leave(0, true);
        x.leave(4, true);
        due("whole()", x.whole(), 2);
        dueText("left", left(x), "0 1 2 3 4");
        boundary(12);
        due("whole() again, none out", x.whole(), 0);
        x.shorter();
        due("whole(), all were out", x.whole(), 5);
        x.verdict(8);
        x.leave(3, true);
        x.whole();
        due("the verdict stays", x.leave(3, true), false);
    }

    // Promise 13

    private static void pieces() {
        ordinary(13);
        StockDrawer x = drawn(25, 1);
        int[][] stock = {{2, -5}, {5, 2}};
        for (int place = 0; place < 2; place++) {
            for (int good = 0; good < 2; good++) {
                due("pieces(" + place + ", " + good + ")", x.pieces(place, good), stock[place][good]);
            }
        }
        x.leave(6, true);
        due("pieces(0, 1), the act is out", x.pieces(0, 1), 0);
        boundary(13);
        x.leave(1, true);
        due("pieces(1, 0), the place is out", x.pieces(1, 0), 0);
        x.leave(2, true);
        due("pieces(0, 0), the good is out", x.pieces(0, 0), 0);
        // the cells of a larger drawing before
        StockDrawer y = drawn(441, 5);
        y.again(4);
        y.draw(0);
        due("pieces(0, 0) below 0", y.pieces(0, 0), -4);
        refusals(13);
        int[][] missing = {{2, 0}, {0, 2}, {-1, 0}, {0, -1}, {Integer.MAX_VALUE, 0}, {0, Integer.MIN_VALUE}};
        for (int[] m : missing) {
            refused("pieces(" + m[0] + ", " + m[1] + ")", NO_ELEMENT, () -> x.pieces(m[0], m[1]));
        }
        refused("pieces(1, 0)", NO_ELEMENT, () -> y.pieces(1, 0));
        refused("pieces(0, 1)", NO_ELEMENT, () -> y.pieces(0, 1));
    }

    // Promise 14

    private static void most() {
        ordinary(14);
        StockDrawer x = drawn(25, 1);
        due("most(0), 2 pieces, then others below 0", x.most(0), 6);
        due("most(1), two goods", x.most(1), 21);
        x.leave(7, true);
        due("most(1), one good", x.most(1), 15);
        due("most(0), more than at the end", drawn(2, 0).most(0), 27);
        StockDrawer y = drawn(303, 1, "rooms 12, grams 6 2: 0/0 -4, 0/1 -1, 0/1 +5, 0/1 +5");
        due("most(0), pieces of another good below 0 take off nothing", y.most(0), 18);
        boundary(14);
        x.leave(1, true);
        due("most(1), the place is out", x.most(1), 0);
        x.whole();
        x.leave(2, true);
        due("most(1), the first good is out", x.most(1), 6);
        due("most(0), below 0 alone", x.most(0), 0);
        due("most(0), without acts", drawn(3, 0).most(0), 0);
        refusals(14);
        refused("most(2)", NO_ELEMENT, () -> x.most(2));
        refused("most(-1)", NO_ELEMENT, () -> x.most(-1));
        refused("most(MAX)", NO_ELEMENT, () -> x.most(Integer.MAX_VALUE));
        refused("most(MIN)", NO_ELEMENT, () -> x.most(Integer.MIN_VALUE));
    }

    // Promise 15

    private static void same() {
        ordinary(15);
        StockDrawer x = drawn(25, 1);
        due("same(25, 1)", x.same(25, 1), true);
        due("same(25, 2)", x.same(25, 2), false);
        due("same(26, 1)", x.same(26, 1), false);
        sameOnlyIfEveryPartIs();
        boundary(15);
        x.shorter();
        due("same(25, 1), all out", x.same(25, 1), true);
        due("what is out stays", x.count(5), 0);
        due("same parts of another size", drawn(11639, 0).same(2320, 1), true);
        due("and the other way", drawn(2320, 1).same(11639, 0), true);
        StockDrawer y = drawn(25, 1);
        y.same(99, 5);
        StockDrawer z = drawn(25, 1);
        y.draw(5);
        z.draw(5);
        dueText("the state stays", parts(y), parts(z));
        refusals(15);
        int[] sizes = {-1, 6, Integer.MIN_VALUE, Integer.MAX_VALUE};
        for (int size : sizes) {
            refused("same(25, " + size + ")", ARGUMENT, () -> x.same(25, size));
        }
        refused("same(25, 6) before a drawing", ARGUMENT, () -> new StockDrawer(1).same(25, 6));
    }

    /** Each seed by its size 0 drawing against each other one: alike if and only if the texts are. */
    private static void sameOnlyIfEveryPartIs() {
        int many = 300;
        StockDrawer[] all = new StockDrawer[many];
        String[] texts = new String[many];
        for (int seed = 0; seed < many; seed++) {
            all[seed] = drawn(seed, 0);
            texts[seed] = parts(all[seed]);
        }
        for (int seed = 0; seed < many; seed++) {
            for (int other = 0; other < many; other++) {
                due(seed + " same(" + other + ", 0)", all[seed].same(other, 0), texts[seed].equals(texts[other]));
            }
        }
    }

    // Promise 16

    private static void count() {
        ordinary(16);
        StockDrawer x = drawn(61, 1);
        long[] whole = {8, 2, 2, 4, 1, 8, 4, 1};
        for (int what = 0; what < whole.length; what++) {
            due("count(" + what + ")", x.count(what), whole[what]);
        }
        x.leave(6, true);
        x.leave(0, true);
        long[] rest = {8, 2, 2, 4, 1, 6, 3, 1};
        for (int what = 0; what < rest.length; what++) {
            due("count(" + what + ") with two out", x.count(what), rest[what]);
        }
        boundary(16);
        x.leave(2, true);
        due("count(6), their good is out", x.count(6), 0);
        due("count(5)", x.count(5), 5);
        int[] others = {-1, 8, Integer.MIN_VALUE, Integer.MAX_VALUE};
        for (int what : others) {
            due("count(" + what + ")", x.count(what), -1);
        }
        due("count(7) of size 0", drawn(2, 0).count(7), 0);
        due("count(7) of size 5", drawn(2, 5).count(7), 5);
    }

    // That no promise lacks one of its tests

    private static void noTestIsLacking() {
        due("promises with a method", METHODS.length, 15);
        answersWereLookedAt(1);
        for (int i = 0; i < METHODS.length; i++) {
            answersWereLookedAt(i + 2);
            refusalsWereLookedAt(i + 2, METHODS[i]);
        }
    }

    private static void answersWereLookedAt(int promise) {
        String name = "promise " + promise;
        due("a test of the ordinary answers of " + name, hasLookedAt(name + ORDINARY), true);
        due("a test of the boundary cases of " + name, hasLookedAt(name + BOUNDARY), true);
    }

    /** The refusals that the document names stand in the face, which FaceTest holds to the letter. */
    private static void refusalsWereLookedAt(int promise, String method) {
        String name = "promise " + promise;
        for (Method m : StockDrawer.class.getDeclaredMethods()) {
            if (!m.getName().equals(method) || !Modifier.isPublic(m.getModifiers())) {
                continue;
            }
            for (Class<?> e : m.getExceptionTypes()) {
                String refusal = name + REFUSALS + " " + e.getSimpleName();
                due("a test of " + refusal, hasLookedAt(refusal), true);
            }
        }
    }

    public static void main(String[] args) {
        newObject();
        draw();
        again();
        part();
        leave();
        conditions();
        verdict();
        holds();
        shorter();
        minimal();
        leftOnes();
        whole();
        pieces();
        most();
        same();
        count();
        sentence("each promise has its tests");
        noTestIsLacking();
        end();
    }
}
