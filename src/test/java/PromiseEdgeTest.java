import java.util.function.Consumer;

/**
 * The boundary cases of the promises, one method for each sentence that has some: arguments just
 * inside and just outside their ranges, nothing drawn, all parts out, none out, refused calls.
 */
public final class PromiseEdgeTest extends Check {
    private static final int LOWEST = Integer.MIN_VALUE;
    private static final int HIGHEST = Integer.MAX_VALUE;

    /** Places 0 and 1, goods 2 and 3, acts 4 to 7; all conditions are so. */
    private static StockDrawer eightParts() {
        return drawn(61, 1, "rooms 5 4, grams 3 4: 1/0 +4, 1/0 -4, 1/0 -3!, 1/0 +2");
    }

    private static StockDrawer allOut() {
        StockDrawer x = eightParts();
        leaveAllOut(x);
        return x;
    }

    /** Not as a new object in anything that a call could change. */
    private static StockDrawer worn() {
        StockDrawer x = drawn(61, 1);
        x.verdict(10);
        x.leave(0, true);
        x.leave(7, true);
        return x;
    }

    /** Holds an object that heard the call against one that did not. */
    private static void changesNothing(String call, Consumer<StockDrawer> asked) {
        StockDrawer x = worn();
        asked.accept(x);
        dueText("everything behind " + call, everythingFromHere(x), everythingFromHere(worn()));
        StockDrawer y = new StockDrawer(61);
        asked.accept(y);
        dueText("everything behind " + call + " before a drawing",
            everythingFromHere(y), everythingFromHere(new StockDrawer(61)));
    }

    private static void refusalChangesNothing(String call, Class<?> with, Consumer<StockDrawer> asked) {
        StockDrawer x = worn();
        refused(call, with, () -> asked.accept(x));
        dueText("everything behind the refused " + call, everythingFromHere(x), everythingFromHere(worn()));
    }

    private static void nothingIsDrawn() {
        sentence("Promise 1: nothing is drawn");
        StockDrawer x = new StockDrawer(2);
        for (int what = 0; what <= 6; what++) {
            due("count(" + what + ")", x.count(what), 0);
        }
        due("count(7)", x.count(7), -1);
    }

    private static void lowestAndHighestSeed() {
        sentence("Promise 1: a seed, the lowest and the highest one");
        due("draw(5) of the lowest", new StockDrawer(LOWEST).draw(5), 19);
        due("draw(5) of the highest", new StockDrawer(HIGHEST).draw(5), 26);
        due("same by the lowest", drawn(LOWEST, 5).same(LOWEST, 5), true);
        due("same by the highest", drawn(HIGHEST, 5).same(HIGHEST, 5), true);
    }

    private static void seedsOfTwoObjects() {
        sentence("Promise 1: each object has its own seed and drawing");
        StockDrawer x = drawn(2, 0);
        StockDrawer y = drawn(3, 0);
        x.verdict(8);
        x.leave(3, true);
        due("count(0) of the other", y.count(0), 2);
        due("count(5) of the other", y.count(5), 2);
        due("holds() of the other", y.holds(), true);
        due("count(0) of the one", x.count(0), 5);
    }

    private static void sizesInRange() {
        sentence("Promise 2: sizes 0 and 5 are drawn");
        due("draw(0)", new StockDrawer(3).draw(0), 2);
        due("draw(0)", new StockDrawer(2).draw(0), 5);
        due("draw(5)", new StockDrawer(236).draw(5), 17);
        due("draw(5)", new StockDrawer(441).draw(5), 30);
    }

    private static void sizesOutOfRange() {
        sentence("Promise 2: sizes -1 and 6 are refused");
        int[] sizes = {-1, 6, LOWEST, HIGHEST};
        for (int size : sizes) {
            refusalChangesNothing("draw(" + size + ")", ARGUMENT, x -> x.draw(size));
        }
        StockDrawer x = new StockDrawer(2);
        refused("draw(-1) before a drawing", ARGUMENT, () -> x.draw(-1));
        refused("draw(6) before a drawing", ARGUMENT, () -> x.draw(6));
        due("count(7) behind it", x.count(7), -1);
        due("draw(0) behind it", x.draw(0), 5);
    }

    private static void anotherDrawingIsWhole() {
        sentence("Promise 2: another drawing has all parts left");
        StockDrawer x = allOut();
        due("count(5), all out", x.count(5), 0);
        int parts = x.draw(5);
        due("count(5) of another", x.count(5), parts);
        due("whole() of another", x.whole(), 0);
    }

    private static void anotherDrawingTakesThePlace() {
        sentence("Promise 2: another drawing takes the first one's place");
        StockDrawer x = drawn(441, 5);
        x.again(3);
        due("draw(0) behind the largest", x.draw(0), 2);
        dueText("it", told(x), "rooms 7, grams 5");
        due("count(3)", x.count(3), 0);
        due("count(4)", x.count(4), 0);
        refused("part(2, 0)", NO_ELEMENT, () -> x.part(2, 0));
        refused("left(2)", NO_ELEMENT, () -> x.left(2));
        x.again(441);
        due("draw(5) behind the smallest", x.draw(5), 30);
        due("same(441, 5)", x.same(441, 5), true);
    }

    private static void againAtTheEndsOfLong() {
        sentence("Promise 3: a seed of 64 bits, at its ends");
        long[] seeds = {Long.MIN_VALUE, Long.MAX_VALUE, -1, 0, 1L << 32};
        String[] drawings = {"rooms 12, grams 3: 0/0 +5", "rooms 23, grams 1", "rooms 7, grams 3",
            "rooms 8, grams 5: 0/0 +1", "rooms 21, grams 2: 0/0 +3!, 0/0 -1, 0/0 -5"};
        for (int i = 0; i < seeds.length; i++) {
            StockDrawer x = new StockDrawer(5);
            x.again(seeds[i]);
            x.draw(0);
            dueText("draw(0) behind again(" + seeds[i] + ")", told(x), drawings[i]);
        }
    }

    private static void againIsTheStateAlone() {
        sentence("Promise 3: the state alone is another one");
        StockDrawer x = worn();
        x.again(25);
        dueText("everything", everything(x), everything(worn()));
        x.again(24);
        x.again(25);
        x.draw(1);
        due("same(25, 1) behind the last again", x.same(25, 1), true);
        StockDrawer y = new StockDrawer(61);
        y.again(25);
        due("count(7), nothing is drawn", y.count(7), -1);
        y.again(61);
        y.draw(1);
        due("same(61, 1)", y.same(61, 1), true);
    }

    private static void partsInRange() {
        sentence("Promise 4: the first part and the last one, the first what and the last one");
        StockDrawer x = eightParts();
        due("part(0, 0)", x.part(0, 0), 0);
        due("part(0, 7)", x.part(0, 7), 1);
        due("part(7, 0)", x.part(7, 0), 2);
        due("part(7, 7)", x.part(7, 7), 1);
    }

    private static void partsOutOfRange() {
        sentence("Promise 4: a part that there is not");
        int[] parts = {-1, 8, LOWEST, HIGHEST};
        for (int i : parts) {
            refusalChangesNothing("part(" + i + ", 0)", NO_ELEMENT, x -> x.part(i, 0));
            refusalChangesNothing("part(" + i + ", 7)", NO_ELEMENT, x -> x.part(i, 7));
        }
        refused("part(30, 0) of the largest", NO_ELEMENT, () -> drawn(441, 5).part(30, 0));
        refused("part(0, 0) before a drawing", NO_ELEMENT, () -> new StockDrawer(1).part(0, 0));
        refused("part(2, 0) of the smallest", NO_ELEMENT, () -> drawn(3, 0).part(2, 0));
    }

    private static void whatOutOfRange() {
        sentence("Promise 4: a what outside 0 to 7");
        int[] whats = {-1, 8, LOWEST, HIGHEST};
        for (int what : whats) {
            refusalChangesNothing("part(0, " + what + ")", ARGUMENT, x -> x.part(0, what));
            refusalChangesNothing("part(7, " + what + ")", ARGUMENT, x -> x.part(7, what));
        }
    }

    private static void factsOfNoAct() {
        sentence("Promise 4: place and good are -1, taking and lie 0 of a part that is no act");
        StockDrawer x = eightParts();
        for (int i = 0; i < 4; i++) {
            due("part(" + i + ", 3)", x.part(i, 3), -1);
            due("part(" + i + ", 4)", x.part(i, 4), -1);
            due("part(" + i + ", 5)", x.part(i, 5), 0);
            due("part(" + i + ", 6)", x.part(i, 6), 0);
        }
        // parts that were acts of the drawing before
        StockDrawer y = drawn(3, 0);
        y.draw(0);
        y.again(441);
        y.draw(5);
        for (int i = 0; i < 12; i++) {
            due("part(" + i + ", 3) of the largest", y.part(i, 3), -1);
            due("part(" + i + ", 4) of the largest", y.part(i, 4), -1);
            due("part(" + i + ", 5) of the largest", y.part(i, 5), 0);
            due("part(" + i + ", 6) of the largest", y.part(i, 6), 0);
        }
    }

    private static void factsOfAPartThatIsOut() {
        sentence("Promise 4: a part that is out is still one, and is not left");
        StockDrawer x = allOut();
        StockDrawer y = eightParts();
        for (int i = 0; i < 8; i++) {
            for (int what = 0; what < 7; what++) {
                due("part(" + i + ", " + what + "), all out", x.part(i, what), y.part(i, what));
            }
            due("part(" + i + ", 7), all out", x.part(i, 7), 0);
            due("part(" + i + ", 7), none out", y.part(i, 7), 1);
        }
    }

    private static void leaveInRange() {
        sentence("Promise 5: the first part and the last one are out, and left again");
        StockDrawer x = eightParts();
        int[] ends = {0, 7};
        for (int i : ends) {
            due("leave(" + i + ", true)", x.leave(i, true), true);
            due("part(" + i + ", 7)", x.part(i, 7), 0);
            due("count(5)", x.count(5), 7);
            due("leave(" + i + ", false)", x.leave(i, false), true);
            due("part(" + i + ", 7)", x.part(i, 7), 1);
        }
    }

    private static void leaveOutOfRange() {
        sentence("Promise 5: a part that there is not");
        int[] parts = {-1, 8, LOWEST, HIGHEST};
        for (int i : parts) {
            refusalChangesNothing("leave(" + i + ", true)", NO_ELEMENT, x -> x.leave(i, true));
            refusalChangesNothing("leave(" + i + ", false)", NO_ELEMENT, x -> x.leave(i, false));
        }
        refused("leave(30, true) of the largest", NO_ELEMENT, () -> drawn(441, 5).leave(30, true));
        refused("leave(0, true) before a drawing", NO_ELEMENT, () -> new StockDrawer(1).leave(0, true));
    }

    private static void leaveWhatIsSo() {
        sentence("Promise 5: it is so");
        // 0 and 7 are out, 1 to 6 are left
        refusalChangesNothing("leave(0, true)", STATE, x -> x.leave(0, true));
        refusalChangesNothing("leave(7, true)", STATE, x -> x.leave(7, true));
        refusalChangesNothing("leave(1, false)", STATE, x -> x.leave(1, false));
        refusalChangesNothing("leave(6, false)", STATE, x -> x.leave(6, false));
        StockDrawer all = allOut();
        StockDrawer none = eightParts();
        for (int i = 0; i < 8; i++) {
            int part = i;
            refused("leave(" + i + ", true), all out", STATE, () -> all.leave(part, true));
            refused("leave(" + i + ", false), none out", STATE, () -> none.leave(part, false));
        }
    }

    private static void leaveTellsTheVerdictThen() {
        sentence("Promise 5: whether the verdict holds then");
        StockDrawer x = eightParts();
        x.verdict(8);
        due("leave(6, true), the lie", x.leave(6, true), false);
        due("leave(0, true), it does not hold before or behind", x.leave(0, true), false);
        due("leave(6, false)", x.leave(6, false), true);
        due("leave(5, true), it holds before and behind", x.leave(5, true), true);
        due("leave(2, true), the lie's good", x.leave(2, true), false);
        due("leave(2, false)", x.leave(2, false), true);
        due("leave(1, true), the lie's place", x.leave(1, true), false);
        due("leave(1, false)", x.leave(1, false), true);
    }

    private static void conditionsAtTheirEnds() {
        sentence("Promise 6: none, all, nothing drawn, all out");
        due("conditions(), none", drawn(27, 1).conditions(), 0);
        due("conditions(), all", eightParts().conditions(), 63);
        due("conditions() before a drawing", new StockDrawer(61).conditions(), 0);
        due("conditions(), all out", allOut().conditions(), 0);
        changesNothing("conditions()", StockDrawer::conditions);
    }

    private static void conditionsOneByOne() {
        sentence("Promise 6: each of them alone, as its bit");
        due("0 alone", drawn(145, 0, "rooms 22, grams 6: 0/0 +5, 0/0 -3").conditions(), 1);
        due("1 alone", drawn(42, 0, "rooms 10, grams 4: 0/0 -1, 0/0 +3").conditions(), 2);
        due("2 alone", drawn(193, 0, "rooms 22, grams 4: 0/0 +2, 0/0 -2").conditions(), 4);
        due("3 alone", drawn(55, 0, "rooms 7, grams 3: 0/0 +2!").conditions(), 8);
        due("4 alone", drawn(0, 0, "rooms 8, grams 5: 0/0 +1").conditions(), 16);
        due("5 alone", drawn(3, 0, "rooms 7, grams 5").conditions(), 32);
    }

    private static void verdictsInRange() {
        sentence("Promise 7: verdicts 0 and 63");
        due("verdict(0), none is so", drawn(27, 1).verdict(0), true);
        due("verdict(63), all are so", eightParts().verdict(63), true);
        due("verdict(63), none is so", drawn(27, 1).verdict(63), false);
        due("verdict(0) before a drawing", new StockDrawer(1).verdict(0), true);
        due("verdict(63) before a drawing", new StockDrawer(1).verdict(63), false);
        due("verdict(0), all out", allOut().verdict(0), true);
        for (int bit = 1; bit < 64; bit *= 2) {
            due("verdict(" + bit + ") before a drawing", new StockDrawer(1).verdict(bit), false);
            due("verdict(" + bit + "), all out", allOut().verdict(bit), false);
        }
    }

    private static void verdictsOutOfRange() {
        sentence("Promise 7: verdicts -1 and 64 are refused, and the verdict stays");
        int[] far = {-1, 64, LOWEST, HIGHEST};
        for (int bits : far) {
            refusalChangesNothing("verdict(" + bits + ")", ARGUMENT, x -> x.verdict(bits));
            refused("verdict(" + bits + ") before a drawing", ARGUMENT, () -> new StockDrawer(1).verdict(bits));
        }
    }

    private static void verdictStaysWithTheObject() {
        sentence("Promise 7: the verdict is the last one asked for");
        StockDrawer x = new StockDrawer(3);
        due("verdict(32) before a drawing", x.verdict(32), false);
        x.draw(0);
        due("holds() with an idle place", x.holds(), true);
        due("leave(0, true), verdict 32 behind the drawing", x.leave(0, true), false);
        due("leave(0, false)", x.leave(0, false), true);
        x.verdict(8);
        x.verdict(0);
        due("holds(), 0 again", x.holds(), true);
        x.leave(0, true);
        due("holds(), 0 without its place", x.holds(), true);
    }

    private static void holdsAtItsEnds() {
        sentence("Promise 8: nothing drawn, all out, none out");
        due("holds() before a drawing", new StockDrawer(1).holds(), true);
        StockDrawer nothing = new StockDrawer(1);
        nothing.verdict(32);
        due("holds(), verdict 32 before a drawing", nothing.holds(), false);
        due("holds(), all out", allOut().holds(), true);
        StockDrawer x = eightParts();
        x.verdict(63);
        due("holds(), verdict 63, none out", x.holds(), true);
        leaveAllOut(x);
        due("holds(), verdict 63, all out", x.holds(), false);
        changesNothing("holds()", StockDrawer::holds);
    }

    private static void shorterOfNothing() {
        sentence("Promise 9: no part is left, before a drawing or all out");
        StockDrawer nothing = new StockDrawer(1);
        due("shorter() before a drawing", nothing.shorter(), 0);
        nothing.verdict(1);
        refused("shorter(), verdict 1 before a drawing", STATE, () -> nothing.shorter());
        StockDrawer all = allOut();
        due("shorter(), all out", all.shorter(), 0);
        due("count(5)", all.count(5), 0);
        all.verdict(32);
        refused("shorter(), verdict 32, all out", STATE, () -> all.shorter());
        due("whole() behind it", all.whole(), 8);
    }

    private static void shorterForNothing() {
        sentence("Promise 9: verdict 0 leaves out all parts");
        StockDrawer x = drawn(441, 5);
        due("shorter()", x.shorter(), 0);
        due("whole()", x.whole(), 30);
        StockDrawer y = drawn(3, 0);
        due("shorter() of the smallest", y.shorter(), 0);
        due("whole() of the smallest", y.whole(), 2);
    }

    private static void shorterRefused() {
        sentence("Promise 9: it does not hold, all stay");
        StockDrawer x = worn();
        x.verdict(32);
        StockDrawer y = worn();
        y.verdict(32);
        refused("shorter()", STATE, () -> x.shorter());
        dueText("everything", everythingFromHere(x), everythingFromHere(y));
        StockDrawer none = drawn(27, 1);
        none.verdict(1);
        refused("shorter(), none out", STATE, () -> none.shorter());
        dueText("left", left(none), "0 1 2 3 4 5");
    }

    private static void shorterFromTheLastToTheFirst() {
        sentence("Promise 9: from the last part to the first one");
        StockDrawer x = drawn(15, 0, "rooms 15, grams 2: 0/0 +5!, 0/0 +5!");
        x.verdict(8);
        due("shorter()", x.shorter(), 3);
        dueText("left, the first of two lies", left(x), "0 1 2");
        // behind part 4 comes part 3, not part 5 again, which could be out by now
        StockDrawer y = drawn(8, 1, "rooms 16, grams 2: 0/0 +2, 0/0 +3, 0/0 +1!, 0/0 +3, 0/0 -3");
        y.verdict(4);
        due("shorter(), a round to its end", y.shorter(), 4);
        dueText("left", left(y), "0 1 5 6");
    }

    private static void shorterOverAndOver() {
        sentence("Promise 9: over and over, till a whole round leaves out none");
        // round 1 can leave out neither taking, but then the put; round 2 the last taking
        StockDrawer x = drawn(21, 1, "rooms 13 22, grams 6: 0/0 +5, 0/0 -4, 0/0 -5");
        x.verdict(2);
        due("shorter(), two rounds", x.shorter(), 3);
        dueText("left", left(x), "0 2 4");
        // rounds that leave out 7, 4, 5, 2 and 0
        StockDrawer y = drawn(727, 5);
        due("verdict(27)", y.verdict(27), true);
        due("shorter(), five rounds", y.shorter(), 7);
        dueText("left", left(y), "0 3 5 6 9 11 22");
        due("minimal()", y.minimal(), true);
    }

    private static void shorterTillNoSingleOneCanBe() {
        sentence("Promise 9: single parts alone, and those that are left alone");
        // two of the three together could be out, none alone
        StockDrawer x = drawn(74, 0, "rooms 14, grams 1: 0/0 +5, 0/0 +5, 0/0 +3");
        x.verdict(16);
        due("shorter() can leave out none", x.shorter(), 5);
        dueText("left", left(x), "0 1 2 3 4");
        leaveOut(x, 2, 3);
        due("shorter() again", x.shorter(), 3);
        dueText("left, what is out stays out", left(x), "0 1 4");
        due("shorter() once more", x.shorter(), 3);
    }

    private static void shorterIsMinimal() {
        sentence("Promise 9: behind it no single part can be out, of any size, for any verdict that holds");
        for (int seed = 0; seed < 600; seed++) {
            StockDrawer y = drawn(seed, seed % 6);
            int so = y.conditions();
            for (int mask = 1; mask < 64; mask += 2) {
                y.whole();
                y.verdict(so & mask);
                int rest = y.shorter();
                due("count(5) behind shorter(), seed " + seed + ", " + (so & mask), y.count(5), rest);
                due("minimal() behind shorter(), seed " + seed + ", " + (so & mask), y.minimal(), true);
            }
        }
    }

    private static void shorterForEachCondition() {
        sentence("Promise 9: each condition alone, and all of them");
        String[] rests = {"1 2 4", "1 2 5", "1 2 4 5", "1 2 6", "1 2 6", "0"};
        for (int c = 0; c < 6; c++) {
            StockDrawer x = eightParts();
            x.verdict(1 << c);
            due("shorter() for " + (1 << c), x.shorter(), rests[c].split(" ").length);
            dueText("left for " + (1 << c), left(x), rests[c]);
        }
        StockDrawer all = eightParts();
        all.verdict(63);
        due("shorter() for 63", all.shorter(), 6);
        dueText("left for 63", left(all), "0 1 2 4 5 6");
    }

    private static void minimalOfNothing() {
        sentence("Promise 10: no part is left, before a drawing or all out");
        StockDrawer nothing = new StockDrawer(1);
        due("minimal() before a drawing", nothing.minimal(), true);
        nothing.verdict(1);
        due("minimal(), verdict 1 before a drawing", nothing.minimal(), false);
        StockDrawer all = allOut();
        due("minimal(), all out", all.minimal(), true);
        all.verdict(8);
        due("minimal(), verdict 8, all out", all.minimal(), false);
    }

    private static void minimalIfItHolds() {
        sentence("Promise 10: the verdict holds");
        StockDrawer x = drawn(27, 1);
        x.verdict(1);
        due("minimal(), it does not hold with or without any part", x.minimal(), false);
        x.verdict(0);
        due("minimal(), it holds with and without any part", x.minimal(), false);
    }

    private static void minimalForAnySingleOne() {
        sentence("Promise 10: any single one of the parts that are left");
        StockDrawer x = drawn(74, 0, "rooms 14, grams 1: 0/0 +5, 0/0 +5, 0/0 +3");
        x.verdict(16);
        due("minimal(), two together could be out", x.minimal(), true);
        leaveOut(x, 2, 3);
        due("minimal() without them", x.minimal(), true);
        StockDrawer one = drawn(3, 0, "rooms 7, grams 5");
        one.verdict(32);
        due("minimal(), the last part could be out", one.minimal(), false);
        one.leave(1, true);
        due("minimal(), one part is left and needed", one.minimal(), true);
        one.verdict(0);
        due("minimal(), one part is left and not needed", one.minimal(), false);
        StockDrawer first = drawn(71, 1, "rooms 15 19, grams 1 4: 1/1 +1, 1/0 +5, 1/1 +5");
        first.verdict(16);
        leaveOut(first, 2, 6);
        due("minimal(), parts 0 and 5 could be out", first.minimal(), false);
        first.leave(5, true);
        due("minimal(), the first part alone could be out", first.minimal(), false);
        first.leave(0, true);
        due("minimal(), none could be out", first.minimal(), true);
    }

    private static void minimalChangesNothing() {
        sentence("Promise 10: it tells what would be, and leaves out none");
        changesNothing("minimal()", StockDrawer::minimal);
        StockDrawer x = drawn(74, 0);
        x.verdict(16);
        x.minimal();
        dueText("left", left(x), "0 1 2 3 4");
    }

    private static void leftInRange() {
        sentence("Promise 11: the first part that is left and the last one");
        StockDrawer x = eightParts();
        due("left(0), none out", x.left(0), 0);
        due("left(7), none out", x.left(7), 7);
        leaveOut(x, 0, 1, 7);
        due("left(0)", x.left(0), 2);
        due("left(4)", x.left(4), 6);
        leaveOut(x, 2, 3, 4, 6);
        due("left(0), one is left", x.left(0), 5);
    }

    private static void leftOutOfRange() {
        sentence("Promise 11: there are not so many");
        // six are left
        int[] far = {-1, 6, 7, LOWEST, HIGHEST};
        for (int i : far) {
            refusalChangesNothing("left(" + i + ")", NO_ELEMENT, x -> x.left(i));
        }
        refused("left(8), none out", NO_ELEMENT, () -> eightParts().left(8));
        refused("left(30) of the largest", NO_ELEMENT, () -> drawn(441, 5).left(30));
        refused("left(0), all out", NO_ELEMENT, () -> allOut().left(0));
        refused("left(-1), all out", NO_ELEMENT, () -> allOut().left(-1));
        refused("left(0) before a drawing", NO_ELEMENT, () -> new StockDrawer(1).left(0));
    }

    private static void wholeAtItsEnds() {
        sentence("Promise 12: nothing drawn, none out, one out, all out");
        due("whole() before a drawing", new StockDrawer(1).whole(), 0);
        due("whole(), none out", eightParts().whole(), 0);
        StockDrawer x = eightParts();
        x.leave(7, true);
        due("whole(), the last one out", x.whole(), 1);
        x.leave(0, true);
        due("whole(), the first one out", x.whole(), 1);
        leaveAllOut(x);
        due("whole(), all out", x.whole(), 8);
        due("whole() again", x.whole(), 0);
        dueText("left", left(x), "0 1 2 3 4 5 6 7");
    }

    private static void wholeKeepsTheRest() {
        sentence("Promise 12: the verdict and the state stay");
        StockDrawer x = worn();
        due("whole()", x.whole(), 2);
        leaveOut(x, 0, 7);
        dueText("everything", everythingFromHere(x), everythingFromHere(worn()));
    }

    private static void piecesInRange() {
        sentence("Promise 13: the first and the last place and good; below 0, none");
        StockDrawer x = drawn(25, 1, "rooms 13 19, grams 3 3: 1/0 +5, 0/0 +2, 0/1 -5, 1/1 +2");
        due("pieces(0, 0)", x.pieces(0, 0), 2);
        due("pieces(0, 1)", x.pieces(0, 1), -5);
        due("pieces(1, 0)", x.pieces(1, 0), 5);
        due("pieces(1, 1)", x.pieces(1, 1), 2);
        due("pieces(0, 0), no act of it", eightParts().pieces(0, 0), 0);
        due("pieces(1, 0), put and taken", eightParts().pieces(1, 0), -1);
        StockDrawer y = drawn(441, 5);
        due("pieces(5, 5) of the largest", y.pieces(5, 5), 5);
        due("pieces(5, 0) of the largest", y.pieces(5, 0), -4);
        due("pieces(0, 5) of the largest", y.pieces(0, 5), -3);
        due("pieces(0, 0) of the largest", y.pieces(0, 0), 0);
        due("pieces(4, 0) of the largest", y.pieces(4, 0), 3);
    }

    private static void piecesOutOfRange() {
        sentence("Promise 13: the drawing has no such place or good");
        int[] far = {-1, 2, LOWEST, HIGHEST};
        for (int i : far) {
            refusalChangesNothing("pieces(" + i + ", 0)", NO_ELEMENT, x -> x.pieces(i, 0));
            refusalChangesNothing("pieces(0, " + i + ")", NO_ELEMENT, x -> x.pieces(0, i));
            refusalChangesNothing("pieces(" + i + ", " + i + ")", NO_ELEMENT, x -> x.pieces(i, i));
        }
        refused("pieces(0, 0) before a drawing", NO_ELEMENT, () -> new StockDrawer(1).pieces(0, 0));
        refused("pieces(6, 0) of the largest", NO_ELEMENT, () -> drawn(441, 5).pieces(6, 0));
        refused("pieces(0, 6) of the largest", NO_ELEMENT, () -> drawn(441, 5).pieces(0, 6));
        // two places with one good, one place with two goods
        refused("pieces(1, 1), one good", NO_ELEMENT, () -> drawn(27, 1).pieces(1, 1));
        refused("pieces(1, 1), one place", NO_ELEMENT, () -> drawn(143, 1).pieces(1, 1));
    }

    private static void piecesOfWhatCounts() {
        sentence("Promise 13: behind all acts that count");
        StockDrawer x = allOut();
        for (int place = 0; place < 2; place++) {
            for (int good = 0; good < 2; good++) {
                due("pieces(" + place + ", " + good + "), all out", x.pieces(place, good), 0);
            }
        }
        StockDrawer y = eightParts();
        y.leave(7, true);
        due("pieces(1, 0), the last act out", y.pieces(1, 0), -3);
        y.leave(4, true);
        due("pieces(1, 0), the first act out too", y.pieces(1, 0), -7);
        y.leave(1, true);
        due("pieces(1, 0), the place out", y.pieces(1, 0), 0);
        y.leave(1, false);
        y.leave(2, true);
        due("pieces(1, 0), the good out", y.pieces(1, 0), 0);
        changesNothing("pieces", z -> askedOrRefused(() -> z.pieces(1, 0)));
    }

    /** For calls that are refused before a drawing and answered behind it. */
    private static void askedOrRefused(Call asked) {
        try {
            asked.ask();
        } catch (java.util.NoSuchElementException e) {
            // which of the two is due is not what is looked at here
        }
    }

    private static void mostInRange() {
        sentence("Promise 14: the first place and the last one");
        StockDrawer x = drawn(25, 1, "rooms 13 19, grams 3 3: 1/0 +5, 0/0 +2, 0/1 -5, 1/1 +2");
        due("most(0), below 0 is not counted", x.most(0), 6);
        due("most(1)", x.most(1), 21);
        due("most(0) of the largest", drawn(441, 5).most(0), 28);
        due("most(5) of the largest", drawn(441, 5).most(5), 5);
    }

    private static void mostOutOfRange() {
        sentence("Promise 14: a place that there is not");
        int[] far = {-1, 2, LOWEST, HIGHEST};
        for (int i : far) {
            refusalChangesNothing("most(" + i + ")", NO_ELEMENT, x -> x.most(i));
        }
        refused("most(0) before a drawing", NO_ELEMENT, () -> new StockDrawer(1).most(0));
        refused("most(6) of the largest", NO_ELEMENT, () -> drawn(441, 5).most(6));
        refused("most(1), two goods at one place", NO_ELEMENT, () -> drawn(143, 1).most(1));
    }

    private static void mostEver() {
        sentence("Promise 14: the greatest sum that a place ever has, 0 at the least");
        due("most(0), no act", drawn(3, 0).most(0), 0);
        due("most(0), no act there", eightParts().most(0), 0);
        due("most(0), below 0 always", drawn(97, 0, "rooms 10, grams 2: 0/0 -3, 0/0 -3").most(0), 0);
        due("most(0), up from below 0 to 0", drawn(80, 0, "rooms 13, grams 2: 0/0 -3, 0/0 +3").most(0), 0);
        due("most(0), at first", drawn(16, 0, "rooms 4, grams 4: 0/0 +2, 0/0 -5, 0/0 +3").most(0), 8);
        due("most(0), between", drawn(129, 0, "rooms 14, grams 6: 0/0 +1, 0/0 +4, 0/0 -5").most(0), 30);
        due("most(0), at the end", drawn(42, 0, "rooms 10, grams 4: 0/0 -1, 0/0 +3").most(0), 8);
        due("most(0), all out", allOut().most(0), 0);
        due("most(1), all out", allOut().most(1), 0);
        changesNothing("most", z -> askedOrRefused(() -> z.most(1)));
    }

    private static void sameSizes() {
        sentence("Promise 15: sizes 0 and 5 are compared, -1 and 6 refused");
        due("same(441, 5)", drawn(441, 5).same(441, 5), true);
        due("same(3, 0)", drawn(3, 0).same(3, 0), true);
        due("same(3, 5) of size 0", drawn(3, 0).same(3, 5), false);
        int[] far = {-1, 6, LOWEST, HIGHEST};
        for (int size : far) {
            refusalChangesNothing("same(61, " + size + ")", ARGUMENT, x -> x.same(61, size));
            refused("same(1, " + size + ") before a drawing", ARGUMENT, () -> new StockDrawer(1).same(1, size));
        }
    }

    private static void sameOfNothing() {
        sentence("Promise 15: before a drawing there are no parts, so none is the same");
        for (int size = 0; size <= 5; size++) {
            due("same(1, " + size + ")", new StockDrawer(1).same(1, size), false);
        }
    }

    private static void sameSeeds() {
        sentence("Promise 15: a seed of 64 bits, at its ends");
        long[] seeds = {Long.MIN_VALUE, Long.MAX_VALUE, -1, 0};
        for (long seed : seeds) {
            StockDrawer x = new StockDrawer(1);
            x.again(seed);
            x.draw(5);
            due("same(" + seed + ", 5)", x.same(seed, 5), true);
            due("same, its highest bit another", x.same(seed + Long.MIN_VALUE, 5), false);
            due("same, its lower half alone", x.same((int) seed, 5), seed == (int) seed);
            due("same, its lowest bit another", x.same(seed ^ 1, 5), false);
        }
    }

    private static void samePartsLeftOrNot() {
        sentence("Promise 15: the same parts, left ones or not");
        due("same(61, 1), none out", eightParts().same(61, 1), true);
        due("same(61, 1), all out", allOut().same(61, 1), true);
        due("same(61, 1), some out", worn().same(61, 1), true);
    }

    private static void different(int size, int seed, String told, int otherSeed, String otherTold) {
        due("same of " + told + " and " + otherTold, drawn(seed, size, told).same(otherSeed, size), false);
        due("same of " + otherTold + " and " + told, drawn(otherSeed, size, otherTold).same(seed, size), false);
    }

    private static void sameInEveryFact() {
        sentence("Promise 15: parts that differ in a single fact are not the same");
        different(0, 4, "rooms 16, grams 6: 0/0 -4", 14, "rooms 14, grams 6: 0/0 -4");
        different(0, 48, "rooms 8, grams 3: 0/0 +3", 223, "rooms 8, grams 4: 0/0 +3");
        different(0, 4, "rooms 16, grams 6: 0/0 -4", 175, "rooms 16, grams 6: 0/0 -5");
        different(0, 82, "rooms 23, grams 6: 0/0 +2", 250, "rooms 23, grams 6: 0/0 -2");
        different(0, 154, "rooms 19, grams 4: 0/0 +3", 322, "rooms 19, grams 4: 0/0 +3!");
        different(1, 7001, "rooms 7 23, grams 3: 1/0 -4, 1/0 -1, 0/0 +4",
            31399, "rooms 7 23, grams 3: 0/0 -4, 1/0 -1, 0/0 +4");
        different(1, 37281, "rooms 19, grams 2 5: 0/0 +2, 0/0 +5, 0/1 +4",
            37995, "rooms 19, grams 2 5: 0/0 +2, 0/1 +5, 0/1 +4");
        // a place of room 5, or a good of 5 grams
        different(1, 342472, "rooms 17 5, grams 2: 0/0 +3, 0/0 -5, 0/0 +2",
            403183, "rooms 17, grams 5 2: 0/0 +3, 0/0 -5, 0/0 +2");
        // no act or one, one act or two
        different(0, 6, "rooms 6, grams 4", 62, "rooms 6, grams 4: 0/0 +1");
        different(0, 421, "rooms 11, grams 5: 0/0 +5", 39, "rooms 11, grams 5: 0/0 +5, 0/0 +4!");
    }

    private static void sameByAnotherSeedOrSize() {
        sentence("Promise 15: the parts are compared, not the seeds, the draws or the sizes");
        // put by a draw of 1, and by a draw of 0
        drawn(161, 0, "rooms 18, grams 5: 0/0 +2");
        due("same(329, 0) of seed 161", drawn(161, 0).same(329, 0), true);
        due("same(161, 0) of seed 329", drawn(329, 0).same(161, 0), true);
        drawn(11639, 0, "rooms 15, grams 5: 0/0 +3!, 0/0 -5, 0/0 +1");
        due("same(2320, 1) of size 0", drawn(11639, 0).same(2320, 1), true);
        due("same(11639, 0) of size 1", drawn(2320, 1).same(11639, 0), true);
    }

    private static void sameKeepsTheState() {
        sentence("Promise 15: the state stays");
        changesNothing("same(61, 1)", x -> x.same(61, 1));
        changesNothing("same(5, 5)", x -> x.same(5, 5));
        changesNothing("same(3, 0)", x -> x.same(3, 0));
    }

    private static void countInRange() {
        sentence("Promise 16: 0 to 7, nothing drawn, none out, all out");
        int[] nothing = {0, 0, 0, 0, 0, 0, 0, -1};
        int[] none = {8, 2, 2, 4, 1, 8, 4, 1};
        int[] all = {8, 2, 2, 4, 1, 0, 0, 1};
        int[] least = {2, 1, 1, 0, 0, 2, 0, 0};
        int[] largest = {30, 6, 6, 18, 2, 30, 18, 5};
        for (int what = 0; what <= 7; what++) {
            due("count(" + what + ") before a drawing", new StockDrawer(61).count(what), nothing[what]);
            due("count(" + what + "), none out", eightParts().count(what), none[what]);
            due("count(" + what + "), all out", allOut().count(what), all[what]);
            due("count(" + what + ") of the smallest", drawn(3, 0).count(what), least[what]);
            due("count(" + what + ") of the largest", drawn(441, 5).count(what), largest[what]);
        }
    }

    private static void countOutOfRange() {
        sentence("Promise 16: -1 for another what");
        int[] far = {-1, 8, LOWEST, HIGHEST};
        for (int what : far) {
            due("count(" + what + ")", eightParts().count(what), -1);
            due("count(" + what + ") before a drawing", new StockDrawer(1).count(what), -1);
            changesNothing("count(" + what + ")", x -> x.count(what));
        }
    }

    private static void countOfEachSize() {
        sentence("Promise 16: the size, 0 to 5, of the last drawing");
        StockDrawer x = new StockDrawer(1);
        for (int size = 0; size <= 5; size++) {
            x.draw(size);
            due("count(7) behind draw(" + size + ")", x.count(7), size);
        }
        x.draw(0);
        due("count(7) behind draw(0)", x.count(7), 0);
    }

    private static void drawingPromises() {
        nothingIsDrawn();
        lowestAndHighestSeed();
        seedsOfTwoObjects();
        sizesInRange();
        sizesOutOfRange();
        anotherDrawingIsWhole();
        anotherDrawingTakesThePlace();
        againAtTheEndsOfLong();
        againIsTheStateAlone();
        partsInRange();
        partsOutOfRange();
        whatOutOfRange();
        factsOfNoAct();
        factsOfAPartThatIsOut();
        leaveInRange();
        leaveOutOfRange();
        leaveWhatIsSo();
        leaveTellsTheVerdictThen();
    }

    private static void verdictPromises() {
        conditionsAtTheirEnds();
        conditionsOneByOne();
        verdictsInRange();
        verdictsOutOfRange();
        verdictStaysWithTheObject();
        holdsAtItsEnds();
        shorterOfNothing();
        shorterForNothing();
        shorterRefused();
        shorterFromTheLastToTheFirst();
        shorterOverAndOver();
        shorterTillNoSingleOneCanBe();
        shorterIsMinimal();
        shorterForEachCondition();
        minimalOfNothing();
        minimalIfItHolds();
        minimalForAnySingleOne();
        minimalChangesNothing();
    }

    private static void restPromises() {
        leftInRange();
        leftOutOfRange();
        wholeAtItsEnds();
        wholeKeepsTheRest();
        piecesInRange();
        piecesOutOfRange();
        piecesOfWhatCounts();
        mostInRange();
        mostOutOfRange();
        mostEver();
        sameSizes();
        sameOfNothing();
        sameSeeds();
        samePartsLeftOrNot();
        sameInEveryFact();
        sameByAnotherSeedOrSize();
        sameKeepsTheState();
        countInRange();
        countOutOfRange();
        countOfEachSize();
    }

    public static void main(String[] args) {
        drawingPromises();
        verdictPromises();
        restPromises();
        end();
    }
}
