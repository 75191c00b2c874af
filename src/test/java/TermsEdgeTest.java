/**
 * The boundary cases of the sections "What it is" and "Terms", one method for each sentence that has
 * some. A warehouse is told by its text, so that what is due can be followed by hand.
 */
public final class TermsEdgeTest extends Check {
    private static final long FACTOR = 6364136223846793005L;
    private static final long STEP = 1442695040888963407L;
    /** FACTOR times this is 1 in 64 bits. */
    private static final long BACKWARD = -4568919932995229531L;

    // What it is

    private static void callsUpToThe512th() {
        sentence("What it is: an object is used for at most 512 calls");
        StockDrawer draws = new StockDrawer(1);
        for (int call = 1; call <= 511; call++) {
            draws.draw(5);
        }
        due("draw(5) as call 512", draws.draw(5), 22);

        StockDrawer shorts = new StockDrawer(1);
        for (int call = 1; call <= 510; call++) {
            shorts.draw(5);
        }
        due("verdict(27) as call 511", shorts.verdict(27), true);
        due("shorter() as call 512", shorts.shorter(), 6);
    }

    private static void dearCallsUpToThe512th() {
        sentence("What it is: 512 calls, the dearest ones");
        StockDrawer x = new StockDrawer(727);
        x.draw(5);
        x.verdict(27);
        for (int call = 3; call <= 510; call += 2) {
            x.shorter();
            x.whole();
        }
        due("shorter() as call 511", x.shorter(), 7);
        due("whole() as call 512", x.whole(), 18);
    }

    private static void refusedCallsUpToThe512th() {
        sentence("What it is: 512 calls, refused ones among them");
        StockDrawer x = new StockDrawer(2);
        x.draw(0);
        for (int call = 2; call <= 511; call++) {
            refused("part(5, 0) as call " + call, NO_ELEMENT, () -> x.part(5, 0));
        }
        due("conditions() as call 512", x.conditions(), 25);
    }

    // Terms: a draw

    /** The seed from which one draw leads to this state. */
    private static long seedBefore(long state) {
        return (state - STEP) * BACKWARD;
    }

    /** The number of places of size 5 is 1 and the first number below 6. */
    private static void firstDrawIs(long state, int places, String roomsAndGrams) {
        long seed = seedBefore(state);
        due("the state behind " + seed, seed * FACTOR + STEP, state);
        StockDrawer x = new StockDrawer(0);
        x.again(seed);
        x.draw(5);
        due("count(1) from state " + state, x.count(1), places);
        String told = told(x);
        dueText("draw(5) from state " + state, told.substring(0, told.indexOf(':')), roomsAndGrams);
    }

    private static void stateWrapsAround() {
        sentence("Terms: the state is s * f + c in 64 bits");
        firstDrawIs(Long.MAX_VALUE, 4, "rooms 8 23 17 10, grams 2 6 2");
        firstDrawIs(Long.MIN_VALUE, 5, "rooms 15 12 17 4 13, grams 1 4");
        firstDrawIs(-1, 2, "rooms 12 7, grams 3 1");
        firstDrawIs(0, 1, "rooms 11, grams 2");
    }

    private static void upperBitsAlone() {
        sentence("Terms: the number is the upper 31 bits of s, moved right by 33");
        firstDrawIs((1L << 33) - 1, 1, "rooms 21, grams 1");
        firstDrawIs(1L << 33, 2, "rooms 8 13, grams 2");
        firstDrawIs(1L << 32, 1, "rooms 9, grams 4 2");
        firstDrawIs((1L << 34) - 1, 2, "rooms 18 17, grams 3 1 2 2 2 5");
        firstDrawIs(-(1L << 33), 2, "rooms 22 23, grams 2 3 5");
    }

    private static void seedsAtTheirEnds() {
        sentence("Terms: the state is the seed at first");
        drawn(0, 0, "rooms 8, grams 5: 0/0 +1");
        drawn(-1, 0, "rooms 7, grams 3");
        drawn(Integer.MAX_VALUE, 0, "rooms 14, grams 4: 0/0 -5, 0/0 -3, 0/0 +1!");
        drawn(Integer.MIN_VALUE, 0, "rooms 22, grams 5: 0/0 -3");
        due("same(-1, 0) of seed -1", drawn(-1, 0).same(-1L, 0), true);
        due("same(2^32 - 1, 0) of seed -1", drawn(-1, 0).same((1L << 32) - 1, 0), false);
        due("same(-2^31, 0) of the lowest seed", drawn(Integer.MIN_VALUE, 0).same(-(1L << 31), 0), true);
        due("same(2^31, 0) of the lowest seed", drawn(Integer.MIN_VALUE, 0).same(1L << 31, 0), false);
    }

    private static void drawsBelowOneMoveTheState() {
        sentence("Terms: a draw below 1 is a draw");
        // places, a room, goods, grams, acts; and place, good, pieces, direction, lie of each act
        int[][] seedsAndDraws = {{3, 5}, {0, 10}, {1, 15}, {2, 20}};
        for (int[] pair : seedsAndDraws) {
            long state = pair[0];
            for (int i = 0; i < pair[1]; i++) {
                state = state * FACTOR + STEP;
            }
            StockDrawer x = drawn(pair[0], 0);
            x.draw(5);
            due("same, " + pair[1] + " draws behind seed " + pair[0], x.same(state, 5), true);
        }
    }

    // Terms: a drawing

    private static void fewestAndMostParts() {
        sentence("Terms: 1 to size + 1 places and goods, 3 times size to 3 times size + 3 acts");
        int[] fewest = {3, 20, 188, 23, 61, 236};
        int[] most = {2, 24, 21, 0, 67, 441};
        for (int size = 0; size <= 5; size++) {
            StockDrawer small = drawn(fewest[size], size);
            due("places, the fewest of size " + size, small.count(1), 1);
            due("goods, the fewest of size " + size, small.count(2), 1);
            due("acts, the fewest of size " + size, small.count(3), 3 * size);
            due("parts, the fewest of size " + size, small.count(0), 2 + 3 * size);
            StockDrawer large = drawn(most[size], size);
            due("places, the most of size " + size, large.count(1), size + 1);
            due("goods, the most of size " + size, large.count(2), size + 1);
            due("acts, the most of size " + size, large.count(3), 3 * size + 3);
            due("parts, the most of size " + size, large.count(0), 5 * size + 5);
        }
    }

    private static void lowestAndHighestAmounts() {
        sentence("Terms: a room 4 to 23, grams 1 to 6, pieces 1 to 5");
        drawn(1284, 0, "rooms 4, grams 1: 0/0 +1");
        drawn(2608, 0, "rooms 4, grams 1: 0/0 -1");
        drawn(8345, 0, "rooms 23, grams 6: 0/0 +5");
        drawn(6962, 0, "rooms 23, grams 6: 0/0 -5");
    }

    /** Of many drawings the lowest and the highest answer to part(i, what) for parts of a kind. */
    private static void rangeIs(int kind, int what, int low, int high) {
        int lowest = Integer.MAX_VALUE;
        int highest = Integer.MIN_VALUE;
        for (int seed = 0; seed < 200; seed++) {
            StockDrawer x = drawn(seed, 5);
            for (int i = 0; i < x.count(0); i++) {
                if (x.part(i, 0) == kind) {
                    lowest = Math.min(lowest, x.part(i, what));
                    highest = Math.max(highest, x.part(i, what));
                }
            }
        }
        due("the lowest part(.., " + what + ") of kind " + kind, lowest, low);
        due("the highest part(.., " + what + ") of kind " + kind, highest, high);
    }

    private static void amountsStayInTheirRanges() {
        sentence("Terms: no room, grams, pieces, place or good outside its range");
        rangeIs(0, 2, 4, 23);
        rangeIs(1, 2, 1, 6);
        rangeIs(2, 2, 1, 5);
        rangeIs(2, 3, 0, 5);
        rangeIs(2, 4, 0, 5);
        rangeIs(0, 1, 0, 5);
        rangeIs(1, 1, 0, 5);
        rangeIs(2, 1, 0, 17);
    }

    private static void firstAndLastPlaceAndGood() {
        sentence("Terms: an act has a place and a good by a draw below their number");
        drawn(25, 1, "rooms 13 19, grams 3 3: 1/0 +5, 0/0 +2, 0/1 -5, 1/1 +2");
        // with fewer places than goods, with more, and with as many
        for (int seed = 0; seed < 100; seed++) {
            StockDrawer x = drawn(seed, 4);
            for (int i = x.count(1) + x.count(2); i < x.count(0); i++) {
                due("place of act in range, seed " + seed, x.part(i, 3) >= 0 && x.part(i, 3) < x.count(1), true);
                due("good of act in range, seed " + seed, x.part(i, 4) >= 0 && x.part(i, 4) < x.count(2), true);
            }
        }
    }

    private static void directionsAndLies() {
        sentence("Terms: direction 0 or 1 is put, 2 is taken; lie 0 is one, 1 to 5 are none");
        // directions 0 2 1 2 2 2, lies 3 5 4 2 0 1
        drawn(138, 1, "rooms 23 20, grams 5 3: 1/0 +2, 0/0 -2, 0/1 +1, 0/0 -1, 1/1 -4!, 1/0 -2");
        // directions 2 1 0 0 1 0, lies 0 4 3 1 5 2
        drawn(225, 1, "rooms 6 22, grams 5: 0/0 -1!, 0/0 +4, 1/0 +1, 1/0 +2, 1/0 +2, 0/0 +1");
    }

    private static void numbersOfEachKind() {
        sentence("Terms: places, goods and acts are numbered 0, 1, .. each, in this order");
        StockDrawer x = drawn(441, 5);
        for (int i = 0; i < 30; i++) {
            int kind = i < 6 ? 0 : i < 12 ? 1 : 2;
            due("part(" + i + ", 0)", x.part(i, 0), kind);
            due("part(" + i + ", 1)", x.part(i, 1), i - 6 * kind);
        }
    }

    // Terms: left and out

    private static void allAreLeftAtFirst() {
        sentence("Terms: parts are left, all at first");
        StockDrawer x = drawn(441, 5);
        for (int i = 0; i < 30; i++) {
            due("part(" + i + ", 7)", x.part(i, 7), 1);
        }
        due("count(5)", x.count(5), 30);
        due("count(6)", x.count(6), 18);
    }

    private static void actsThatDoNotCount() {
        sentence("Terms: an act whose place or good is out does not count");
        StockDrawer x = drawn(25, 1, "rooms 13 19, grams 3 3: 1/0 +5, 0/0 +2, 0/1 -5, 1/1 +2");
        x.leave(0, true);
        due("count(6), place 0 out", x.count(6), 2);
        x.leave(2, true);
        due("count(6), good 0 out too", x.count(6), 1);
        x.leave(7, true);
        due("count(6), the last act out too", x.count(6), 0);
        due("count(5), those acts are left", x.count(5), 5);
        x.leave(0, false);
        due("count(6), place 0 back, good 0 out", x.count(6), 1);
        x.leave(2, false);
        due("count(6), good 0 back", x.count(6), 3);
        x.leave(5, true);
        x.leave(0, true);
        x.leave(0, false);
        due("count(6), an act that is out itself", x.count(6), 2);
    }

    private static void firstAndLastPlaceAndGoodOut() {
        sentence("Terms: each place and each good takes its own acts with it");
        StockDrawer x = drawn(960, 1, "rooms 23 7, grams 2 4: 0/0 +4!, 0/0 +3, 1/1 +2");
        int[] counting = {1, 2, 1, 2, 2, 2, 2};
        for (int i = 0; i < 7; i++) {
            x.leave(i, true);
            due("count(6) with part " + i + " out", x.count(6), counting[i]);
            x.leave(i, false);
        }
    }

    // Terms: conditions

    private static StockDrawer so(int seed, int size, String told, int bits) {
        StockDrawer x = drawn(seed, size, told);
        due("conditions() of " + told, x.conditions(), bits);
        return x;
    }

    private static void moreThanItsRoom() {
        sentence("Terms: condition 0, the grams at a place are more than its room");
        so(216, 0, "rooms 9, grams 3: 0/0 +3", 16);
        so(48, 0, "rooms 8, grams 3: 0/0 +3", 17);
    }

    private static void moreAtSomeMoment() {
        sentence("Terms: condition 0, at some moment");
        so(145, 0, "rooms 22, grams 6: 0/0 +5, 0/0 -3", 1);
        so(129, 0, "rooms 14, grams 6: 0/0 +1, 0/0 +4, 0/0 -5", 1);
    }

    private static void gramsOfAllPieces() {
        sentence("Terms: condition 0, of each good whose pieces there are above 0");
        // 9 and 4 grams together
        so(143, 1, "rooms 12, grams 3 1: 0/1 +4, 0/0 +1, 0/0 +2", 17);
        // 18 grams; -24 are not taken off
        so(303, 1, "rooms 12, grams 6 2: 0/0 -4, 0/1 -1, 0/1 +5, 0/1 +5", 19);
        // pieces come up from below 0: 12 grams, not 30
        so(194, 0, "rooms 23, grams 6: 0/0 -3!, 0/0 +4, 0/0 +1", 10);
    }

    private static void eachPlaceItsRoom() {
        sentence("Terms: condition 0, at a place, its room");
        // 6 grams at place 0, 18 at place 1
        so(27, 1, "rooms 23 18, grams 3: 0/0 +2, 1/0 +2, 1/0 +4", 0);
        so(160, 1, "rooms 9 20, grams 1: 0/0 +5, 0/0 +5, 0/0 +3", 49);
        so(265, 1, "rooms 10 5, grams 1: 0/0 +4, 0/0 +3, 1/0 +4", 16);
    }

    private static void belowNothing() {
        sentence("Terms: condition 1, pieces are below 0");
        so(385, 0, "rooms 18, grams 5: 0/0 +1, 0/0 +2, 0/0 -3", 0);
        so(121, 0, "rooms 6, grams 3: 0/0 +1, 0/0 -2", 18);
    }

    private static void belowNothingAtSomeMoment() {
        sentence("Terms: condition 1, at some moment");
        so(42, 0, "rooms 10, grams 4: 0/0 -1, 0/0 +3", 2);
        so(80, 0, "rooms 13, grams 2: 0/0 -3, 0/0 +3", 6);
        so(16, 0, "rooms 4, grams 4: 0/0 +2, 0/0 -5, 0/0 +3", 3);
    }

    private static void belowNothingOfOneGoodAtOnePlace() {
        sentence("Terms: condition 1, the pieces of a good at a place");
        so(616, 1, "rooms 6 20, grams 2: 0/0 +3, 1/0 +4, 0/0 -4", 18);
        so(386, 1, "rooms 7, grams 1 1: 0/0 +2, 0/1 +3, 0/0 -5", 2);
    }

    private static void differentInDirection() {
        sentence("Terms: condition 2, different in direction");
        so(193, 0, "rooms 22, grams 4: 0/0 +2, 0/0 -2", 4);
        so(114, 0, "rooms 7, grams 3: 0/0 -2, 0/0 +2", 6);
        // directions 1 and 0, both put
        so(254, 0, "rooms 11, grams 1: 0/0 +1, 0/0 +1", 0);
        so(97, 0, "rooms 10, grams 2: 0/0 -3, 0/0 -3", 2);
    }

    private static void alikeInPlaceGoodAndPieces() {
        sentence("Terms: condition 2, alike in place, good and pieces");
        so(220, 0, "rooms 17, grams 4: 0/0 +2, 0/0 -1", 16);
        so(619, 1, "rooms 5 18, grams 3: 1/0 +3, 1/0 -5, 0/0 +5", 19);
        so(383, 1, "rooms 8, grams 1 5: 0/1 +2, 0/1 -4, 0/0 +4", 3);
    }

    private static void followOneAnother() {
        sentence("Terms: condition 2, two that follow one another");
        so(12, 0, "rooms 4, grams 3: 0/0 -4, 0/0 +4, 0/0 -1", 22);
        so(5, 0, "rooms 17, grams 2: 0/0 -5!, 0/0 -4, 0/0 +4!", 30);
        // the last one and the first one do not
        so(118, 0, "rooms 7, grams 4: 0/0 +1, 0/0 +3, 0/0 -1", 17);
    }

    private static void followAmongThoseThatCount() {
        sentence("Terms: condition 2, of the acts that count");
        StockDrawer x = drawn(118, 0, "rooms 7, grams 4: 0/0 +1, 0/0 +3, 0/0 -1");
        x.leave(3, true);
        due("conditions(), the act between is out", x.conditions(), 4);
        StockDrawer y = so(748, 1, "rooms 23 10, grams 6: 1/0 -2, 0/0 +3, 1/0 +2", 18);
        y.leave(0, true);
        due("conditions(), the place between is out", y.conditions(), 6);
        StockDrawer z = so(861, 1, "rooms 12, grams 3 4: 0/1 -4, 0/0 +3, 0/1 +4", 18);
        z.leave(1, true);
        due("conditions(), the good between is out", z.conditions(), 6);
        StockDrawer w = drawn(193, 0, "rooms 22, grams 4: 0/0 +2, 0/0 -2");
        w.leave(2, true);
        due("conditions(), the first of the two is out", w.conditions(), 2);
        w.whole();
        w.leave(3, true);
        due("conditions(), the second of the two is out", w.conditions(), 0);
    }

    private static void lieAmongThoseThatCount() {
        sentence("Terms: condition 3, a lie among the acts that count");
        so(29, 0, "rooms 21, grams 5: 0/0 +3!, 0/0 +5, 0/0 +2", 9);
        so(64, 0, "rooms 16, grams 2: 0/0 +5, 0/0 +1, 0/0 +1!", 24);
        StockDrawer x = so(55, 0, "rooms 7, grams 3: 0/0 +2!", 8);
        x.leave(2, true);
        due("conditions(), the lie is out", x.conditions(), 32);
        x.whole();
        x.leave(1, true);
        due("conditions(), its good is out", x.conditions(), 32);
        x.whole();
        x.leave(0, true);
        due("conditions(), its place is out", x.conditions(), 0);
        StockDrawer y = so(15, 0, "rooms 15, grams 2: 0/0 +5!, 0/0 +5!", 9);
        y.leave(2, true);
        due("conditions(), one of two lies is out", y.conditions(), 24);
        y.leave(3, true);
        due("conditions(), both lies are out", y.conditions(), 32);
    }

    private static void oddAtTheEnd() {
        sentence("Terms: condition 4, the pieces of all places and goods together are odd at the end");
        so(0, 0, "rooms 8, grams 5: 0/0 +1", 16);
        so(199, 0, "rooms 12, grams 3: 0/0 +4", 0);
        // -1 and -3 are odd
        so(121, 0, "rooms 6, grams 3: 0/0 +1, 0/0 -2", 18);
        so(Integer.MIN_VALUE, 0, "rooms 22, grams 5: 0/0 -3", 18);
        // odd on the way, none at the end
        so(385, 0, "rooms 18, grams 5: 0/0 +1, 0/0 +2, 0/0 -3", 0);
        // 9 and 5 at two places; -3 and 7 of two goods
        so(18, 1, "rooms 14 23, grams 1: 1/0 +5, 0/0 +5, 0/0 +4", 0);
        so(269, 1, "rooms 18, grams 4 2: 0/0 -3, 0/1 +4!, 0/1 +3", 10);
    }

    private static void placeWithoutAct() {
        sentence("Terms: condition 5, some place that is left has no act that counts");
        StockDrawer none = so(3, 0, "rooms 7, grams 5", 32);
        none.leave(0, true);
        due("conditions(), the place is out", none.conditions(), 0);
        StockDrawer last = so(21, 1, "rooms 13 22, grams 6: 0/0 +5, 0/0 -4, 0/0 -5", 35);
        last.leave(1, true);
        due("conditions(), the last place is out", last.conditions(), 3);
        StockDrawer first = so(151, 1, "rooms 20 5, grams 4: 1/0 +5, 1/0 -3, 1/0 +1", 49);
        first.leave(0, true);
        due("conditions(), the first place is out", first.conditions(), 17);
        StockDrawer act = so(27, 1, "rooms 23 18, grams 3: 0/0 +2, 1/0 +2, 1/0 +4", 0);
        act.leave(3, true);
        due("conditions(), the only act of place 0 is out", act.conditions(), 32);
        StockDrawer good = so(960, 1, "rooms 23 7, grams 2 4: 0/0 +4!, 0/0 +3, 1/1 +2", 25);
        good.leave(3, true);
        due("conditions(), the good of place 1's act is out", good.conditions(), 56);
    }

    private static void noConditionWithoutParts() {
        sentence("Terms: conditions with all parts out, and with none out");
        StockDrawer x = so(61, 1, "rooms 5 4, grams 3 4: 1/0 +4, 1/0 -4, 1/0 -3!, 1/0 +2", 63);
        leaveAllOut(x);
        due("conditions(), all out", x.conditions(), 0);
        x.whole();
        due("conditions(), none out again", x.conditions(), 63);
    }

    // Terms: the verdict

    private static void verdictIsNothingAtFirst() {
        sentence("Terms: the verdict's bits are 0 at first");
        due("holds() before a drawing", new StockDrawer(27).holds(), true);
        due("holds() with no condition so", drawn(27, 1).holds(), true);
        due("holds() with all conditions so", drawn(61, 1).holds(), true);
    }

    private static void verdictAsksForAllOfThem() {
        sentence("Terms: the verdict holds if all of its conditions are so");
        StockDrawer all = drawn(61, 1);
        StockDrawer none = drawn(27, 1);
        for (int bits = 0; bits <= 63; bits++) {
            due("verdict(" + bits + "), all are so", all.verdict(bits), true);
            due("verdict(" + bits + "), none is so", none.verdict(bits), bits == 0);
        }
        // the lie of 61 is part 6; without it conditions 1 and 3 are not so
        all.leave(6, true);
        due("conditions() without the lie", all.conditions(), 37);
        due("verdict(37)", all.verdict(37), true);
        for (int bit = 1; bit < 64; bit *= 2) {
            due("verdict of 37 and " + bit, all.verdict(37 | bit), (37 & bit) != 0);
        }
    }

    // Terms: refusals

    private static void missingPartBeforeWrongNumber() {
        sentence("Terms: refusals, NoSuchElementException before IllegalArgumentException");
        StockDrawer x = drawn(2, 0);
        refused("part(5, 8)", NO_ELEMENT, () -> x.part(5, 8));
        refused("part(5, -1)", NO_ELEMENT, () -> x.part(5, -1));
        refused("part(-1, 8)", NO_ELEMENT, () -> x.part(-1, 8));
        refused("part(-1, -1)", NO_ELEMENT, () -> x.part(-1, -1));
        refused("part(0, 8) before a drawing", NO_ELEMENT, () -> new StockDrawer(2).part(0, 8));
    }

    private static void missingPartBeforeWrongState() {
        sentence("Terms: refusals, NoSuchElementException before IllegalStateException");
        StockDrawer x = drawn(2, 0);
        boolean[] both = {true, false};
        for (boolean out : both) {
            refused("leave(5, " + out + ")", NO_ELEMENT, () -> x.leave(5, out));
            refused("leave(-1, " + out + ")", NO_ELEMENT, () -> x.leave(-1, out));
            refused("leave(0, " + out + ") before a drawing", NO_ELEMENT, () -> new StockDrawer(2).leave(0, out));
        }
        leaveAllOut(x);
        for (boolean out : both) {
            refused("leave(5, " + out + "), all out", NO_ELEMENT, () -> x.leave(5, out));
        }
    }

    private static void wrongNumberInAnyState() {
        sentence("Terms: refusals, IllegalArgumentException in any state");
        StockDrawer x = new StockDrawer(2);
        x.verdict(63);
        refused("draw(6), the verdict does not hold", ARGUMENT, () -> x.draw(6));
        refused("same(2, 6) before a drawing", ARGUMENT, () -> x.same(2, 6));
        refused("verdict(64), the verdict does not hold", ARGUMENT, () -> x.verdict(64));
    }

    public static void main(String[] args) {
        callsUpToThe512th();
        dearCallsUpToThe512th();
        refusedCallsUpToThe512th();
        stateWrapsAround();
        upperBitsAlone();
        seedsAtTheirEnds();
        drawsBelowOneMoveTheState();
        fewestAndMostParts();
        lowestAndHighestAmounts();
        amountsStayInTheirRanges();
        firstAndLastPlaceAndGood();
        directionsAndLies();
        numbersOfEachKind();
        allAreLeftAtFirst();
        actsThatDoNotCount();
        firstAndLastPlaceAndGoodOut();
        moreThanItsRoom();
        moreAtSomeMoment();
        gramsOfAllPieces();
        eachPlaceItsRoom();
        belowNothing();
        belowNothingAtSomeMoment();
        belowNothingOfOneGoodAtOnePlace();
        differentInDirection();
        alikeInPlaceGoodAndPieces();
        followOneAnother();
        followAmongThoseThatCount();
        lieAmongThoseThatCount();
        oddAtTheEnd();
        placeWithoutAct();
        noConditionWithoutParts();
        verdictIsNothingAtFirst();
        verdictAsksForAllOfThem();
        missingPartBeforeWrongNumber();
        missingPartBeforeWrongState();
        wrongNumberInAnyState();
        end();
    }
}
