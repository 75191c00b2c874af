import java.util.NoSuchElementException;

/** Small warehouses drawn by a seed, with verdicts on what is left of them; see README.md. */
public final class StockDrawer {
    private static final int MOST_SIZE = 5;
    private static final int MOST_PLACES = MOST_SIZE + 1;
    private static final int MOST_GOODS = MOST_SIZE + 1;
    private static final int MOST_ACTS = 3 * MOST_SIZE + 3;
    private static final int MOST_PARTS = MOST_PLACES + MOST_GOODS + MOST_ACTS;

    private static final int PLACE = 0;
    private static final int GOOD = 1;
    private static final int ACT = 2;

    private static final int TOO_HEAVY = 1;
    private static final int BELOW_NOTHING = 2;
    private static final int UNDONE_AT_ONCE = 4;
    private static final int LIE_TOLD = 8;
    private static final int ODD_AT_THE_END = 16;
    private static final int IDLE_PLACE = 32;
    private static final int ALL_CONDITIONS = 63;

    private static final int LAST_WHAT_OF_A_PART = 7;

    private final Source source;
    private final Drawing drawing;
    private final Rest rest;
    private final Story story;
    /** Kept for same() alone, so that no call makes an object. */
    private final Source otherSource;
    private final Drawing otherDrawing;
    private int asked;

    public StockDrawer(int seed) {
        Drawing drawn = new Drawing();
        Rest remaining = new Rest(drawn);
        source = new Source(seed);
        drawing = drawn;
        rest = remaining;
        story = new Story(drawn, remaining);
        otherSource = new Source(seed);
        otherDrawing = new Drawing();
        asked = 0;
    }

    public int draw(int size) throws IllegalArgumentException {
        refuseWrongSize(size);
        drawing.redraw(source, size);
        rest.takeAllBack();
        return drawing.partCount();
    }

    public void again(long seed) {
        source.restart(seed);
    }

    public int part(int i, int what) throws NoSuchElementException, IllegalArgumentException {
        refuseMissingPart(i);
        if (what < 0 || what > LAST_WHAT_OF_A_PART) {
            throw new IllegalArgumentException("a part is asked for 0 to 7");
        }
        switch (what) {
            case 0:
                return drawing.kindOf(i);
            case 1:
                return drawing.numberOf(i);
            case 2:
                return drawing.amountOf(i);
            case 3:
                return drawing.placeOf(i);
            case 4:
                return drawing.goodOf(i);
            case 5:
                return drawing.takes(i) ? 1 : 0;
            case 6:
                return drawing.lies(i) ? 1 : 0;
            default:
                return rest.isLeft(i) ? 1 : 0;
        }
    }

    public boolean leave(int part, boolean out) throws NoSuchElementException, IllegalStateException {
        refuseMissingPart(part);
        if (rest.isLeft(part) != out) {
            throw new IllegalStateException("the part is so already");
        }
        rest.setOut(part, out);
        return verdictIsMet();
    }

    public int conditions() {
        return story.tell();
    }

    public boolean verdict(int bits) throws IllegalArgumentException {
        if (bits < 0 || bits > ALL_CONDITIONS) {
            throw new IllegalArgumentException("a verdict is 0 to 63");
        }
        asked = bits;
        return verdictIsMet();
    }

    public boolean holds() {
        return verdictIsMet();
    }

    public int shorter() throws IllegalStateException {
        if (!verdictIsMet()) {
            throw new IllegalStateException("the verdict does not hold");
        }
        // Every round but the last leaves out a part, so there are never more rounds than this.
        int mostRounds = drawing.partCount() + 1;
        for (int round = 0; round < mostRounds; round++) {
            if (!leaveOutInOneRound()) {
                break;
            }
        }
        return rest.leftCount();
    }

    public boolean minimal() {
        if (!verdictIsMet()) {
            return false;
        }
        for (int i = 0; i < drawing.partCount(); i++) {
            if (rest.isLeft(i) && verdictIsMetWithout(i)) {
                return false;
            }
        }
        return true;
    }

    public int left(int i) throws NoSuchElementException {
        int found = rest.partLeftAt(i);
        if (found < 0) {
            throw new NoSuchElementException("there are not so many parts left");
        }
        return found;
    }

    public int whole() {
        int wereOut = drawing.partCount() - rest.leftCount();
        rest.takeAllBack();
        return wereOut;
    }

    public int pieces(int place, int good) throws NoSuchElementException {
        refuseMissingPlace(place);
        if (!drawing.hasGood(good)) {
            throw new NoSuchElementException("the drawing has no such good");
        }
        story.tell();
        return story.stockAt(place, good);
    }

    public int most(int place) throws NoSuchElementException {
        refuseMissingPlace(place);
        story.tell();
        return story.heaviestAt(place);
    }

    public boolean same(long seed, int size) throws IllegalArgumentException {
        refuseWrongSize(size);
        otherSource.restart(seed);
        otherDrawing.redraw(otherSource, size);
        return drawing.hasThePartsOf(otherDrawing);
    }

    public int count(int what) {
        switch (what) {
            case 0:
                return drawing.partCount();
            case 1:
                return drawing.placeCount();
            case 2:
                return drawing.goodCount();
            case 3:
                return drawing.actCount();
            case 4:
                return drawing.lieCount();
            case 5:
                return rest.leftCount();
            case 6:
                return rest.countingActs();
            case 7:
                return drawing.drawnSize();
            default:
                return -1;
        }
    }

    private void refuseWrongSize(int size) {
        if (size < 0 || size > MOST_SIZE) {
            throw new IllegalArgumentException("a size is 0 to 5");
        }
    }

    private void refuseMissingPart(int i) {
        if (!drawing.has(i)) {
            throw new NoSuchElementException("the drawing has no such part");
        }
    }

    private void refuseMissingPlace(int place) {
        if (!drawing.hasPlace(place)) {
            throw new NoSuchElementException("the drawing has no such place");
        }
    }

    private boolean verdictIsMet() {
        return (story.tell() & asked) == asked;
    }

    private boolean verdictIsMetWithout(int i) {
        rest.setOut(i, true);
        boolean met = verdictIsMet();
        rest.setOut(i, false);
        return met;
    }

    /** Whether the round left out a part. */
    private boolean leaveOutInOneRound() {
        boolean some = false;
        for (int i = drawing.partCount() - 1; i >= 0; i--) {
            if (rest.isLeft(i)) {
                rest.setOut(i, true);
                boolean met = verdictIsMet();
                rest.setOut(i, met);
                some = some || met;
            }
        }
        return some;
    }

    /** The draws: the state and the numbers that come of it. */
    private static final class Source {
        private static final long FACTOR = 6364136223846793005L;
        private static final long STEP = 1442695040888963407L;
        private static final int LOWER_BITS = 33;

        private long state;

        Source(long seed) {
            state = seed;
        }

        void restart(long seed) {
            state = seed;
        }

        int below(int n) {
            state = state * FACTOR + STEP;
            return n < 1 ? 0 : (int) ((state >>> LOWER_BITS) % n);
        }
    }

    /** The parts as they were drawn, whether they are left or not. */
    private static final class Drawing {
        private int size;
        private int parts;
        private int places;
        private int goods;
        /** Room, grams or pieces. */
        private final int[] amounts;
        private final int[] actPlaces;
        private final int[] actGoods;
        private final boolean[] taking;
        private final boolean[] lying;

        Drawing() {
            size = -1;
            parts = 0;
            places = 0;
            goods = 0;
            amounts = new int[MOST_PARTS];
            actPlaces = new int[MOST_PARTS];
            actGoods = new int[MOST_PARTS];
            taking = new boolean[MOST_PARTS];
            lying = new boolean[MOST_PARTS];
        }

        /** The order of the draws is the document's: another one would give other parts. */
        void redraw(Source from, int newSize) {
            size = newSize;
            parts = 0;
            places = 1 + from.below(size + 1);
            for (int i = 0; i < places; i++) {
                addThing(4 + from.below(20));
            }
            goods = 1 + from.below(size + 1);
            for (int i = 0; i < goods; i++) {
                addThing(1 + from.below(6));
            }
            int acts = 3 * size + from.below(4);
            for (int i = 0; i < acts; i++) {
                addAct(from);
            }
        }

        private void addThing(int amount) {
            add(amount, -1, -1, false, false);
        }

        private void addAct(Source from) {
            int place = from.below(places);
            int good = from.below(goods);
            int amount = 1 + from.below(5);
            boolean takes = from.below(3) == 2;
            boolean lies = from.below(6) == 0;
            add(amount, place, good, takes, lies);
        }

        private void add(int amount, int place, int good, boolean takes, boolean lies) {
            if (parts < 0 || parts >= MOST_PARTS) {
                return;
            }
            amounts[parts] = amount;
            actPlaces[parts] = place;
            actGoods[parts] = good;
            taking[parts] = takes;
            lying[parts] = lies;
            parts++;
        }

        int drawnSize() {
            return size;
        }

        int partCount() {
            return parts;
        }

        int placeCount() {
            return places;
        }

        int goodCount() {
            return goods;
        }

        int actCount() {
            return parts - places - goods;
        }

        int lieCount() {
            int found = 0;
            for (int i = 0; i < parts; i++) {
                if (lies(i)) {
                    found++;
                }
            }
            return found;
        }

        boolean has(int i) {
            return i >= 0 && i < parts && i < MOST_PARTS;
        }

        boolean hasPlace(int place) {
            return place >= 0 && place < places && place < MOST_PLACES;
        }

        boolean hasGood(int good) {
            return good >= 0 && good < goods && good < MOST_GOODS;
        }

        int kindOf(int i) {
            if (i < places) {
                return PLACE;
            }
            return i < places + goods ? GOOD : ACT;
        }

        int numberOf(int i) {
            switch (kindOf(i)) {
                case PLACE:
                    return i;
                case GOOD:
                    return i - places;
                default:
                    return i - places - goods;
            }
        }

        int amountOf(int i) {
            return has(i) ? amounts[i] : 0;
        }

        /** -1 for a part that is no act. */
        int placeOf(int i) {
            return has(i) ? actPlaces[i] : -1;
        }

        /** -1 for a part that is no act. */
        int goodOf(int i) {
            return has(i) ? actGoods[i] : -1;
        }

        boolean takes(int i) {
            return has(i) && taking[i];
        }

        boolean lies(int i) {
            return has(i) && lying[i];
        }

        /** A place needs no such method: places come first, so their numbers are their parts. */
        int partOfGood(int good) {
            return places + good;
        }

        /** The size is no part: drawings of two sizes may have the same parts. */
        boolean hasThePartsOf(Drawing other) {
            if (parts != other.parts || places != other.places || goods != other.goods) {
                return false;
            }
            for (int i = 0; i < parts; i++) {
                if (!isPartLike(i, other)) {
                    return false;
                }
            }
            return true;
        }

        private boolean isPartLike(int i, Drawing other) {
            return amountOf(i) == other.amountOf(i)
                && placeOf(i) == other.placeOf(i)
                && goodOf(i) == other.goodOf(i)
                && takes(i) == other.takes(i)
                && lies(i) == other.lies(i);
        }
    }

    /** Which parts of a drawing are left. */
    private static final class Rest {
        private final Drawing drawing;
        private final boolean[] out;

        Rest(Drawing drawn) {
            drawing = drawn;
            out = new boolean[MOST_PARTS];
        }

        void takeAllBack() {
            for (int i = 0; i < MOST_PARTS; i++) {
                out[i] = false;
            }
        }

        void setOut(int i, boolean isOut) {
            if (drawing.has(i)) {
                out[i] = isOut;
            }
        }

        boolean isLeft(int i) {
            return drawing.has(i) && !out[i];
        }

        boolean isActThatCounts(int i) {
            return isLeft(i)
                && drawing.kindOf(i) == ACT
                && isLeft(drawing.placeOf(i))
                && isLeft(drawing.partOfGood(drawing.goodOf(i)));
        }

        int leftCount() {
            int found = 0;
            for (int i = 0; i < drawing.partCount(); i++) {
                if (isLeft(i)) {
                    found++;
                }
            }
            return found;
        }

        int countingActs() {
            int found = 0;
            for (int i = 0; i < drawing.partCount(); i++) {
                if (isActThatCounts(i)) {
                    found++;
                }
            }
            return found;
        }

        /** -1 if there are not so many. */
        int partLeftAt(int position) {
            int passed = 0;
            for (int i = 0; i < drawing.partCount(); i++) {
                if (isLeft(i)) {
                    if (passed == position) {
                        return i;
                    }
                    passed++;
                }
            }
            return -1;
        }
    }

    /** What happens, told anew each time, since any part may have gone or come back. */
    private static final class Story {
        private final Drawing drawing;
        private final Rest rest;
        /** A row of MOST_GOODS cells for each place. */
        private final int[] stock;
        private final int[] heaviest;
        private final boolean[] busy;
        private int found;

        Story(Drawing drawn, Rest remaining) {
            drawing = drawn;
            rest = remaining;
            stock = new int[MOST_PLACES * MOST_GOODS];
            heaviest = new int[MOST_PLACES];
            busy = new boolean[MOST_PLACES];
            found = 0;
        }

        /** The conditions that are so, as bits. */
        int tell() {
            forget();
            int before = -1;
            for (int i = 0; i < drawing.partCount(); i++) {
                if (rest.isActThatCounts(i)) {
                    carryOut(i);
                    weigh(drawing.placeOf(i));
                    compare(before, i);
                    before = i;
                }
            }
            lookAtTheEnd();
            return found;
        }

        int stockAt(int place, int good) {
            if (!drawing.hasPlace(place) || !drawing.hasGood(good)) {
                return 0;
            }
            return stock[place * MOST_GOODS + good];
        }

        int heaviestAt(int place) {
            return drawing.hasPlace(place) ? heaviest[place] : 0;
        }

        private void forget() {
            found = 0;
            for (int cell = 0; cell < MOST_PLACES * MOST_GOODS; cell++) {
                stock[cell] = 0;
            }
            for (int place = 0; place < MOST_PLACES; place++) {
                heaviest[place] = 0;
                busy[place] = false;
            }
        }

        private void carryOut(int act) {
            int place = drawing.placeOf(act);
            int good = drawing.goodOf(act);
            if (!drawing.hasPlace(place) || !drawing.hasGood(good)) {
                return;
            }
            int cell = place * MOST_GOODS + good;
            int moved = drawing.amountOf(act);
            stock[cell] += drawing.takes(act) ? -moved : moved;
            busy[place] = true;
            if (stock[cell] < 0) {
                found |= BELOW_NOTHING;
            }
            if (drawing.lies(act)) {
                found |= LIE_TOLD;
            }
        }

        private void weigh(int place) {
            if (!drawing.hasPlace(place)) {
                return;
            }
            int grams = 0;
            for (int good = 0; good < drawing.goodCount(); good++) {
                grams += Math.max(0, stockAt(place, good)) * drawing.amountOf(drawing.partOfGood(good));
            }
            heaviest[place] = Math.max(heaviest[place], grams);
            if (grams > drawing.amountOf(place)) {
                found |= TOO_HEAVY;
            }
        }

        private void compare(int before, int act) {
            if (drawing.has(before)
                && drawing.placeOf(before) == drawing.placeOf(act)
                && drawing.goodOf(before) == drawing.goodOf(act)
                && drawing.amountOf(before) == drawing.amountOf(act)
                && drawing.takes(before) != drawing.takes(act)) {
                found |= UNDONE_AT_ONCE;
            }
        }

        private void lookAtTheEnd() {
            int together = 0;
            for (int place = 0; place < drawing.placeCount(); place++) {
                for (int good = 0; good < drawing.goodCount(); good++) {
                    together += stockAt(place, good);
                }
                if (rest.isLeft(place) && !isBusy(place)) {
                    found |= IDLE_PLACE;
                }
            }
            if ((together & 1) == 1) {
                found |= ODD_AT_THE_END;
            }
        }

        private boolean isBusy(int place) {
            return drawing.hasPlace(place) && busy[place];
        }
    }
}
