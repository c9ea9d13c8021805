import java.util.Arrays;

/** Surveyors who keep a land in quarters of quarters; ../shared/DOC.md says what each call does. */
public final class LandQuarters {
    public static final int NONE = -1;

    private static final int SIDE = 16;
    private static final int CELLS = SIDE * SIDE;
    private static final int COMMON = 0;
    private static final int OWNERS = 8;
    private static final int HIGHEST = 9;
    private static final int HIGHEST_LEVEL = HIGHEST + 1;
    private static final int DEAREST = 9;
    private static final int MOST_SAVED = 6;
    private static final int SLOTS = 2;
    private static final int MOST_CHARACTERS = 60;
    private static final int FIRST_CODE = 33;
    private static final int LAST_CODE = 126;

    private final Survey survey = new Survey();
    private final Land land = survey.land;
    private final Survey supposed = new Survey();

    private final Land[] saved = new Land[MOST_SAVED];
    private int savedCount = 0;
    private final Land[] kept = new Land[SLOTS];

    private final char[] buffer = new char[MOST_CHARACTERS];
    private int buffered = 0;
    private final DeedReader reader = new DeedReader();

    public LandQuarters() {
    }

    // ---- land

    public int grant(int x, int y, int size, int owner) throws IndexOutOfBoundsException, IllegalArgumentException {
        needCell(x, y);
        needOwner(owner);
        needSquare(x, y, size);
        saveState();
        int changed = land.give(x, y, size, owner);
        survey.measure();
        return changed;
    }

    public int raise(int x, int y, int size, int by) throws IndexOutOfBoundsException, IllegalArgumentException {
        needCell(x, y);
        needSquare(x, y, size);
        if (by < -HIGHEST || by > HIGHEST) {
            throw new IllegalArgumentException("by is out of range");
        }
        saveState();
        return land.lift(x, y, size, by);
    }

    public int flood(int level) throws IllegalArgumentException {
        needLevel(level);
        saveState();
        int lost = land.drown(level);
        survey.measure();
        return lost;
    }

    // ---- sales and taxes

    public int buyPlot(int person, int x, int y) throws IndexOutOfBoundsException, IllegalStateException {
        needPerson(person);
        needCell(x, y);
        int rank = survey.rankAt(x, y);
        int cornerX = survey.cornerX(rank);
        int cornerY = survey.cornerY(rank);
        int size = survey.sizeOf(rank);
        needSale(person, cornerX, cornerY, size);
        saveState();
        int paid = land.sell(person, cornerX, cornerY, size);
        survey.measure();
        return paid;
    }

    public int buySquare(int person, int x, int y, int size)
            throws IndexOutOfBoundsException, IllegalArgumentException, IllegalStateException {
        needPerson(person);
        needCell(x, y);
        needSquare(x, y, size);
        needSale(person, x, y, size);
        saveState();
        int paid = land.sell(person, x, y, size);
        survey.measure();
        return paid;
    }

    public int collectTaxes() {
        saveState();
        int paid = takeTaxes();
        survey.measure();
        return paid;
    }

    public int setPrice(int coins) throws IllegalArgumentException {
        if (coins < 1 || coins > DEAREST) {
            throw new IllegalArgumentException("there is no such price");
        }
        saveState();
        int previous = land.cellPrice;
        land.cellPrice = coins;
        return previous;
    }

    public int setTax(int coins) throws IllegalArgumentException {
        if (coins < 0 || coins > DEAREST) {
            throw new IllegalArgumentException("there is no such tax");
        }
        saveState();
        int previous = land.plotTax;
        land.plotTax = coins;
        return previous;
    }

    // ---- deed text

    public int append(int code) throws IllegalArgumentException, IllegalStateException {
        if (code < FIRST_CODE || code > LAST_CODE) {
            throw new IllegalArgumentException("there is no such character");
        }
        if (buffered < 0 || buffered >= MOST_CHARACTERS) {
            throw new IllegalStateException("the buffer is full");
        }
        buffer[buffered] = (char) code;
        buffered++;
        return buffered;
    }

    public int clearBuffer() {
        int length = buffered;
        buffered = 0;
        return length;
    }

    public int bufferLength() {
        return buffered;
    }

    public int firstError() {
        return readBuffer();
    }

    public int carryOut() throws IllegalArgumentException {
        if (readBuffer() < buffered || !reader.isAtDeedEnd()) {
            throw new IllegalArgumentException("the buffer is not a complete deed text");
        }
        saveState();
        int carriedOut = obeyBuffer();
        buffered = 0;
        return carriedOut;
    }

    // ---- undo and snapshots

    public int undo() throws IllegalStateException {
        Land before = stateIn(saved, savedCount - 1);
        if (before == null) {
            throw new IllegalStateException("no state is saved");
        }
        savedCount--;
        restore(before);
        return savedCount;
    }

    public int savedStates() {
        return savedCount;
    }

    public int keep(int slot) throws IndexOutOfBoundsException {
        needSlot(slot);
        storeIn(kept, slot);
        return survey.count();
    }

    public int goBack(int slot) throws IndexOutOfBoundsException, IllegalStateException {
        needSlot(slot);
        Land snapshot = stateIn(kept, slot);
        if (snapshot == null) {
            throw new IllegalStateException("the slot is empty");
        }
        saveState();
        restore(snapshot);
        return survey.count();
    }

    // ---- cells

    public int ownerAt(int x, int y) throws IndexOutOfBoundsException {
        needCell(x, y);
        return land.ownerOf(x, y);
    }

    public int heightAt(int x, int y) throws IndexOutOfBoundsException {
        needCell(x, y);
        return land.heightOf(x, y);
    }

    public int plotSizeAt(int x, int y) throws IndexOutOfBoundsException {
        needCell(x, y);
        return survey.sizeOf(survey.rankAt(x, y));
    }

    public int plotRankAt(int x, int y) throws IndexOutOfBoundsException {
        needCell(x, y);
        return survey.rankAt(x, y);
    }

    public int plotPriceAt(int x, int y) throws IndexOutOfBoundsException {
        needCell(x, y);
        return land.costOf(survey.sizeOf(survey.rankAt(x, y)));
    }

    // ---- plots

    public int plots() {
        return survey.count();
    }

    public int plotOwner(int rank) throws IndexOutOfBoundsException {
        needPlot(rank);
        return survey.ownerOf(rank);
    }

    public int plotX(int rank) throws IndexOutOfBoundsException {
        needPlot(rank);
        return survey.cornerX(rank);
    }

    public int plotY(int rank) throws IndexOutOfBoundsException {
        needPlot(rank);
        return survey.cornerY(rank);
    }

    public int plotSize(int rank) throws IndexOutOfBoundsException {
        needPlot(rank);
        return survey.sizeOf(rank);
    }

    // ---- owners

    public int plotsOf(int owner) throws IndexOutOfBoundsException {
        needOwner(owner);
        return survey.countOf(owner);
    }

    public int areaByPlots(int owner) throws IndexOutOfBoundsException {
        needOwner(owner);
        return survey.areaOf(owner);
    }

    public int areaByCells(int owner) throws IndexOutOfBoundsException {
        needOwner(owner);
        // No cell is as high as the highest level, so all of the owner's cells are lower.
        return land.cellsBelow(owner, HIGHEST_LEVEL);
    }

    public int fenceByPlots(int owner) throws IndexOutOfBoundsException {
        needOwner(owner);
        return survey.fenceOf(owner);
    }

    public int fenceByCells(int owner) throws IndexOutOfBoundsException {
        needOwner(owner);
        int length = 0;
        for (int other = 0; other < OWNERS; other++) {
            length += land.sharedFence(owner, other);
        }
        return length;
    }

    public int fenceBetween(int owner, int other) throws IndexOutOfBoundsException {
        needOwner(owner);
        needOwner(other);
        return land.sharedFence(owner, other);
    }

    public int largestPlotOf(int owner) throws IndexOutOfBoundsException {
        needOwner(owner);
        return survey.firstLargest(owner);
    }

    public int firstToLose(int person) throws IndexOutOfBoundsException {
        needPerson(person);
        return survey.lastSmallest(person);
    }

    public int coinsOf(int owner) throws IndexOutOfBoundsException {
        needOwner(owner);
        return land.purseOf(owner);
    }

    // ---- accounts

    public int price() {
        return land.cellPrice;
    }

    public int tax() {
        return land.plotTax;
    }

    public int sales() {
        return land.salesSoFar;
    }

    public int floods() {
        return land.floodsSoFar;
    }

    public int plotsLost() {
        return land.lostSoFar;
    }

    // ---- what would be; nothing changes

    public int lowCells(int owner, int level) throws IndexOutOfBoundsException, IllegalArgumentException {
        needOwner(owner);
        needLevel(level);
        return land.cellsBelow(owner, level);
    }

    public int plotsIfFlooded(int level) throws IllegalArgumentException {
        needLevel(level);
        supposed.land.become(land);
        supposed.land.drown(level);
        supposed.measure();
        return supposed.count();
    }

    public int lossesIfTaxed(int person) throws IndexOutOfBoundsException {
        needPerson(person);
        return lossesOf(person);
    }

    public int nearestNeighbour(int owner) throws IndexOutOfBoundsException {
        needOwner(owner);
        int nearest = NONE;
        int longest = 0;
        for (int other = 0; other < OWNERS; other++) {
            int length = land.sharedFence(owner, other);
            if (length > longest) {
                longest = length;
                nearest = other;
            }
        }
        return nearest;
    }

    public double meanHeight() {
        return (double) land.sumOfHeights() / 256.0;
    }

    // What a call needs; the calls of these stand in the order of the throws clauses.

    private static void needCell(int x, int y) {
        if (!isCell(x, y)) {
            throw new IndexOutOfBoundsException("there is no such cell");
        }
    }

    private static void needOwner(int owner) {
        if (!isOwner(owner)) {
            throw new IndexOutOfBoundsException("there is no such owner");
        }
    }

    private static void needPerson(int person) {
        if (person <= COMMON || person >= OWNERS) {
            throw new IndexOutOfBoundsException("there is no such person");
        }
    }

    private static void needSlot(int slot) {
        if (slot < 0 || slot >= SLOTS) {
            throw new IndexOutOfBoundsException("there is no such slot");
        }
    }

    private static void needSquare(int x, int y, int size) {
        if (!isSquare(x, y, size)) {
            throw new IllegalArgumentException("there is no such square");
        }
    }

    private static void needLevel(int level) {
        if (level < 1 || level > HIGHEST_LEVEL) {
            throw new IllegalArgumentException("level is out of range");
        }
    }

    private void needPlot(int rank) {
        if (!survey.isPlot(rank)) {
            throw new IndexOutOfBoundsException("there is no such plot");
        }
    }

    private void needSale(int person, int x, int y, int size) {
        if (!land.canSell(person, x, y, size)) {
            throw new IllegalStateException("this person cannot buy this");
        }
    }

    private static boolean isCell(int x, int y) {
        return x >= 0 && x < SIDE && y >= 0 && y < SIDE;
    }

    private static boolean isOwner(int owner) {
        return owner >= COMMON && owner < OWNERS;
    }

    private static boolean isSquare(int x, int y, int size) {
        boolean isSize = size == 1 || size == 2 || size == 4 || size == 8 || size == SIDE;
        boolean isInside = x >= 0 && x < SIDE && y >= 0 && y < SIDE;
        return isSize && isInside && x % size == 0 && y % size == 0;
    }

    // Taxes.

    private int takeTaxes() {
        int paid = 0;
        for (int person = COMMON + 1; person < OWNERS; person++) {
            losePlots(person, lossesOf(person));
            int due = land.plotTax * survey.countOf(person);
            land.pay(person, COMMON, due);
            paid += due;
        }
        return paid;
    }

    private int lossesOf(int person) {
        int owned = survey.countOf(person);
        int affordable = owned;
        while (affordable > 0 && land.purseOf(person) < land.plotTax * affordable) {
            affordable--;
        }
        return owned - affordable;
    }

    /** Needs no new survey: a loss changes no other plot of a person, and the common pays no taxes. */
    private void losePlots(int person, int number) {
        for (int i = 0; i < number; i++) {
            int rank = survey.lastSmallest(person);
            land.give(survey.cornerX(rank), survey.cornerY(rank), survey.sizeOf(rank), COMMON);
            survey.markCommon(rank);
            land.lostSoFar++;
        }
    }

    // The deeds in the buffer.

    /** Answers the index of the first error, or the length; the reader stands then where the reading ended. */
    private int readBuffer() {
        reader.begin();
        for (int i = 0; i < buffered && i < MOST_CHARACTERS; i++) {
            if (!reader.accept(buffer[i])) {
                return i;
            }
        }
        return buffered;
    }

    private int obeyBuffer() {
        int carriedOut = 0;
        reader.begin();
        for (int i = 0; i < buffered && i < MOST_CHARACTERS; i++) {
            reader.accept(buffer[i]);
            if (reader.isAtDeedEnd()) {
                if (!obeyDeed()) {
                    return carriedOut;
                }
                survey.measure();
                carriedOut++;
            }
        }
        return carriedOut;
    }

    /** Carries out the deed that was read, unless its method would throw; tells whether it did. */
    private boolean obeyDeed() {
        char kind = reader.kind;
        if (kind == 'g') {
            return obeyGrant(reader.x, reader.y, reader.size, reader.number);
        }
        if (kind == 'r') {
            return obeyRaise(reader.x, reader.y, reader.size, reader.signedNumber());
        }
        if (kind == 'b') {
            return obeySale(reader.number, survey.rankAt(reader.x, reader.y));
        }
        if (kind == 'f') {
            land.drown(reader.number);
        } else {
            takeTaxes();
        }
        return true;
    }

    private boolean obeyGrant(int x, int y, int size, int owner) {
        if (!isSquare(x, y, size)) {
            return false;
        }
        land.give(x, y, size, owner);
        return true;
    }

    private boolean obeyRaise(int x, int y, int size, int by) {
        if (!isSquare(x, y, size)) {
            return false;
        }
        land.lift(x, y, size, by);
        return true;
    }

    private boolean obeySale(int person, int rank) {
        int x = survey.cornerX(rank);
        int y = survey.cornerY(rank);
        int size = survey.sizeOf(rank);
        if (!land.canSell(person, x, y, size)) {
            return false;
        }
        land.sell(person, x, y, size);
        return true;
    }

    // Saved states and snapshots.

    private void saveState() {
        if (savedCount >= MOST_SAVED) {
            dropOldest();
        }
        storeIn(saved, savedCount);
        savedCount++;
    }

    private void dropOldest() {
        Land oldest = saved[0];
        for (int i = 1; i < MOST_SAVED; i++) {
            saved[i - 1] = saved[i];
        }
        // Its rows are used again for the state that is saved next.
        saved[MOST_SAVED - 1] = oldest;
        savedCount = MOST_SAVED - 1;
    }

    /** Answers what a place holds, null if it holds nothing or if there is no such place. */
    private static Land stateIn(Land[] places, int place) {
        return place >= 0 && place < places.length ? places[place] : null;
    }

    /** Makes a place's rows when it is used first, and writes over them later. */
    private void storeIn(Land[] places, int place) {
        if (place < 0 || place >= places.length) {
            return;
        }
        Land copy = places[place];
        if (copy == null) {
            copy = new Land();
            places[place] = copy;
        }
        copy.become(land);
    }

    private void restore(Land before) {
        land.become(before);
        survey.measure();
    }

    /** A whole state: the cells, the coins, the settings and the accounts. */
    private static final class Land {
        private final int[] owners = new int[CELLS];
        private final int[] heights = new int[CELLS];
        private final int[] coins = new int[OWNERS];
        private int cellPrice = 2;
        private int plotTax = 1;
        private int salesSoFar = 0;
        private int floodsSoFar = 0;
        private int lostSoFar = 0;

        Land() {
            Arrays.fill(owners, COMMON);
            Arrays.fill(heights, 5);
            Arrays.fill(coins, 100);
            coins[COMMON] = 0;
        }

        void become(Land other) {
            if (other == null) {
                return;
            }
            System.arraycopy(other.owners, 0, owners, 0, CELLS);
            System.arraycopy(other.heights, 0, heights, 0, CELLS);
            System.arraycopy(other.coins, 0, coins, 0, OWNERS);
            cellPrice = other.cellPrice;
            plotTax = other.plotTax;
            salesSoFar = other.salesSoFar;
            floodsSoFar = other.floodsSoFar;
            lostSoFar = other.lostSoFar;
        }

        /** Answers NONE beyond the rim. */
        int ownerOf(int x, int y) {
            return isCell(x, y) ? owners[y * SIDE + x] : NONE;
        }

        int heightOf(int x, int y) {
            return isCell(x, y) ? heights[y * SIDE + x] : NONE;
        }

        int purseOf(int owner) {
            return isOwner(owner) ? coins[owner] : NONE;
        }

        int give(int x, int y, int size, int owner) {
            int changed = 0;
            if (!isSquare(x, y, size)) {
                return changed;
            }
            for (int row = y; row < y + size; row++) {
                for (int column = x; column < x + size; column++) {
                    if (owners[row * SIDE + column] != owner) {
                        owners[row * SIDE + column] = owner;
                        changed++;
                    }
                }
            }
            return changed;
        }

        int lift(int x, int y, int size, int by) {
            int sum = 0;
            if (!isSquare(x, y, size)) {
                return sum;
            }
            for (int row = y; row < y + size; row++) {
                for (int column = x; column < x + size; column++) {
                    int height = Math.max(0, Math.min(HIGHEST, heights[row * SIDE + column] + by));
                    heights[row * SIDE + column] = height;
                    sum += height;
                }
            }
            return sum;
        }

        int drown(int level) {
            int lost = 0;
            for (int cell = 0; cell < CELLS; cell++) {
                if (heights[cell] < level && owners[cell] != COMMON) {
                    owners[cell] = COMMON;
                    lost++;
                }
            }
            floodsSoFar++;
            return lost;
        }

        boolean isSquareOfOne(int x, int y, int size) {
            if (!isSquare(x, y, size)) {
                return false;
            }
            int owner = owners[y * SIDE + x];
            for (int row = y; row < y + size; row++) {
                for (int column = x; column < x + size; column++) {
                    if (owners[row * SIDE + column] != owner) {
                        return false;
                    }
                }
            }
            return true;
        }

        int costOf(int size) {
            return cellPrice * size * size;
        }

        boolean canSell(int person, int x, int y, int size) {
            return isSquareOfOne(x, y, size) && ownerOf(x, y) != person && purseOf(person) >= costOf(size);
        }

        int sell(int person, int x, int y, int size) {
            int cost = costOf(size);
            pay(person, ownerOf(x, y), cost);
            give(x, y, size, person);
            salesSoFar++;
            return cost;
        }

        void pay(int payer, int payee, int amount) {
            if (isOwner(payer) && isOwner(payee)) {
                coins[payer] -= amount;
                coins[payee] += amount;
            }
        }

        int cellsBelow(int owner, int level) {
            int cells = 0;
            for (int cell = 0; cell < CELLS; cell++) {
                if (owners[cell] == owner && heights[cell] < level) {
                    cells++;
                }
            }
            return cells;
        }

        int sumOfHeights() {
            int sum = 0;
            for (int cell = 0; cell < CELLS; cell++) {
                sum += heights[cell];
            }
            return sum;
        }

        int sharedFence(int owner, int other) {
            if (owner == other) {
                return 0;
            }
            int length = 0;
            for (int y = 0; y < SIDE; y++) {
                for (int x = 0; x < SIDE; x++) {
                    if (ownerOf(x, y) == owner) {
                        length += sidesTo(x, y, other);
                    }
                }
            }
            return length;
        }

        private int sidesTo(int x, int y, int other) {
            int sides = 0;
            sides += ownerOf(x, y - 1) == other ? 1 : 0;
            sides += ownerOf(x, y + 1) == other ? 1 : 0;
            sides += ownerOf(x - 1, y) == other ? 1 : 0;
            sides += ownerOf(x + 1, y) == other ? 1 : 0;
            return sides;
        }
    }

    /** A land, and its plots in their order, as they were when they were measured. */
    private static final class Survey {
        private final Land land = new Land();
        private final int[] ranks = new int[CELLS];
        private final int[] owners = new int[CELLS];
        private final int[] cornerXs = new int[CELLS];
        private final int[] cornerYs = new int[CELLS];
        private final int[] sizes = new int[CELLS];
        private int plotCount = 0;

        Survey() {
            measure();
        }

        /**
         * Goes through the cells in the order of quarters of quarters: the bits of y and x take turns in it.
         * So the first cell of a plot that comes is its corner, and no larger square that has it is one plot.
         */
        void measure() {
            Arrays.fill(ranks, NONE);
            plotCount = 0;
            for (int step = 0; step < CELLS; step++) {
                int x = everyOtherBit(step);
                int y = everyOtherBit(step >> 1);
                if (rankAt(x, y) == NONE) {
                    addPlot(x, y, largestSize(x, y));
                }
            }
        }

        private static int everyOtherBit(int bits) {
            return (bits & 1) | (bits >> 1 & 2) | (bits >> 2 & 4) | (bits >> 3 & 8);
        }

        private int largestSize(int x, int y) {
            int largest = 1;
            for (int size = 2; size <= SIDE; size *= 2) {
                if (!land.isSquareOfOne(x, y, size)) {
                    return largest;
                }
                largest = size;
            }
            return largest;
        }

        private void addPlot(int x, int y, int size) {
            if (plotCount < 0 || plotCount >= CELLS || !isSquare(x, y, size)) {
                return;
            }
            owners[plotCount] = land.ownerOf(x, y);
            cornerXs[plotCount] = x;
            cornerYs[plotCount] = y;
            sizes[plotCount] = size;
            for (int row = y; row < y + size; row++) {
                for (int column = x; column < x + size; column++) {
                    ranks[row * SIDE + column] = plotCount;
                }
            }
            plotCount++;
        }

        int count() {
            return plotCount;
        }

        boolean isPlot(int rank) {
            return rank >= 0 && rank < plotCount && rank < CELLS;
        }

        int rankAt(int x, int y) {
            return isCell(x, y) ? ranks[y * SIDE + x] : NONE;
        }

        int cornerX(int rank) {
            return isPlot(rank) ? cornerXs[rank] : NONE;
        }

        int cornerY(int rank) {
            return isPlot(rank) ? cornerYs[rank] : NONE;
        }

        int sizeOf(int rank) {
            return isPlot(rank) ? sizes[rank] : 0;
        }

        int ownerOf(int rank) {
            return isPlot(rank) ? owners[rank] : NONE;
        }

        void markCommon(int rank) {
            if (isPlot(rank)) {
                owners[rank] = COMMON;
            }
        }

        int countOf(int owner) {
            int owned = 0;
            for (int rank = 0; rank < plotCount && rank < CELLS; rank++) {
                if (owners[rank] == owner) {
                    owned++;
                }
            }
            return owned;
        }

        int areaOf(int owner) {
            int area = 0;
            for (int rank = 0; rank < plotCount && rank < CELLS; rank++) {
                if (owners[rank] == owner) {
                    area += sizes[rank] * sizes[rank];
                }
            }
            return area;
        }

        int fenceOf(int owner) {
            int length = 0;
            for (int rank = 0; rank < plotCount && rank < CELLS; rank++) {
                if (owners[rank] == owner) {
                    length += fenceRound(cornerXs[rank], cornerYs[rank], sizes[rank], owner);
                }
            }
            return length;
        }

        private int fenceRound(int x, int y, int size, int owner) {
            int length = 0;
            for (int i = 0; i < size; i++) {
                length += fenceTowards(x + i, y - 1, owner);
                length += fenceTowards(x + i, y + size, owner);
                length += fenceTowards(x - 1, y + i, owner);
                length += fenceTowards(x + size, y + i, owner);
            }
            return length;
        }

        private int fenceTowards(int x, int y, int owner) {
            int neighbour = land.ownerOf(x, y);
            return neighbour != NONE && neighbour != owner ? 1 : 0;
        }

        int firstLargest(int owner) {
            int found = NONE;
            int largest = 0;
            for (int rank = 0; rank < plotCount && rank < CELLS; rank++) {
                if (owners[rank] == owner && sizes[rank] > largest) {
                    largest = sizes[rank];
                    found = rank;
                }
            }
            return found;
        }

        int lastSmallest(int owner) {
            int found = NONE;
            int smallest = SIDE;
            for (int rank = 0; rank < plotCount && rank < CELLS; rank++) {
                if (owners[rank] == owner && sizes[rank] <= smallest) {
                    smallest = sizes[rank];
                    found = rank;
                }
            }
            return found;
        }
    }

    /** Reads a deed text character by character, and holds the parts of the deed that it read last. */
    private static final class DeedReader {
        private static final int AT_KIND = 0;
        private static final int AT_PERSON = 1;
        private static final int AT_X = 2;
        private static final int AT_Y = 3;
        private static final int AT_SIZE = 4;
        private static final int AFTER_ONE = 5;
        private static final int AT_SIGN = 6;
        private static final int AT_NUMBER = 7;
        private static final int AT_END = 8;

        private int stage = AT_KIND;
        private char kind = 't';
        private int x = 0;
        private int y = 0;
        private int size = 1;
        private boolean isLess = false;
        private int number = 1;

        void begin() {
            stage = AT_KIND;
        }

        int signedNumber() {
            return isLess ? -number : number;
        }

        boolean isAtDeedEnd() {
            return stage == AT_END;
        }

        /** Tells whether a deed text can have this character here; if not, nothing is taken. */
        boolean accept(char c) {
            switch (stage) {
                case AT_KIND:
                    return acceptKind(c);
                case AT_PERSON:
                    return acceptPerson(c);
                case AT_X:
                    return acceptX(c);
                case AT_Y:
                    return acceptY(c);
                case AT_SIZE:
                    return acceptSize(c);
                case AFTER_ONE:
                    return acceptSix(c) || acceptSign(c);
                case AT_SIGN:
                    return acceptSign(c);
                case AT_NUMBER:
                    return acceptNumber(c);
                default:
                    return acceptSeparator(c);
            }
        }

        private boolean acceptKind(char c) {
            if (c == 'g' || c == 'r') {
                stage = AT_X;
            } else if (c == 'b') {
                stage = AT_PERSON;
            } else if (c == 'f') {
                stage = AT_NUMBER;
            } else if (c == 't') {
                stage = AT_END;
            } else {
                return false;
            }
            kind = c;
            return true;
        }

        private boolean acceptPerson(char c) {
            if (c < '1' || c > '7') {
                return false;
            }
            number = c - '0';
            stage = AT_X;
            return true;
        }

        private boolean acceptX(char c) {
            if (c < 'a' || c > 'p') {
                return false;
            }
            x = c - 'a';
            stage = AT_Y;
            return true;
        }

        private boolean acceptY(char c) {
            if (c < 'a' || c > 'p') {
                return false;
            }
            y = c - 'a';
            stage = kind == 'b' ? AT_END : AT_SIZE;
            return true;
        }

        private boolean acceptSize(char c) {
            if (c != '1' && c != '2' && c != '4' && c != '8') {
                return false;
            }
            size = c - '0';
            stage = c == '1' ? AFTER_ONE : AT_SIGN;
            return true;
        }

        private boolean acceptSix(char c) {
            if (c != '6') {
                return false;
            }
            size = SIDE;
            stage = AT_SIGN;
            return true;
        }

        private boolean acceptSign(char c) {
            boolean fits = kind == 'g' ? c == '=' : c == '+' || c == '-';
            if (!fits) {
                return false;
            }
            isLess = c == '-';
            stage = AT_NUMBER;
            return true;
        }

        private boolean acceptNumber(char c) {
            boolean fits = kind == 'g' ? c >= '0' && c <= '7' : c >= '1' && c <= '9';
            if (!fits) {
                return false;
            }
            number = c - '0';
            stage = AT_END;
            return true;
        }

        private boolean acceptSeparator(char c) {
            if (c != ';') {
                return false;
            }
            stage = AT_KIND;
            return true;
        }
    }
}
