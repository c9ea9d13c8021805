/** "A call that throws an exception changes nothing": each range at both ends, and which of two exceptions comes first. */
public final class RefusalsTest {
    private static final String NO_CELL = "\"There is no such cell\" means that x or y is not 0 to 15.";
    private static final String NO_SQUARE = "\"There is no such square\" means that the size is not 1, 2, 4, 8 or 16,"
        + " or that x or y cannot be divided by it.";
    private static final String NO_OWNER = "\"There is no such owner\" means that the number is not 0 to 7";
    private static final String NO_PERSON = "\"there is no such person\" means that it is not 1 to 7.";
    private static final String NO_PLOT = "if there is no such plot";
    private static final String WHICH_FIRST = "If more than one exception applies to a call,"
        + " the one that its throws clause lists first is thrown.";

    private static void cellsOfChanges() {
        Checks.sentence(NO_CELL);
        Checks.range("grant x", 0, 15, Checks.INDEX, Checks.WORKED, (land, x) -> land.grant(x, 3, 1, 5));
        Checks.range("grant y", 0, 15, Checks.INDEX, Checks.WORKED, (land, y) -> land.grant(3, y, 1, 5));
        Checks.range("raise x", 0, 15, Checks.INDEX, Checks.WORKED, (land, x) -> land.raise(x, 3, 1, 1));
        Checks.range("raise y", 0, 15, Checks.INDEX, Checks.WORKED, (land, y) -> land.raise(3, y, 1, 1));
        Checks.range("buyPlot x", 0, 15, Checks.INDEX, Checks.QUARTERED, (land, x) -> land.buyPlot(5, x, 3));
        Checks.range("buyPlot y", 0, 15, Checks.INDEX, Checks.QUARTERED, (land, y) -> land.buyPlot(5, 3, y));
        Checks.range("buySquare x", 0, 15, Checks.INDEX, Checks.QUARTERED, (land, x) -> land.buySquare(5, x, 3, 1));
        Checks.range("buySquare y", 0, 15, Checks.INDEX, Checks.QUARTERED, (land, y) -> land.buySquare(5, 3, y, 1));
    }

    private static void cellsOfQuestions() {
        Checks.sentence(NO_CELL);
        Checks.range("ownerAt x", 0, 15, Checks.INDEX, Checks.WORKED, (land, x) -> land.ownerAt(x, 3));
        Checks.range("ownerAt y", 0, 15, Checks.INDEX, Checks.WORKED, (land, y) -> land.ownerAt(3, y));
        Checks.range("heightAt x", 0, 15, Checks.INDEX, Checks.WORKED, (land, x) -> land.heightAt(x, 3));
        Checks.range("heightAt y", 0, 15, Checks.INDEX, Checks.WORKED, (land, y) -> land.heightAt(3, y));
        Checks.range("plotSizeAt x", 0, 15, Checks.INDEX, Checks.WORKED, (land, x) -> land.plotSizeAt(x, 3));
        Checks.range("plotSizeAt y", 0, 15, Checks.INDEX, Checks.WORKED, (land, y) -> land.plotSizeAt(3, y));
        Checks.range("plotRankAt x", 0, 15, Checks.INDEX, Checks.WORKED, (land, x) -> land.plotRankAt(x, 3));
        Checks.range("plotRankAt y", 0, 15, Checks.INDEX, Checks.WORKED, (land, y) -> land.plotRankAt(3, y));
        Checks.range("plotPriceAt x", 0, 15, Checks.INDEX, Checks.WORKED, (land, x) -> land.plotPriceAt(x, 3));
        Checks.range("plotPriceAt y", 0, 15, Checks.INDEX, Checks.WORKED, (land, y) -> land.plotPriceAt(3, y));
    }

    private static void owners() {
        Checks.sentence(NO_OWNER);
        Checks.range("grant owner", 0, 7, Checks.INDEX, Checks.WORKED, (land, owner) -> land.grant(0, 0, 16, owner));
        Checks.range("plotsOf", 0, 7, Checks.INDEX, Checks.WORKED, LandQuarters::plotsOf);
        Checks.range("areaByPlots", 0, 7, Checks.INDEX, Checks.WORKED, LandQuarters::areaByPlots);
        Checks.range("areaByCells", 0, 7, Checks.INDEX, Checks.WORKED, LandQuarters::areaByCells);
        Checks.range("fenceByPlots", 0, 7, Checks.INDEX, Checks.WORKED, LandQuarters::fenceByPlots);
        Checks.range("fenceByCells", 0, 7, Checks.INDEX, Checks.WORKED, LandQuarters::fenceByCells);
        Checks.range("fenceBetween owner", 0, 7, Checks.INDEX, Checks.WORKED, (land, owner) -> land.fenceBetween(owner, 1));
        Checks.range("fenceBetween other", 0, 7, Checks.INDEX, Checks.WORKED, (land, other) -> land.fenceBetween(1, other));
        Checks.range("fenceBetween both", 0, 7, Checks.INDEX, Checks.WORKED, (land, owner) -> land.fenceBetween(owner, owner));
        Checks.range("largestPlotOf", 0, 7, Checks.INDEX, Checks.WORKED, LandQuarters::largestPlotOf);
        Checks.range("coinsOf", 0, 7, Checks.INDEX, Checks.WORKED, LandQuarters::coinsOf);
        Checks.range("lowCells owner", 0, 7, Checks.INDEX, Checks.WORKED, (land, owner) -> land.lowCells(owner, 5));
        Checks.range("nearestNeighbour", 0, 7, Checks.INDEX, Checks.WORKED, LandQuarters::nearestNeighbour);
    }

    private static void persons() {
        Checks.sentence(NO_PERSON);
        Checks.range("buyPlot person", 1, 7, Checks.INDEX, Checks.QUARTERED, (land, person) -> land.buyPlot(person, 8, 0));
        Checks.range("buySquare person", 1, 7, Checks.INDEX, Checks.QUARTERED, (land, person) -> land.buySquare(person, 8, 0, 4));
        Checks.range("firstToLose", 1, 7, Checks.INDEX, Checks.WORKED, LandQuarters::firstToLose);
        Checks.range("lossesIfTaxed", 1, 7, Checks.INDEX, Checks.WORKED, LandQuarters::lossesIfTaxed);
    }

    private static void plots() {
        Checks.sentence(NO_PLOT);
        Checks.Maker[] makers = {Checks.NEW, Checks.WORKED, Checks.CHECKERED};
        int[] counts = {1, Checks.WORKED_PLOTS, Checks.CHECKERED_PLOTS};
        for (int i = 0; i < makers.length; i++) {
            int last = counts[i] - 1;
            Checks.range("plotOwner", 0, last, Checks.INDEX, makers[i], LandQuarters::plotOwner);
            Checks.range("plotX", 0, last, Checks.INDEX, makers[i], LandQuarters::plotX);
            Checks.range("plotY", 0, last, Checks.INDEX, makers[i], LandQuarters::plotY);
            Checks.range("plotSize", 0, last, Checks.INDEX, makers[i], LandQuarters::plotSize);
        }
    }

    /** A rank that was one, before plots grew together, is none any longer. */
    private static void plotsThatWere() {
        Checks.sentence(NO_PLOT);
        Checks.Maker maker = () -> {
            LandQuarters land = new LandQuarters();
            land.grant(15, 15, 1, 1);
            land.grant(15, 15, 1, 0);
            return land;
        };
        Checks.refused("plotOwner of a plot that was", maker, Checks.INDEX, land -> land.plotOwner(12));
        Checks.refused("plotX of a plot that was", maker, Checks.INDEX, land -> land.plotX(12));
        Checks.refused("plotY of a plot that was", maker, Checks.INDEX, land -> land.plotY(1));
        Checks.refused("plotSize of a plot that was", maker, Checks.INDEX, land -> land.plotSize(1));
    }

    private static void amounts() {
        Checks.sentence("by: -9 to 9");
        Checks.range("raise by", -9, 9, Checks.ARGUMENT, Checks.WORKED, (land, by) -> land.raise(4, 4, 4, by));
        Checks.sentence("level: 1 to 10");
        Checks.range("flood", 1, 10, Checks.ARGUMENT, Checks.WORKED, LandQuarters::flood);
        Checks.range("lowCells level", 1, 10, Checks.ARGUMENT, Checks.WORKED, (land, level) -> land.lowCells(1, level));
        Checks.range("plotsIfFlooded", 1, 10, Checks.ARGUMENT, Checks.WORKED, LandQuarters::plotsIfFlooded);
        Checks.sentence("coins: 1 to 9");
        Checks.range("setPrice", 1, 9, Checks.ARGUMENT, Checks.WORKED, LandQuarters::setPrice);
        Checks.sentence("coins: 0 to 9");
        Checks.range("setTax", 0, 9, Checks.ARGUMENT, Checks.WORKED, LandQuarters::setTax);
        Checks.sentence("code: a character code, 33 to 126");
        Checks.range("append", 33, 126, Checks.ARGUMENT, Checks.WORKED, LandQuarters::append);
        Checks.sentence("slot: 0 or 1");
        Checks.range("keep", 0, 1, Checks.INDEX, Checks.WORKED, LandQuarters::keep);
        Checks.range("goBack", 0, 1, Checks.INDEX, Checks.WORKED, LandQuarters::goBack);
    }

    private static void sizes() {
        Checks.sentence(NO_SQUARE);
        for (int size : new int[] {-16, -8, -4, -2, -1, 0, 3, 5, 6, 7, 9, 10, 12, 14, 15, 17, 18, 20, 24, 32, 64, 256, 257, 65536,
            65537, 1 << 30, Integer.MIN_VALUE, Integer.MIN_VALUE + 1, Integer.MAX_VALUE}) {
            Checks.refused("grant size " + size, Checks.WORKED, Checks.ARGUMENT, land -> land.grant(0, 0, size, 5));
            Checks.refused("raise size " + size, Checks.WORKED, Checks.ARGUMENT, land -> land.raise(0, 0, size, 1));
            Checks.refused("buySquare size " + size, Checks.QUARTERED, Checks.ARGUMENT, land -> land.buySquare(5, 0, 0, size));
        }
        for (int size = 1; size <= 16; size *= 2) {
            int good = size;
            Checks.answered("grant size " + size, new LandQuarters(), land -> land.grant(0, 0, good, 5));
            Checks.answered("raise size " + size, new LandQuarters(), land -> land.raise(0, 0, good, 1));
        }
        for (int size = 1; size <= 8; size *= 2) {
            int good = size;
            Checks.answered("buySquare size " + size, Checks.quartered(), land -> land.buySquare(5, 0, 0, good));
        }
    }

    private static void corners() {
        Checks.sentence("A square of the land has a corner x, y, both of which can be divided by the size.");
        for (int size = 1; size <= 16; size *= 2) {
            for (int cell = 0; cell < 256; cell++) {
                corner(cell % 16, cell / 16, size);
            }
        }
        Checks.refused("grant(1, 0, 2, 5)", Checks.WORKED, Checks.ARGUMENT, land -> land.grant(1, 0, 2, 5));
        Checks.refused("grant(0, 8, 16, 5)", Checks.WORKED, Checks.ARGUMENT, land -> land.grant(0, 8, 16, 5));
        Checks.refused("raise(12, 0, 8, 1)", Checks.WORKED, Checks.ARGUMENT, land -> land.raise(12, 0, 8, 1));
        Checks.refused("raise(0, 15, 2, 1)", Checks.WORKED, Checks.ARGUMENT, land -> land.raise(0, 15, 2, 1));
        Checks.refused("buySquare(5, 2, 0, 4)", Checks.QUARTERED, Checks.ARGUMENT, land -> land.buySquare(5, 2, 0, 4));
        Checks.refused("buySquare(5, 0, 1, 2)", Checks.QUARTERED, Checks.ARGUMENT, land -> land.buySquare(5, 0, 1, 2));
    }

    private static void corner(int x, int y, int size) {
        boolean fits = x % size == 0 && y % size == 0;
        String where = " at " + x + ", " + y + " of " + size;
        LandQuarters land = new LandQuarters();
        Checks.due("raise" + where, fits ? 4 * size * size : Checks.ARGUMENT, Checks.answer(land, l -> l.raise(x, y, size, -1)));
        Checks.due("grant" + where, fits ? size * size : Checks.ARGUMENT, Checks.answer(land, l -> l.grant(x, y, size, 7)));
        if (size < 16) {
            LandQuarters other = Checks.quartered();
            Checks.due("buySquare" + where, fits ? size * size : Checks.ARGUMENT,
                Checks.answer(other, l -> l.buySquare(7, x, y, size)));
        }
    }

    private static void firstOfGrantAndRaise() {
        Checks.sentence(WHICH_FIRST);
        first("grant: no such x before no such square", Checks.INDEX, land -> land.grant(-1, 0, 3, 1));
        first("grant: no such y before no such square", Checks.INDEX, land -> land.grant(0, 16, 0, 1));
        first("grant: no such owner before no such size", Checks.INDEX, land -> land.grant(0, 0, 3, 8));
        first("grant: no such owner before a corner that does not fit", Checks.INDEX, land -> land.grant(1, 1, 2, -1));
        first("raise: no such x before no such square", Checks.INDEX, land -> land.raise(16, 0, 5, 1));
        first("raise: no such y before no such square", Checks.INDEX, land -> land.raise(0, -1, 5, 1));
        first("raise: no such x before by out of range", Checks.INDEX, land -> land.raise(-1, 0, 1, 10));
        first("raise: no such y before by out of range", Checks.INDEX, land -> land.raise(0, 16, 1, -10));
        first("raise: no such cell before both", Checks.INDEX, land -> land.raise(16, 16, 0, 99));
        first("raise: no such square and by out of range", Checks.ARGUMENT, land -> land.raise(1, 0, 2, 10));
        first("lowCells: no such owner before level out of range", Checks.INDEX, land -> land.lowCells(8, 0));
        first("lowCells: no such owner before level out of range", Checks.INDEX, land -> land.lowCells(-1, 11));
    }

    private static void first(String what, Class<?> kind, Checks.Call call) {
        Checks.refused(what, Checks.WORKED, kind, call);
    }

    /** Person 1 of these has 1 coin, and the plot with 0, 0. */
    private static void firstOfSales() {
        Checks.sentence(WHICH_FIRST);
        first("buyPlot: no such person before too dear", Checks.INDEX, land -> land.buyPlot(8, 0, 15));
        first("buyPlot: the common is no person, before its own plot", Checks.INDEX, land -> land.buyPlot(0, 0, 15));
        first("buyPlot: no such x before too dear", Checks.INDEX, land -> land.buyPlot(1, 16, 0));
        first("buyPlot: no such y before too dear", Checks.INDEX, land -> land.buyPlot(1, 0, -1));
        first("buySquare: no such person before no such square", Checks.INDEX, land -> land.buySquare(0, 1, 1, 2));
        first("buySquare: no such x before no such square", Checks.INDEX, land -> land.buySquare(1, 16, 0, 3));
        first("buySquare: no such y before no such square", Checks.INDEX, land -> land.buySquare(1, 0, 16, 3));
        first("buySquare: no such person before several owners", Checks.INDEX, land -> land.buySquare(8, 0, 0, 16));
        first("buySquare: the common is no person, before its own", Checks.INDEX, land -> land.buySquare(0, 0, 8, 8));
        first("buySquare: no such cell before too dear", Checks.INDEX, land -> land.buySquare(1, -8, 8, 8));
        first("buySquare: no such size before several owners", Checks.ARGUMENT, land -> land.buySquare(5, 0, 0, 12));
        first("buySquare: a corner that does not fit before several owners", Checks.ARGUMENT,
            land -> land.buySquare(5, 4, 4, 8));
        first("buySquare: no such square before one's own", Checks.ARGUMENT, land -> land.buySquare(1, 1, 0, 2));
        first("buySquare: no such square before too dear", Checks.ARGUMENT, land -> land.buySquare(1, 0, 9, 2));
    }

    private static void firstOfTheRest() {
        Checks.sentence(WHICH_FIRST);
        Checks.Maker full = () -> {
            LandQuarters land = new LandQuarters();
            for (int i = 0; i < 60; i++) {
                land.append('t');
            }
            return land;
        };
        for (int code : Checks.outside(33, 126)) {
            Checks.refused("append of no such code before a full buffer: " + code, full, Checks.ARGUMENT, land -> land.append(code));
        }
        for (int slot : Checks.outside(0, 1)) {
            Checks.refused("goBack to no such slot, all others empty: " + slot, Checks.NEW, Checks.INDEX, land -> land.goBack(slot));
        }
    }

    public static void main(String[] args) {
        cellsOfChanges();
        cellsOfQuestions();
        owners();
        persons();
        plots();
        plotsThatWere();
        amounts();
        sizes();
        corners();
        firstOfGrantAndRaise();
        firstOfSales();
        firstOfTheRest();
        Checks.end();
    }
}
