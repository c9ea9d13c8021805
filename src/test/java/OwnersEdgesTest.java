/** The edges of what is told of owners: plots, areas, fences, neighbours, low land, and the mean height. */
public final class OwnersEdgesTest {
    private static void fences(String what, LandQuarters land, int owner, int want) {
        Checks.due("fenceByPlots(" + owner + ") " + what, want, land.fenceByPlots(owner));
        Checks.due("fenceByCells(" + owner + ") " + what, want, land.fenceByCells(owner));
    }

    private static void between(String what, LandQuarters land, int owner, int other, int want) {
        Checks.due("fenceBetween(" + owner + ", " + other + ") " + what, want, land.fenceBetween(owner, other));
        Checks.due("fenceBetween(" + other + ", " + owner + ") " + what, want, land.fenceBetween(other, owner));
    }

    private static void fencesAtTheRim() {
        Checks.sentence("There is no fence at the rim of the land.");
        for (int owner = 0; owner < 8; owner++) {
            LandQuarters land = new LandQuarters();
            land.grant(0, 0, 16, owner);
            for (int each = 0; each < 8; each++) {
                fences("of a land of one owner", land, each, 0);
                Checks.due("nearestNeighbour of a land of one owner", LandQuarters.NONE, land.nearestNeighbour(each));
            }
        }
        LandQuarters land = new LandQuarters();
        land.grant(0, 0, 8, 4);
        land.grant(0, 8, 8, 4);
        fences("of the left half", land, 4, 16);
        fences("of the right half", land, 0, 16);
        land.grant(8, 0, 8, 4);
        fences("of three quarters", land, 4, 16);
        fences("of the last quarter", land, 0, 16);
    }

    private static void fencesOfACell() {
        Checks.sentence("A fence is between two cells that are next to each other (above, below, left or right)");
        for (int cell = 0; cell < 256; cell++) {
            int x = cell % 16;
            int y = cell / 16;
            int want = 4 - (x == 0 || x == 15 ? 1 : 0) - (y == 0 || y == 15 ? 1 : 0);
            LandQuarters land = new LandQuarters();
            land.grant(x, y, 1, 7);
            fences("of the cell " + x + ", " + y, land, 7, want);
            fences("round the cell " + x + ", " + y, land, 0, want);
            between("at the cell " + x + ", " + y, land, 0, 7, want);
        }
    }

    private static int fenceBetweenCells(int x, int y, int otherX, int otherY) {
        LandQuarters land = new LandQuarters();
        land.grant(x, y, 1, 1);
        land.grant(otherX, otherY, 1, 2);
        Checks.due("fenceBetween, told from the other side", land.fenceBetween(1, 2), land.fenceBetween(2, 1));
        return land.fenceBetween(1, 2);
    }

    private static void cellsThatAreNotNext() {
        Checks.sentence("A fence is between two cells that are next to each other (above, below, left or right)");
        for (int i = 0; i < 15; i++) {
            Checks.due("left and right", 1, fenceBetweenCells(i, i, i + 1, i));
            Checks.due("above and below", 1, fenceBetweenCells(i, i, i, i + 1));
            Checks.due("corner to corner, downward", 0, fenceBetweenCells(i, i, i + 1, i + 1));
            Checks.due("corner to corner, upward", 0, fenceBetweenCells(i, 15 - i, i + 1, 14 - i));
            Checks.due("the end of a row and the start of the next one", 0, fenceBetweenCells(15, i, 0, i + 1));
            Checks.due("the end of a column and the start of the next one", 0, fenceBetweenCells(i, 15, i + 1, 0));
            Checks.due("both ends of a row", 0, fenceBetweenCells(0, i, 15, i));
            Checks.due("both ends of a column", 0, fenceBetweenCells(i, 0, i, 15));
        }
        for (int i = 0; i < 14; i++) {
            Checks.due("a cell between in a row", 0, fenceBetweenCells(i, i, i + 2, i));
            Checks.due("a cell between in a column", 0, fenceBetweenCells(i, i, i, i + 2));
        }
    }

    private static void mostFences() {
        Checks.sentence("and have different owners; it has the length 1.");
        LandQuarters land = Checks.checkered();
        fences("with a fence between any two cells", land, 0, 480);
        fences("with a fence between any two cells", land, 1, 480);
        between("with a fence between any two cells", land, 0, 1, 480);
        between("of one who has no land", land, 0, 2, 0);
        LandQuarters own = new LandQuarters();
        own.grant(4, 4, 4, 1);
        own.grant(8, 4, 4, 1);
        own.grant(4, 8, 2, 1);
        fences("of three plots side by side", own, 1, 28);
        Checks.due("plotsOf", 3, own.plotsOf(1));
    }

    private static void fencesBetweenTheSame() {
        Checks.sentence("Returns the length; 0 if both are the same.");
        LandQuarters land = Checks.worked();
        LandQuarters first = new LandQuarters();
        for (int owner = 0; owner < 8; owner++) {
            Checks.due("fenceBetween(" + owner + ", " + owner + ")", 0, land.fenceBetween(owner, owner));
            Checks.due("fenceBetween(" + owner + ", " + owner + ") at first", 0, first.fenceBetween(owner, owner));
        }
    }

    private static void areas() {
        Checks.sentence("Returns the number of cells of an owner");
        LandQuarters land = new LandQuarters();
        area(land, 0, 256);
        area(land, 7, 0);
        land.grant(15, 15, 1, 7);
        area(land, 0, 255);
        area(land, 7, 1);
        land.grant(0, 0, 16, 7);
        area(land, 0, 0);
        area(land, 7, 256);
        LandQuarters checkered = Checks.checkered();
        area(checkered, 0, 128);
        area(checkered, 1, 128);
    }

    private static void area(LandQuarters land, int owner, int want) {
        Checks.due("areaByPlots(" + owner + ")", want, land.areaByPlots(owner));
        Checks.due("areaByCells(" + owner + ")", want, land.areaByCells(owner));
    }

    private static void numbersOfPlots() {
        Checks.sentence("Returns the number of plots of an owner.");
        LandQuarters land = new LandQuarters();
        Checks.due("of all land", 1, land.plotsOf(0));
        Checks.due("of no land", 0, land.plotsOf(1));
        Checks.due("of no land", 0, land.plotsOf(7));
        land.grant(0, 0, 16, 1);
        for (int cell = 0; cell < 256; cell++) {
            if (cell % 2 == 1 && cell / 16 % 2 == 1) {
                land.grant(cell % 16, cell / 16, 1, 7);
            }
        }
        Checks.due("as many as there can be", 192, land.plotsOf(1));
        Checks.due("a fourth of the cells", 64, land.plotsOf(7));
        Checks.due("none is left", 0, land.plotsOf(0));
        Checks.due("plots", 256, land.plots());
    }

    /** What was person 1's last plot had the rank that comes after the last one then. */
    private static void plotsThatWere() {
        Checks.sentence("Returns the length of all fences of an owner, told by the sides of the owner's plots.");
        LandQuarters land = new LandQuarters();
        land.grant(12, 4, 4, 1);
        land.grant(8, 8, 4, 1);
        land.grant(12, 12, 4, 1);
        land.grant(8, 8, 8, 3);
        Checks.due("plotOwner(4)", 1, land.plotOwner(4));
        land.grant(8, 0, 8, 2);
        Checks.due("plots", 4, land.plots());
        fences("of no land, which was a plot before", land, 1, 0);
        area(land, 1, 0);
        Checks.due("plotsOf", 0, land.plotsOf(1));
        Checks.due("largestPlotOf", LandQuarters.NONE, land.largestPlotOf(1));
        Checks.due("firstToLose", LandQuarters.NONE, land.firstToLose(1));
        Checks.due("lossesIfTaxed", 0, land.lossesIfTaxed(1));
        fences("of the quarter that the last of them was in", land, 3, 16);
        area(land, 3, 64);
    }

    private static void largestPlots() {
        Checks.sentence("Returns its rank, of several the first one; NONE if the owner has no plot.");
        LandQuarters land = new LandQuarters();
        Checks.due("the whole land", 0, land.largestPlotOf(0));
        Checks.due("no plot", LandQuarters.NONE, land.largestPlotOf(7));
        land.grant(15, 15, 1, 7);
        Checks.due("a cell, the last plot", 12, land.largestPlotOf(7));
        Checks.due("of three of 8 the first one", 0, land.largestPlotOf(0));
        land.grant(0, 0, 1, 7);
        Checks.due("of two cells the first one", 0, land.largestPlotOf(7));
        Checks.due("of two of 8 the first one", 10, land.largestPlotOf(0));
        land.grant(8, 0, 2, 7);
        Checks.due("one of 2 after a cell", 10, land.largestPlotOf(7));
        land.grant(0, 8, 4, 7);
        Checks.due("one of 4 after one of 2", 17, land.largestPlotOf(7));
        land.grant(0, 12, 4, 7);
        Checks.due("of two of 4 the first one", 17, land.largestPlotOf(7));
        land.grant(0, 0, 16, 7);
        Checks.due("no plot is left", LandQuarters.NONE, land.largestPlotOf(0));
        Checks.due("the last ranks of 256", 0, Checks.checkered().largestPlotOf(0));
        Checks.due("the first of 128 plots", 1, Checks.checkered().largestPlotOf(1));
    }

    private static void firstPlotsToLose() {
        Checks.sentence("the smallest one, of several the last one in the order of plots.");
        LandQuarters land = new LandQuarters();
        land.grant(0, 0, 16, 7);
        Checks.due("the whole land", 0, land.firstToLose(7));
        land.grant(0, 0, 8, 1);
        Checks.due("of three of 8 the last one", 3, land.firstToLose(7));
        Checks.due("the only one", 0, land.firstToLose(1));
        land.grant(0, 0, 4, 7);
        Checks.due("one of 4 before those of 8", 0, land.firstToLose(7));
        Checks.due("of three of 4 the last one", 3, land.firstToLose(1));
        land.grant(4, 0, 2, 7);
        Checks.due("one of 2 between", 1, land.firstToLose(7));
        land.grant(8, 0, 1, 1);
        Checks.due("a cell of another's", 7, land.firstToLose(1));
        Checks.due("of three cells the last one", 10, land.firstToLose(7));
        Checks.due("the last one of 128", 254, Checks.checkered().firstToLose(1));
        Checks.sentence("Returns its rank; NONE if this person has no plot.");
        for (int person = 2; person <= 6; person++) {
            Checks.due("firstToLose(" + person + ")", LandQuarters.NONE, land.firstToLose(person));
            Checks.due("firstToLose(" + person + ") at first", LandQuarters.NONE, new LandQuarters().firstToLose(person));
        }
    }

    private static void neighbours() {
        Checks.sentence("Returns the number of the other owner, of several the lowest; NONE if the owner has no fence.");
        LandQuarters land = new LandQuarters();
        Checks.due("of all land", LandQuarters.NONE, land.nearestNeighbour(0));
        Checks.due("of no land", LandQuarters.NONE, land.nearestNeighbour(7));
        land.grant(0, 0, 1, 7);
        Checks.due("the common is one", 0, land.nearestNeighbour(7));
        Checks.due("the last owner is one", 7, land.nearestNeighbour(0));
        Checks.due("of no land beside others", LandQuarters.NONE, land.nearestNeighbour(3));
        land.grant(1, 0, 1, 5);
        Checks.due("0 and 5, a length of 1 each", 0, land.nearestNeighbour(7));
        land.grant(0, 1, 1, 6);
        Checks.due("5 and 6, a length of 1 each", 5, land.nearestNeighbour(7));
        Checks.due("5 and 6, a length of 2 each", 5, land.nearestNeighbour(0));
        land.grant(0, 2, 1, 6);
        Checks.due("6 by a length of 1 more", 6, land.nearestNeighbour(0));
        LandQuarters four = Checks.quartered();
        Checks.due("2 and 3, a length of 8 each", 2, four.nearestNeighbour(1));
        Checks.due("1 and 4, a length of 8 each", 1, four.nearestNeighbour(3));
        four.grant(7, 0, 1, 3);
        Checks.due("3 by a length of 2 more", 3, four.nearestNeighbour(1));
        Checks.due("of no land, all land being people's", LandQuarters.NONE, four.nearestNeighbour(0));
    }

    private static void lowCells() {
        Checks.sentence("Tells how many cells an owner has that are lower than a level.");
        LandQuarters land = new LandQuarters();
        for (int x = 0; x < 10; x++) {
            land.grant(x, 15, 1, 3);
            land.raise(x, 15, 1, x - 5);
        }
        for (int level = 1; level <= 10; level++) {
            Checks.due("of the heights 0 to 9, lowCells(3, " + level + ")", level, land.lowCells(3, level));
            Checks.due("of the heights 5, lowCells(0, " + level + ")", level <= 5 ? 0 : 246, land.lowCells(0, level));
            Checks.due("of no land, lowCells(7, " + level + ")", 0, land.lowCells(7, level));
        }
        land.grant(0, 0, 16, 7);
        Checks.due("of all land", 256, land.lowCells(7, 10));
        Checks.due("of all land but the height 9", 255, land.lowCells(7, 9));
        Checks.due("of all land, the height 0 alone", 1, land.lowCells(7, 1));
    }

    private static void plotsIfFlooded() {
        Checks.sentence("Tells how many plots there would be after a flood.");
        for (int height = 0; height <= 9; height++) {
            for (int level = 1; level <= 10; level++) {
                LandQuarters land = new LandQuarters();
                land.grant(9, 6, 1, 2);
                land.raise(9, 6, 1, height - 5);
                String before = Checks.accounts(land);
                int want = height < level ? 1 : 13;
                Checks.due("a cell of the height " + height + ", level " + level, want, land.plotsIfFlooded(level));
                Checks.due("the same again", want, land.plotsIfFlooded(level));
                Checks.due("nothing changes", before, Checks.accounts(land));
                Checks.due("no state is saved", 2, land.savedStates());
                land.flood(level);
                Checks.due("plots after the flood itself", want, land.plots());
            }
        }
        LandQuarters land = Checks.checkered();
        Checks.due("as many as there can be", 256, land.plotsIfFlooded(5));
        Checks.due("as few as there can be", 1, land.plotsIfFlooded(6));
        land.grant(0, 0, 16, 4);
        land.raise(15, 15, 1, -5);
        Checks.due("a flood that divides", 13, land.plotsIfFlooded(1));
        Checks.due("plots are as before", 1, land.plots());
    }

    private static void meanHeights() {
        Checks.sentence("the sum of the heights of all cells as a double, divided by 256.0.");
        LandQuarters land = new LandQuarters();
        Checks.due("at first", 5.0, land.meanHeight());
        land.raise(15, 15, 1, 1);
        Checks.due("a cell by 1 more", 5.00390625, land.meanHeight());
        land.raise(0, 0, 1, -2);
        Checks.due("then a cell by 2 less", 4.99609375, land.meanHeight());
        land.raise(0, 0, 16, -9);
        Checks.due("the least", 0.0, land.meanHeight());
        land.raise(0, 15, 1, 1);
        Checks.due("the least but one", 0.00390625, land.meanHeight());
        land.raise(0, 0, 16, 9);
        Checks.due("the greatest", 9.0, land.meanHeight());
    }

    private static void nothingChanges() {
        Checks.sentence("what would be; nothing changes.");
        Checks.same("after all questions", Checks.WORKED, () -> {
            LandQuarters land = Checks.worked();
            for (int owner = 0; owner < 8; owner++) {
                ask(land, owner);
            }
            for (int level = 1; level <= 10; level++) {
                land.plotsIfFlooded(level);
                land.lowCells(3, level);
            }
            land.meanHeight();
            land.firstError();
            return land;
        });
    }

    private static void ask(LandQuarters land, int owner) {
        land.plotsOf(owner);
        land.areaByPlots(owner);
        land.fenceByPlots(owner);
        land.fenceByCells(owner);
        land.fenceBetween(owner, 1);
        land.largestPlotOf(owner);
        land.nearestNeighbour(owner);
        land.plotOwner(owner);
        land.plotPriceAt(owner, owner);
        if (owner > 0) {
            land.firstToLose(owner);
            land.lossesIfTaxed(owner);
        }
    }

    public static void main(String[] args) {
        fencesAtTheRim();
        fencesOfACell();
        cellsThatAreNotNext();
        mostFences();
        fencesBetweenTheSame();
        areas();
        numbersOfPlots();
        plotsThatWere();
        largestPlots();
        firstPlotsToLose();
        neighbours();
        lowCells();
        plotsIfFlooded();
        meanHeights();
        nothingChanges();
        Checks.end();
    }
}
