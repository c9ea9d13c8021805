/** The edges of the land itself: a new one, grants, heights, floods, and the plots and their order. */
public final class LandEdgesTest {
    private static void newLand() {
        Checks.sentence("The owner 0 is the common, to which all cells belong at first");
        LandQuarters land = new LandQuarters();
        for (int cell = 0; cell < 256; cell++) {
            Checks.due("ownerAt cell " + cell, 0, land.ownerAt(cell % 16, cell / 16));
        }
        Checks.due("areaByCells(0)", 256, land.areaByCells(0));
        Checks.due("areaByPlots(0)", 256, land.areaByPlots(0));
        Checks.sentence("All heights are 5 at first.");
        LandQuarters other = new LandQuarters();
        for (int cell = 0; cell < 256; cell++) {
            Checks.due("heightAt cell " + cell, 5, other.heightAt(cell % 16, cell / 16));
        }
        Checks.due("meanHeight", 5.0, other.meanHeight());
        Checks.sentence("Creates a land that is common as a whole.");
        Checks.due("plots", 1, land.plots());
        Checks.due("plotOwner", 0, land.plotOwner(0));
        Checks.due("plotX", 0, land.plotX(0));
        Checks.due("plotY", 0, land.plotY(0));
        Checks.due("plotSize", 16, land.plotSize(0));
        Checks.sentence("NONE = -1: There is no such number.");
        Checks.due("NONE", -1, LandQuarters.NONE);
    }

    /** What one object has been through is nothing to another. */
    private static void newLandBesideAnother() {
        Checks.sentence("Creates a land that is common as a whole.");
        LandQuarters worked = Checks.worked();
        LandQuarters land = new LandQuarters();
        String first = Checks.accounts(land);
        worked.carryOut();
        worked.append('t');
        Checks.due("the accounts of a land beside another", first, Checks.accounts(land));
        Checks.due("savedStates of a land beside another", 0, land.savedStates());
        Checks.due("bufferLength of a land beside another", 0, land.bufferLength());
        Checks.same("beside another", LandQuarters::new, () -> {
            Checks.worked();
            return new LandQuarters();
        });
    }

    private static boolean isIn(int cell, int x, int y, int size) {
        return cell % 16 >= x && cell % 16 < x + size && cell / 16 >= y && cell / 16 < y + size;
    }

    private static void cellsOfGrant() {
        Checks.sentence("Gives a square of the land to an owner, without any coins.");
        int[][] squares = {{0, 0, 1}, {15, 15, 1}, {15, 0, 1}, {0, 15, 1}, {6, 10, 1}, {14, 0, 2}, {6, 8, 2}, {0, 12, 4}, {8, 4, 4},
            {0, 8, 8}, {8, 0, 8}, {0, 0, 16}};
        for (int[] square : squares) {
            int size = square[2];
            LandQuarters land = new LandQuarters();
            Checks.due("grant of size " + size, size * size, land.grant(square[0], square[1], size, 6));
            for (int cell = 0; cell < 256; cell++) {
                int want = isIn(cell, square[0], square[1], size) ? 6 : 0;
                Checks.due("ownerAt cell " + cell + " then, size " + size, want, land.ownerAt(cell % 16, cell / 16));
            }
            Checks.due("coins", 100, land.coinsOf(6));
            Checks.due("coins of the common", 0, land.coinsOf(0));
            Checks.due("sales", 0, land.sales());
        }
    }

    private static void answersOfGrant() {
        Checks.sentence("Returns how many cells get another owner.");
        LandQuarters land = new LandQuarters();
        Checks.due("common land to the common", 0, land.grant(0, 0, 16, 0));
        Checks.due("the whole land", 256, land.grant(0, 0, 16, 7));
        Checks.due("the whole land again", 0, land.grant(0, 0, 16, 7));
        Checks.due("a cell", 1, land.grant(15, 15, 1, 1));
        Checks.due("all but a cell are another's", 255, land.grant(0, 0, 16, 1));
        Checks.due("of several owners", 1, land.grant(0, 0, 1, 2));
        Checks.due("of several owners", 63, land.grant(0, 0, 8, 2));
        Checks.due("of several owners", 256 - 64, land.grant(0, 0, 16, 2));
        Checks.due("back to the common", 256, land.grant(0, 0, 16, 0));
    }

    private static void cellsOfRaise() {
        Checks.sentence("Changes the heights of a square: each one by as much as told");
        int[][] squares = {{0, 0, 1}, {15, 15, 1}, {15, 0, 1}, {0, 15, 1}, {10, 6, 2}, {12, 0, 4}, {0, 8, 8}, {8, 0, 8}, {0, 0, 16}};
        for (int[] square : squares) {
            int size = square[2];
            LandQuarters land = new LandQuarters();
            Checks.due("raise of size " + size, 7 * size * size, land.raise(square[0], square[1], size, 2));
            for (int cell = 0; cell < 256; cell++) {
                int want = isIn(cell, square[0], square[1], size) ? 7 : 5;
                Checks.due("heightAt cell " + cell + " then, size " + size, want, land.heightAt(cell % 16, cell / 16));
            }
            Checks.due("plots", 1, land.plots());
        }
    }

    private static void heightsAtTheirEnds() {
        Checks.sentence("each one by as much as told, but at least to 0 and at most to 9.");
        for (int by = -9; by <= 9; by++) {
            int want = Math.max(0, Math.min(9, 5 + by));
            LandQuarters land = new LandQuarters();
            Checks.due("raise by " + by, want, land.raise(3, 9, 1, by));
            Checks.due("heightAt then", want, land.heightAt(3, 9));
        }
        LandQuarters land = new LandQuarters();
        Checks.due("to 9", 9, land.raise(0, 0, 1, 4));
        Checks.due("stays 9", 9, land.raise(0, 0, 1, 1));
        Checks.due("by 0", 9, land.raise(0, 0, 1, 0));
        Checks.due("from 9 to 0", 0, land.raise(0, 0, 1, -9));
        Checks.due("stays 0", 0, land.raise(0, 0, 1, -1));
        Checks.due("from 0 to 9", 9, land.raise(0, 0, 1, 9));
        land.raise(1, 0, 1, -4);
        Checks.due("9, 1 and two times 5, less 2, each one by itself", 7 + 3 + 3, land.raise(0, 0, 2, -2));
        Checks.due("the one of 1", 0, land.heightAt(1, 0));
        Checks.due("the one of 9", 7, land.heightAt(0, 0));
        Checks.sentence("Returns the sum of the heights of the square then.");
        Checks.due("the least sum", 0, land.raise(0, 0, 16, -9));
        Checks.due("the least meanHeight", 0.0, land.meanHeight());
        Checks.due("the greatest sum", 9 * 256, land.raise(0, 0, 16, 9));
        Checks.due("the greatest meanHeight", 9.0, land.meanHeight());
    }

    /** Ten cells of person 1, with the heights 0 to 9. */
    private static LandQuarters stairs() {
        LandQuarters land = new LandQuarters();
        for (int x = 0; x < 10; x++) {
            land.grant(x, 2, 1, 1);
            land.raise(x, 2, 1, x - 5);
        }
        return land;
    }

    private static void levelsOfFlood() {
        for (int level = 1; level <= 10; level++) {
            Checks.sentence("all cells that are lower than a level become common.");
            LandQuarters land = stairs();
            Checks.due("flood(" + level + ")", level, land.flood(level));
            for (int x = 0; x < 10; x++) {
                Checks.due("owner of the height " + x + " then", x < level ? 0 : 1, land.ownerAt(x, 2));
                Checks.due("the height then", x, land.heightAt(x, 2));
            }
            Checks.due("the same flood again", 0, land.flood(level));
            Checks.due("floods", 2, land.floods());
            Checks.due("coins", 100, land.coinsOf(1));
            Checks.due("coins of the common", 0, land.coinsOf(0));
        }
    }

    private static void lossesOfFlood() {
        Checks.sentence("Returns how many cells are lost by people.");
        LandQuarters land = new LandQuarters();
        Checks.due("common cells are not lost", 0, land.flood(10));
        Checks.due("a flood for nothing is one", 1, land.floods());
        land.grant(0, 0, 16, 3);
        Checks.due("flood(5) of heights 5", 0, land.flood(5));
        Checks.due("flood(6) of heights 5", 256, land.flood(6));
        land.grant(0, 0, 16, 7);
        land.grant(8, 8, 8, 1);
        land.grant(0, 8, 8, 0);
        land.raise(0, 0, 16, 9);
        Checks.due("flood(9) of heights 9", 0, land.flood(9));
        Checks.due("flood(10) of heights 9, of two people", 192, land.flood(10));
        Checks.due("plots then", 1, land.plots());
        land.grant(0, 0, 16, 7);
        land.raise(0, 15, 1, -8);
        Checks.due("flood(1) of height 1", 0, land.flood(1));
        land.raise(0, 15, 1, -1);
        Checks.due("flood(1) of height 0", 1, land.flood(1));
    }

    private static void wholeLandIsAPlot() {
        Checks.sentence("If all cells of the whole land have the same owner, it is one plot.");
        for (int owner = 0; owner < 8; owner++) {
            LandQuarters land = new LandQuarters();
            land.grant(0, 0, 16, owner);
            Checks.due("plots", 1, land.plots());
            Checks.due("plotSize(0)", 16, land.plotSize(0));
            Checks.due("plotOwner(0)", owner, land.plotOwner(0));
            Checks.due("plotSizeAt", 16, land.plotSizeAt(15, 15));
            Checks.due("plotRankAt", 0, land.plotRankAt(15, 15));
            Checks.due("plotsOf", 1, land.plotsOf(owner));
        }
    }

    /** A square of another owner divides all the squares that it is in, and no others. */
    private static void dividedLand() {
        Checks.sentence("Otherwise it is divided into its four quarters (squares of half the size), and likewise each of them");
        for (int size = 1; size <= 8; size *= 2) {
            int divisions = size == 1 ? 4 : size == 2 ? 3 : size == 4 ? 2 : 1;
            for (int cell = 0; cell < 256; cell++) {
                int x = cell % 16;
                int y = cell / 16;
                if (x % size == 0 && y % size == 0) {
                    dividedBy(x, y, size, divisions);
                }
            }
        }
    }

    private static void dividedBy(int x, int y, int size, int divisions) {
        LandQuarters land = new LandQuarters();
        String where = " after grant(" + x + ", " + y + ", " + size + ")";
        land.grant(x, y, size, 1);
        Checks.due("plots" + where, 1 + 3 * divisions, land.plots());
        Checks.due("plotsOf" + where, 1, land.plotsOf(1));
        Checks.due("plotSizeAt its corner" + where, size, land.plotSizeAt(x, y));
        Checks.due("plotSizeAt its last cell" + where, size, land.plotSizeAt(x + size - 1, y + size - 1));
        Checks.due("plotSizeAt beside it" + where, size, land.plotSizeAt(x ^ size, y));
        Checks.due("plotSizeAt below or above it" + where, size, land.plotSizeAt(x, y ^ size));
        Checks.due("plotSizeAt the far end" + where, 8, land.plotSizeAt(15 - x, 15 - y));
        int rank = land.plotRankAt(x, y);
        Checks.due("plotX" + where, x, land.plotX(rank));
        Checks.due("plotY" + where, y, land.plotY(rank));
        Checks.due("plotSize" + where, size, land.plotSize(rank));
        Checks.due("plotOwner" + where, 1, land.plotOwner(rank));
        Checks.due("plotRankAt its last cell" + where, rank, land.plotRankAt(x + size - 1, y + size - 1));
        land.grant(x, y, size, 0);
        Checks.due("plots when it is given back" + where, 1, land.plots());
    }

    private static void likeQuarters() {
        for (int size = 1; size <= 8; size *= 2) {
            Checks.sentence("(So four quarters of one owner are one plot.)");
            LandQuarters land = new LandQuarters();
            land.grant(0, 0, size, 2);
            land.grant(size, 0, size, 2);
            land.grant(0, size, size, 2);
            Checks.due("plotsOf for three quarters of size " + size, 3, land.plotsOf(2));
            Checks.due("plotSizeAt for three quarters", size, land.plotSizeAt(0, 0));
            land.grant(size, size, size, 2);
            Checks.due("plotsOf for four quarters of size " + size, 1, land.plotsOf(2));
            Checks.due("plotSizeAt for four quarters", 2 * size, land.plotSizeAt(size, size));
            land.grant(2 * size - 1, 2 * size - 1, 1, 3);
            Checks.due("plotSizeAt if the last cell is another's", size, land.plotSizeAt(0, 0));
        }
        Checks.sentence("Otherwise it is divided into its four quarters");
        LandQuarters land = new LandQuarters();
        for (int i = 0; i < 4; i++) {
            land.grant(6 + i % 2 * 2, 6 + i / 2 * 2, 2, 1);
        }
        Checks.due("four like squares that are not of one square", 4, land.plotsOf(1));
        Checks.due("their size", 2, land.plotSizeAt(7, 7));
        Checks.due("their area", 16, land.areaByPlots(1));
        LandQuarters halves = new LandQuarters();
        halves.grant(0, 0, 8, 1);
        halves.grant(8, 0, 8, 1);
        Checks.due("two quarters beside each other", 2, halves.plotsOf(1));
        Checks.due("plots", 4, halves.plots());
    }

    private static void orderOfQuarters() {
        Checks.sentence("of the four quarters of a square first the plots of the upper left one, then of the upper right one,"
            + " of the lower left one, and of the lower right one.");
        LandQuarters land = Checks.quartered();
        int[][] want = {{1, 0, 0}, {2, 8, 0}, {3, 0, 8}, {4, 8, 8}};
        for (int rank = 0; rank < 4; rank++) {
            Checks.due("plotOwner " + rank, want[rank][0], land.plotOwner(rank));
            Checks.due("plotX " + rank, want[rank][1], land.plotX(rank));
            Checks.due("plotY " + rank, want[rank][2], land.plotY(rank));
            Checks.due("plotRankAt " + rank, rank, land.plotRankAt(want[rank][1] + 7, want[rank][2] + 7));
        }
        Checks.sentence("The rank of the first plot is 0.");
        Checks.due("plotRankAt(0, 0)", 0, land.plotRankAt(0, 0));
        Checks.due("plotRankAt(0, 0) of the smallest plots", 0, Checks.checkered().plotRankAt(0, 0));
    }

    /** 256 plots, which are as many as there can be. */
    private static void orderOfCells() {
        Checks.sentence("Plots have an order");
        LandQuarters ranks = Checks.checkered();
        LandQuarters xs = Checks.checkered();
        LandQuarters ys = Checks.checkered();
        Checks.due("plots", 256, ranks.plots());
        int rank = 0;
        for (int half = 0; half < 4; half++) {
            for (int quarter = 0; quarter < 4; quarter++) {
                for (int eighth = 0; eighth < 4; eighth++) {
                    for (int cell = 0; cell < 4; cell++) {
                        int x = half % 2 * 8 + quarter % 2 * 4 + eighth % 2 * 2 + cell % 2;
                        int y = half / 2 * 8 + quarter / 2 * 4 + eighth / 2 * 2 + cell / 2;
                        Checks.due("plotRankAt(" + x + ", " + y + ")", rank, ranks.plotRankAt(x, y));
                        Checks.due("plotX(" + rank + ")", x, xs.plotX(rank));
                        Checks.due("plotY(" + rank + ")", y, ys.plotY(rank));
                        rank++;
                    }
                }
            }
        }
        Checks.due("plotSize of the first", 1, ranks.plotSize(0));
        Checks.due("plotSize of the last", 1, ranks.plotSize(255));
        Checks.due("plotOwner of the first", 0, ranks.plotOwner(0));
        Checks.due("plotOwner of the second", 1, ranks.plotOwner(1));
        Checks.due("plotOwner of the last", 0, ranks.plotOwner(255));
    }

    private static void xAndY() {
        Checks.sentence("(x to the right, y downward)");
        LandQuarters land = new LandQuarters();
        land.grant(15, 0, 1, 1);
        land.grant(0, 15, 1, 2);
        land.raise(15, 0, 1, 3);
        land.raise(0, 15, 1, -3);
        Checks.due("ownerAt(15, 0)", 1, land.ownerAt(15, 0));
        Checks.due("ownerAt(0, 15)", 2, land.ownerAt(0, 15));
        Checks.due("heightAt(15, 0)", 8, land.heightAt(15, 0));
        Checks.due("heightAt(0, 15)", 2, land.heightAt(0, 15));
        Checks.due("plotRankAt(15, 0) before", true, land.plotRankAt(15, 0) < land.plotRankAt(0, 15));
    }

    private static void dearestPlots() {
        Checks.sentence("Returns what the plot that has a cell costs.");
        for (int price = 1; price <= 9; price++) {
            for (int size = 1; size <= 16; size *= 2) {
                LandQuarters land = new LandQuarters();
                land.grant(0, 0, size, 1);
                land.setPrice(price);
                Checks.due("the first cell of a plot of size " + size + " for " + price, price * size * size, land.plotPriceAt(0, 0));
                Checks.due("the last cell", price * size * size, land.plotPriceAt(size - 1, size - 1));
                Checks.due("the last plot", price * (size == 16 ? 256 : 64), land.plotPriceAt(15, 15));
            }
        }
    }

    public static void main(String[] args) {
        newLand();
        newLandBesideAnother();
        cellsOfGrant();
        answersOfGrant();
        cellsOfRaise();
        heightsAtTheirEnds();
        levelsOfFlood();
        lossesOfFlood();
        wholeLandIsAPlot();
        dividedLand();
        likeQuarters();
        orderOfQuarters();
        orderOfCells();
        xAndY();
        dearestPlots();
        Checks.end();
    }
}
