/** The edges of coins: purses, prices, sales of plots and of parts of them, taxes, and what is lost for them. */
public final class TradeEdgesTest {
    private static void coinsAtFirst() {
        LandQuarters land = new LandQuarters();
        Checks.sentence("Each of the people has a purse, with 100 coins at first");
        for (int person = 1; person <= 7; person++) {
            Checks.due("coinsOf(" + person + ")", 100, land.coinsOf(person));
        }
        Checks.sentence("the common has a chest, with 0 coins at first.");
        Checks.due("coinsOf(0)", 0, land.coinsOf(0));
        Checks.sentence("the setting price tells (1 to 9, at first 2)");
        Checks.due("price", 2, land.price());
        Checks.sentence("the setting tax tells (0 to 9, at first 1)");
        Checks.due("tax", 1, land.tax());
        Checks.sentence("so far");
        Checks.due("sales", 0, land.sales());
        Checks.due("floods", 0, land.floods());
        Checks.due("plotsLost", 0, land.plotsLost());
    }

    private static void settings() {
        LandQuarters land = new LandQuarters();
        Checks.sentence("Changes the price of a cell. Returns the previous price.");
        int previous = 2;
        for (int price : new int[] {1, 9, 9, 5, 1, 1, 2}) {
            Checks.due("setPrice(" + price + ")", previous, land.setPrice(price));
            Checks.due("price", price, land.price());
            Checks.due("plotPriceAt", 256 * price, land.plotPriceAt(9, 9));
            previous = price;
        }
        Checks.due("tax", 1, land.tax());
        Checks.sentence("Changes the tax of a plot. Returns the previous tax.");
        previous = 1;
        for (int tax : new int[] {0, 9, 9, 5, 0, 0, 1}) {
            Checks.due("setTax(" + tax + ")", previous, land.setTax(tax));
            Checks.due("tax", tax, land.tax());
            previous = tax;
        }
        Checks.due("price", 2, land.price());
    }

    /** Person 1 has 20 coins, and the land but for the plot of 16 cells at 0, 0 is of person 2. */
    private static LandQuarters twentyCoins() {
        LandQuarters land = new LandQuarters();
        land.setPrice(5);
        land.buySquare(1, 0, 0, 4);
        land.grant(0, 0, 16, 2);
        land.grant(0, 0, 4, 0);
        return land;
    }

    private static LandQuarters nineteenCoins() {
        LandQuarters land = twentyCoins();
        land.setPrice(1);
        land.buySquare(1, 0, 0, 1);
        land.grant(0, 0, 1, 0);
        land.setPrice(5);
        return land;
    }

    private static void justEnoughCoins() {
        Checks.sentence("or the purse has fewer coins than it costs");
        LandQuarters land = twentyCoins();
        land.grant(8, 8, 2, 3);
        Checks.due("the purse", 20, land.coinsOf(1));
        Checks.due("a plot for all coins", 20, land.buyPlot(1, 9, 9));
        Checks.due("the purse then", 0, land.coinsOf(1));
        Checks.due("the seller's purse", 120, land.coinsOf(3));
        Checks.due("the new owner", 1, land.ownerAt(9, 9));
        LandQuarters other = twentyCoins();
        Checks.due("a square for all coins", 20, other.buySquare(1, 2, 2, 2));
        Checks.due("the purse then", 0, other.coinsOf(1));
        Checks.due("the chest", 100, other.coinsOf(0));
        Checks.refused("a plot for a coin more than there is", () -> {
            LandQuarters poor = nineteenCoins();
            poor.grant(8, 8, 2, 3);
            return poor;
        }, Checks.STATE, poor -> poor.buyPlot(1, 9, 9));
        Checks.refused("a square for a coin more than there is", TradeEdgesTest::nineteenCoins, Checks.STATE,
            poor -> poor.buySquare(1, 2, 2, 2));
    }

    private static LandQuarters emptyPurse() {
        LandQuarters land = twentyCoins();
        land.buySquare(1, 2, 2, 2);
        land.setPrice(1);
        land.grant(0, 0, 1, 0);
        return land;
    }

    private static void noCoins() {
        Checks.sentence("or the purse has fewer coins than it costs");
        Checks.Maker maker = TradeEdgesTest::emptyPurse;
        Checks.due("the purse", 0, maker.make().coinsOf(1));
        Checks.refused("a plot of a cell with an empty purse", maker, Checks.STATE, land -> land.buyPlot(1, 15, 15));
        Checks.refused("a cell with an empty purse", maker, Checks.STATE, land -> land.buySquare(1, 0, 0, 1));
        Checks.refused("one's own plot with an empty purse", maker, Checks.STATE, land -> land.buyPlot(1, 3, 3));
        Checks.refused("one's own cell with an empty purse", maker, Checks.STATE, land -> land.buySquare(1, 3, 3, 1));
    }

    private static void costs() {
        for (int price = 1; price <= 9; price++) {
            for (int size = 1; size <= 16; size *= 2) {
                int cost = price * size * size;
                Object want = cost <= 100 ? cost : Checks.STATE;
                int of = size;
                LandQuarters land = new LandQuarters();
                land.grant(0, 0, size, 3);
                land.setPrice(price);
                Checks.sentence("A cell costs as many coins as the setting price tells");
                Checks.due("a plot of size " + size + " for " + price, want, Checks.answer(land, l -> l.buyPlot(7, of - 1, 0)));
                Checks.sentence("Who buys land pays to its owner");
                int paid = cost <= 100 ? cost : 0;
                Checks.due("the buyer's purse", 100 - paid, land.coinsOf(7));
                Checks.due("the seller's purse", 100 + paid, land.coinsOf(3));
                Checks.due("sales", cost <= 100 ? 1 : 0, land.sales());
                Checks.due("cells of the buyer", cost <= 100 ? size * size : 0, land.areaByCells(7));
                LandQuarters common = new LandQuarters();
                common.setPrice(price);
                Checks.sentence("(to the chest, if it is common)");
                Checks.due("a square of size " + size + " for " + price, want, Checks.answer(common, l -> l.buySquare(7, 0, 0, of)));
                Checks.due("the buyer's purse", 100 - paid, common.coinsOf(7));
                Checks.due("the chest", paid, common.coinsOf(0));
            }
        }
    }

    /** Person 1 has 292 coins, and the whole land, for 1 coin a cell, is of person 5. */
    private static LandQuarters rich() {
        LandQuarters land = new LandQuarters();
        land.setPrice(1);
        land.grant(0, 0, 8, 1);
        land.buyPlot(2, 0, 0);
        land.grant(8, 0, 8, 1);
        land.buyPlot(3, 8, 0);
        land.grant(0, 8, 8, 1);
        land.buyPlot(4, 0, 8);
        land.grant(0, 0, 16, 5);
        return land;
    }

    private static LandQuarters richWith(int cellsLess) {
        LandQuarters land = rich();
        land.setPrice(9);
        land.buySquare(1, 0, 0, 2);
        land.setPrice(1);
        for (int x = 0; x < cellsLess; x++) {
            land.buySquare(1, 4 + x, 0, 1);
        }
        land.grant(0, 0, 16, 5);
        return land;
    }

    private static void wholeLandForSale() {
        Checks.sentence("A person buys the plot that has a cell.");
        LandQuarters land = rich();
        Checks.due("the purse", 292, land.coinsOf(1));
        Checks.due("the whole land", 256, land.buyPlot(1, 15, 0));
        Checks.due("all of it", 256, land.areaByCells(1));
        Checks.due("the purse then", 36, land.coinsOf(1));
        Checks.due("the seller's purse", 356, land.coinsOf(5));
        Checks.due("all of it for all coins", 256, richWith(0).buyPlot(1, 0, 15));
        Checks.sentence("A person buys a square of the land, which is a plot or a part of one.");
        Checks.due("all of it for all coins", 256, richWith(0).buySquare(1, 0, 0, 16));
        Checks.refused("the whole land, with 255 coins", () -> richWith(1), Checks.STATE, poor -> poor.buyPlot(1, 0, 15));
        Checks.refused("the whole land, with 255 coins", () -> richWith(1), Checks.STATE, poor -> poor.buySquare(1, 0, 0, 16));
    }

    private static void plotOfACell() {
        Checks.sentence("A person buys the plot that has a cell.");
        int[][] cells = {{4, 4}, {7, 4}, {4, 7}, {7, 7}, {5, 6}};
        for (int[] cell : cells) {
            LandQuarters land = new LandQuarters();
            land.grant(0, 0, 8, 3);
            land.grant(0, 0, 4, 0);
            Checks.due("buyPlot", 32, land.buyPlot(6, cell[0], cell[1]));
            Checks.due("the first cell", 6, land.ownerAt(4, 4));
            Checks.due("the last cell", 6, land.ownerAt(7, 7));
            Checks.due("the plot's area", 16, land.areaByCells(6));
            Checks.due("the seller's other plots", 32, land.areaByCells(3));
        }
        Checks.sentence("if the plot belongs to this person");
        Checks.refused("one's own plot", Checks.QUARTERED, Checks.STATE, land -> land.buyPlot(1, 0, 0));
        Checks.refused("one's own plot, its last cell", Checks.QUARTERED, Checks.STATE, land -> land.buyPlot(4, 15, 15));
        LandQuarters next = Checks.quartered();
        Checks.due("the plot beside one's own", 64, next.buyPlot(1, 8, 0));
        Checks.due("plotOwner of it", 1, next.plotOwner(1));
        Checks.due("plotsOf", 2, next.plotsOf(1));
        next.grant(0, 8, 8, 1);
        next.grant(8, 8, 4, 1);
        next.grant(12, 8, 4, 1);
        next.grant(8, 12, 4, 1);
        next.grant(12, 12, 4, 7);
        Checks.due("a plot, all the others being one's own", 16, next.buyPlot(1, 15, 15));
        Checks.due("all are one plot", 1, next.plots());
        Checks.due("which has the last cell", 0, next.plotRankAt(15, 15));
    }

    private static void partsOfPlots() {
        Checks.sentence("A person buys a square of the land, which is a plot or a part of one.");
        for (int size = 1; size <= 8; size *= 2) {
            LandQuarters land = Checks.quartered();
            Checks.due("a part of size " + size, size * size, land.buySquare(7, 8 - size, 16 - size, size));
            Checks.due("its area", size * size, land.areaByPlots(7));
            Checks.due("its one plot", 1, land.plotsOf(7));
            Checks.due("the rest", 64 - size * size, land.areaByCells(3));
            Checks.due("the seller's purse", 100 + size * size, land.coinsOf(3));
        }
        LandQuarters land = new LandQuarters();
        Checks.due("a part of the whole land", 2, land.buySquare(7, 15, 15, 1));
        Checks.due("plots", 13, land.plots());
        Checks.due("another part", 2, land.buySquare(7, 14, 15, 1));
        Checks.due("and others", 2, land.buySquare(7, 15, 14, 1));
        Checks.due("and others", 2, land.buySquare(7, 14, 14, 1));
        Checks.due("all four are one plot", 1, land.plotsOf(7));
        Checks.due("sales", 4, land.sales());
    }

    private static void severalOwners() {
        Checks.sentence("if its cells do not all have the same owner, if they belong to this person");
        for (int corner = 0; corner < 4; corner++) {
            int x = 4 + corner % 2 * 3;
            int y = 4 + corner / 2 * 3;
            for (int owner : new int[] {0, 2, 5}) {
                Checks.refused("a square of 3 with a cell of " + owner, () -> {
                    LandQuarters land = new LandQuarters();
                    land.grant(4, 4, 4, 3);
                    land.grant(x, y, 1, owner);
                    return land;
                }, Checks.STATE, land -> land.buySquare(5, 4, 4, 4));
            }
            LandQuarters land = new LandQuarters();
            land.grant(4, 4, 4, 3);
            land.grant(x, y, 1, 2);
            land.grant(x, y, 1, 3);
            Checks.due("of one owner again", 32, land.buySquare(5, 4, 4, 4));
        }
        Checks.refused("one's own plot", Checks.QUARTERED, Checks.STATE, land -> land.buySquare(1, 0, 0, 8));
        Checks.refused("a part of one's own plot", Checks.QUARTERED, Checks.STATE, land -> land.buySquare(4, 15, 15, 1));
        Checks.refused("all four quarters", Checks.QUARTERED, Checks.STATE, land -> land.buySquare(5, 0, 0, 16));
    }

    /** Person 4 has so many plots of a cell each: none of the cells is next to another one. */
    private static LandQuarters withPlots(int number, int tax) {
        LandQuarters land = new LandQuarters();
        land.setTax(tax);
        for (int i = 0; i < number; i++) {
            int y = i / 8;
            land.grant(i % 8 * 2 + y % 2, y, 1, 4);
        }
        return land;
    }

    private static void justEnoughForTaxes() {
        Checks.sentence("As long as a purse has fewer coins than the tax for all plots that its owner has then,"
            + " this owner loses a plot to the common");
        int[][] numbers = {{100, 1}, {50, 2}, {25, 4}, {20, 5}};
        for (int[] each : numbers) {
            LandQuarters land = withPlots(each[0], each[1]);
            Checks.due("plotsOf", each[0], land.plotsOf(4));
            Checks.due("lossesIfTaxed with just enough coins", 0, land.lossesIfTaxed(4));
            Checks.due("collectTaxes with just enough coins", 100, land.collectTaxes());
            Checks.due("plotsOf then", each[0], land.plotsOf(4));
            Checks.due("the purse then", 0, land.coinsOf(4));
            Checks.due("plotsLost", 0, land.plotsLost());
            LandQuarters more = withPlots(each[0] + 1, each[1]);
            Checks.due("lossesIfTaxed with a plot more", 1, more.lossesIfTaxed(4));
            Checks.due("collectTaxes with a plot more", 100, more.collectTaxes());
            Checks.due("plotsOf then", each[0], more.plotsOf(4));
            Checks.due("the purse then", 0, more.coinsOf(4));
            Checks.due("plotsLost", 1, more.plotsLost());
            Checks.due("the chest", 100, more.coinsOf(0));
        }
    }

    private static void everyTax() {
        Checks.sentence("for each plot of theirs as many coins as the setting tax tells, to the chest.");
        for (int tax = 0; tax <= 9; tax++) {
            for (int number : new int[] {0, 1, 10, 11, 12, 13, 14, 15, 16, 17}) {
                int kept = tax * number <= 100 ? number : 100 / tax;
                LandQuarters land = withPlots(number, tax);
                Checks.due("lossesIfTaxed of " + number + " plots for " + tax, number - kept, land.lossesIfTaxed(4));
                Checks.due("collectTaxes of " + number + " plots for " + tax, kept * tax, land.collectTaxes());
                Checks.due("plotsOf then", kept, land.plotsOf(4));
                Checks.due("plotsLost", number - kept, land.plotsLost());
                Checks.due("the purse", 100 - kept * tax, land.coinsOf(4));
                Checks.due("the chest", kept * tax, land.coinsOf(0));
                Checks.due("another's purse", 100, land.coinsOf(7));
            }
        }
    }

    private static void emptyPurseForTaxes() {
        Checks.sentence("As long as a purse has fewer coins than the tax");
        LandQuarters land = withPlots(20, 5);
        land.collectTaxes();
        Checks.due("lossesIfTaxed with an empty purse", 20, land.lossesIfTaxed(4));
        land.setTax(0);
        Checks.due("no loss for no tax", 0, land.lossesIfTaxed(4));
        Checks.due("no coins for no tax", 0, land.collectTaxes());
        Checks.due("no plot is lost for no tax", 0, land.plotsLost());
        Checks.due("plotsOf", 20, land.plotsOf(4));
        land.setTax(1);
        Checks.due("no coins of an empty purse", 0, land.collectTaxes());
        Checks.due("all plots are lost", 20, land.plotsLost());
        Checks.due("all land is common", 1, land.plots());
        Checks.due("nothing can be lost", 0, land.lossesIfTaxed(4));
        Checks.due("nothing is paid for nothing", 0, land.collectTaxes());
        Checks.due("nothing more is lost", 20, land.plotsLost());
        LandQuarters first = new LandQuarters();
        Checks.due("all land is common at first", 0, first.collectTaxes());
        Checks.due("lossesIfTaxed of no land", 0, first.lossesIfTaxed(7));
        Checks.due("the chest", 0, first.coinsOf(0));
    }

    private static void oneCoinLess() {
        Checks.sentence("As long as a purse has fewer coins than the tax");
        LandQuarters land = twentyCoins();
        land.setPrice(6);
        land.grant(0, 0, 16, 0);
        land.buySquare(1, 15, 15, 1);
        land.setPrice(5);
        land.buySquare(1, 0, 15, 1);
        land.setTax(9);
        Checks.due("9 coins for 2 plots", 1, land.lossesIfTaxed(1));
        Checks.due("9 coins for 1 of 2 plots", 9, land.collectTaxes());
        Checks.due("the last one is lost", 0, land.ownerAt(15, 15));
        Checks.due("the first one stays", 1, land.ownerAt(0, 15));
        Checks.due("the purse", 0, land.coinsOf(1));
        LandQuarters less = twentyCoins();
        less.grant(0, 0, 16, 0);
        less.setPrice(6);
        less.buySquare(1, 15, 15, 1);
        less.buySquare(1, 0, 15, 1);
        less.setTax(9);
        Checks.due("8 coins for 2 plots", 2, less.lossesIfTaxed(1));
        Checks.due("8 coins can pay none", 0, less.collectTaxes());
        Checks.due("both are lost", 0, less.areaByCells(1));
        Checks.due("the purse stays", 8, less.coinsOf(1));
        Checks.due("plotsLost", 2, less.plotsLost());
    }

    /** Person 4 has three plots of 1, two of 2, two of 4 and one of 8, in no order of sizes. */
    private static LandQuarters ofAllSizes() {
        LandQuarters land = new LandQuarters();
        land.grant(0, 0, 4, 4);
        land.grant(4, 4, 2, 4);
        land.grant(7, 0, 1, 4);
        land.grant(8, 0, 8, 4);
        land.grant(0, 8, 1, 4);
        land.grant(4, 12, 4, 4);
        land.grant(8, 8, 2, 4);
        land.grant(13, 13, 1, 4);
        return land;
    }

    private static void smallestAndLastFirst() {
        Checks.sentence("the smallest one, of several the last one in the order of plots.");
        int[][] order = {{13, 13}, {0, 8}, {7, 0}, {8, 8}, {4, 4}, {4, 12}, {0, 0}, {8, 0}};
        LandQuarters land = ofAllSizes();
        Checks.due("plotsOf", 8, land.plotsOf(4));
        for (int[] corner : order) {
            Checks.due("firstToLose", land.plotRankAt(corner[0], corner[1]), land.firstToLose(4));
            land.grant(corner[0], corner[1], land.plotSizeAt(corner[0], corner[1]), 0);
        }
        for (int lost = 0; lost <= 8; lost++) {
            LandQuarters taxed = ofAllSizes();
            leaveCoinsFor(taxed, 8 - lost);
            Checks.due("lossesIfTaxed", lost, taxed.lossesIfTaxed(4));
            Checks.due("collectTaxes", (8 - lost) * 9, taxed.collectTaxes());
            for (int i = 0; i < 8; i++) {
                Checks.due("owner of " + i + " after " + lost + " losses", i < lost ? 0 : 4, taxed.ownerAt(order[i][0], order[i][1]));
            }
            Checks.due("plotsLost", lost, taxed.plotsLost());
            Checks.due("coins of all", 700, coinsOfAll(taxed));
        }
    }

    /** Person 4 spends so many coins that the rest pays a tax of 9 for just so many plots, and some coins more. */
    private static void leaveCoinsFor(LandQuarters land, int plots) {
        land.setTax(9);
        land.setPrice(9);
        land.grant(15, 15, 1, 3);
        while (land.coinsOf(4) >= 9 * plots + 9) {
            land.buyPlot(4, 15, 15);
            land.grant(15, 15, 1, 3);
        }
        land.grant(15, 15, 1, 0);
    }

    private static int coinsOfAll(LandQuarters land) {
        int coins = 0;
        for (int owner = 0; owner < 8; owner++) {
            coins += land.coinsOf(owner);
        }
        return coins;
    }

    private static void commonGrowsTogether() {
        Checks.sentence("(Land that is lost can make plots of the common grow together, but the owner's other plots stay as they are.)");
        LandQuarters land = withPlots(17, 6);
        Checks.due("17 plots for 6", 96, land.collectTaxes());
        Checks.due("the last one in the order is lost", 0, land.ownerAt(15, 1));
        Checks.due("the one that was granted last stays", 4, land.ownerAt(0, 2));
        Checks.due("a plot of the common stays", 8, land.plotSizeAt(0, 15));
        Checks.due("the others stay", 16, land.plotsOf(4));
        LandQuarters four = new LandQuarters();
        four.grant(15, 15, 1, 4);
        four.grant(0, 0, 8, 4);
        four.setPrice(9);
        for (int i = 0; i < 11; i++) {
            four.buySquare(4, 8 + i % 4, 8 + i / 4, 1);
            four.grant(8 + i % 4, 8 + i / 4, 1, 0);
        }
        Checks.due("a purse of a coin", 1, four.coinsOf(4));
        Checks.due("a coin for one of two plots", 1, four.collectTaxes());
        Checks.due("three quarters are common", 3, four.plotsOf(0));
        Checks.due("and as large as they can be", 8, four.plotSizeAt(15, 15));
        Checks.due("nothing else is lost", 64, four.areaByCells(4));
    }

    private static void allPeople() {
        Checks.sentence("Taxes are paid by the people in ascending order");
        LandQuarters land = new LandQuarters();
        for (int person = 1; person <= 7; person++) {
            land.grant(2 * person, 7, 1, person);
        }
        land.setTax(9);
        Checks.due("9 coins of each", 63, land.collectTaxes());
        for (int person = 1; person <= 7; person++) {
            Checks.due("coinsOf(" + person + ")", 91, land.coinsOf(person));
            Checks.due("lossesIfTaxed(" + person + ")", 0, land.lossesIfTaxed(person));
        }
        Checks.due("the chest pays no taxes", 63, land.coinsOf(0));
        for (int i = 0; i < 10; i++) {
            Checks.due("9 coins of each again", 63, land.collectTaxes());
        }
        Checks.due("no coins for 7 plots", 0, land.collectTaxes());
        Checks.due("all lose their plots", 7, land.plotsLost());
        Checks.due("the chest", 693, land.coinsOf(0));
        Checks.due("a coin is left", 1, land.coinsOf(7));
        Checks.due("coins of all", 700, coinsOfAll(land));
    }

    private static void mostPlotsLost() {
        Checks.sentence("Tells how many plots a person would lose, if taxes were collected now.");
        LandQuarters land = new LandQuarters();
        land.grant(0, 0, 16, 7);
        for (int cell = 0; cell < 256; cell++) {
            if (cell % 2 == 1 && cell / 16 % 2 == 1) {
                land.grant(cell % 16, cell / 16, 1, 0);
            }
        }
        land.setTax(9);
        Checks.due("of 192 plots 11 can be paid", 181, land.lossesIfTaxed(7));
        Checks.due("nothing changes", 192, land.plotsOf(7));
        Checks.due("collectTaxes", 99, land.collectTaxes());
        Checks.due("plotsLost", 181, land.plotsLost());
        Checks.due("the first plot stays", 7, land.plotOwner(0));
        Checks.due("plotsOf", 11, land.plotsOf(7));
    }

    public static void main(String[] args) {
        coinsAtFirst();
        settings();
        justEnoughCoins();
        noCoins();
        costs();
        wholeLandForSale();
        plotOfACell();
        partsOfPlots();
        severalOwners();
        justEnoughForTaxes();
        everyTax();
        emptyPurseForTaxes();
        oneCoinLess();
        smallestAndLastFirst();
        commonGrowsTogether();
        allPeople();
        mostPlotsLost();
        Checks.end();
    }
}
