/** Each promise of the document in its turn; the tests of edges go on where this one ends. */
public final class PromisesTest {
    private static void write(LandQuarters land, String text) {
        land.clearBuffer();
        Checks.write(land, text);
    }

    private static int errorOf(String text) {
        LandQuarters land = new LandQuarters();
        write(land, text);
        return land.firstError();
    }

    /** Person 1 has a 4-plot at 4, 4 with one cell of person 2 in it, at 5, 5. */
    private static LandQuarters nested() {
        LandQuarters land = new LandQuarters();
        land.grant(4, 4, 4, 1);
        land.grant(5, 5, 1, 2);
        return land;
    }

    private static void newObject() {
        Checks.sentence("promise 1");
        LandQuarters land = new LandQuarters();
        Checks.due("NONE", -1, LandQuarters.NONE);
        Checks.due("plots", 1, land.plots());
        Checks.due("plotSize", 16, land.plotSize(0));
        Checks.due("plotOwner", 0, land.plotOwner(0));
        Checks.due("ownerAt", 0, land.ownerAt(15, 15));
        Checks.due("heightAt", 5, land.heightAt(0, 15));
        Checks.due("coins of the common", 0, land.coinsOf(0));
        for (int person = 1; person < 8; person++) {
            Checks.due("coins of " + person, 100, land.coinsOf(person));
        }
        Checks.due("price", 2, land.price());
        Checks.due("tax", 1, land.tax());
        Checks.due("sales", 0, land.sales());
        Checks.due("floods", 0, land.floods());
        Checks.due("plotsLost", 0, land.plotsLost());
        Checks.due("savedStates", 0, land.savedStates());
        Checks.due("bufferLength", 0, land.bufferLength());
        Checks.refusedHere("undo", land, Checks.STATE, l -> l.undo());
        Checks.refusedHere("goBack(0)", land, Checks.STATE, l -> l.goBack(0));
        Checks.refusedHere("goBack(1)", land, Checks.STATE, l -> l.goBack(1));
        Checks.refusedHere("carryOut", land, Checks.ARGUMENT, l -> l.carryOut());
    }

    private static void grant() {
        Checks.sentence("promise 2");
        LandQuarters land = new LandQuarters();
        Checks.due("grant(4, 8, 4, 1)", 16, land.grant(4, 8, 4, 1));
        Checks.due("grant(0, 8, 8, 1)", 48, land.grant(0, 8, 8, 1));
        Checks.due("grant(0, 8, 8, 1) again", 0, land.grant(0, 8, 8, 1));
        Checks.due("savedStates", 3, land.savedStates());
        Checks.due("grant(15, 15, 1, 7)", 1, land.grant(15, 15, 1, 7));
        Checks.due("the owner", 7, land.ownerAt(15, 15));
        Checks.due("the cell beside", 0, land.ownerAt(14, 15));
        Checks.due("grant(4, 12, 2, 0)", 4, land.grant(4, 12, 2, 0));
        Checks.due("common again", 0, land.ownerAt(5, 13));
        Checks.due("grant(0, 0, 16, 3)", 256, land.grant(0, 0, 16, 3));
        Checks.due("coins", 100, land.coinsOf(3));
        Checks.due("sales", 0, land.sales());
        wrongGrants();
    }

    private static void wrongGrants() {
        LandQuarters land = new LandQuarters();
        Checks.refusedHere("grant(1, 0, 2, 1)", land, Checks.ARGUMENT, l -> l.grant(1, 0, 2, 1));
        Checks.refusedHere("grant(0, 2, 4, 1)", land, Checks.ARGUMENT, l -> l.grant(0, 2, 4, 1));
        Checks.refusedHere("grant(8, 0, 16, 1)", land, Checks.ARGUMENT, l -> l.grant(8, 0, 16, 1));
        Checks.refusedHere("grant(0, 12, 8, 1)", land, Checks.ARGUMENT, l -> l.grant(0, 12, 8, 1));
    }

    private static void raise() {
        Checks.sentence("promise 3");
        LandQuarters land = new LandQuarters();
        Checks.due("raise(0, 0, 2, 3)", 32, land.raise(0, 0, 2, 3));
        Checks.due("heightAt(1, 1)", 8, land.heightAt(1, 1));
        Checks.due("heightAt(2, 1)", 5, land.heightAt(2, 1));
        Checks.due("raise(0, 0, 4, 2)", 4 * 9 + 12 * 7, land.raise(0, 0, 4, 2));
        Checks.due("at most 9", 9, land.heightAt(0, 0));
        Checks.due("raise(0, 0, 4, -9)", 0, land.raise(0, 0, 4, -9));
        Checks.due("at least 0", 0, land.heightAt(0, 0));
        Checks.due("raise(0, 0, 16, 9)", 256 * 9, land.raise(0, 0, 16, 9));
        Checks.due("raise(15, 0, 1, 0)", 9, land.raise(15, 0, 1, 0));
        Checks.due("savedStates", 5, land.savedStates());
        Checks.refusedHere("raise(2, 2, 4, 1)", land, Checks.ARGUMENT, l -> l.raise(2, 2, 4, 1));
    }

    private static void flood() {
        Checks.sentence("promise 4");
        LandQuarters land = new LandQuarters();
        land.grant(0, 0, 2, 1);
        land.grant(2, 0, 2, 2);
        land.raise(0, 0, 1, -5);
        land.raise(2, 0, 1, -1);
        land.raise(4, 0, 4, -5);
        Checks.due("flood(1)", 1, land.flood(1));
        Checks.due("owner of the low cell", 0, land.ownerAt(0, 0));
        Checks.due("owner of the other cell", 2, land.ownerAt(2, 0));
        Checks.due("flood(4)", 0, land.flood(4));
        Checks.due("flood(5)", 1, land.flood(5));
        Checks.due("savedStates", 6, land.savedStates());
        Checks.due("flood(10)", 6, land.flood(10));
        Checks.due("plots", 1, land.plots());
        Checks.due("floods", 4, land.floods());
    }

    private static void buyPlot() {
        Checks.sentence("promise 5");
        LandQuarters land = nested();
        Checks.due("buyPlot(2, 7, 6)", 8, land.buyPlot(2, 7, 6));
        Checks.due("purse of the buyer", 92, land.coinsOf(2));
        Checks.due("purse of the seller", 108, land.coinsOf(1));
        Checks.due("owner", 2, land.ownerAt(6, 7));
        Checks.due("sales", 1, land.sales());
        Checks.due("buyPlot(3, 0, 3)", 32, land.buyPlot(3, 0, 3));
        Checks.due("the chest", 32, land.coinsOf(0));
        Checks.due("savedStates", 4, land.savedStates());
        Checks.refusedHere("buyPlot of one's own", land, Checks.STATE, l -> l.buyPlot(3, 3, 3));
        Checks.refusedHere("buyPlot too dear", land, Checks.STATE, l -> l.buyPlot(4, 15, 15));
        exactPurse();
    }

    private static void exactPurse() {
        LandQuarters land = new LandQuarters();
        land.grant(0, 0, 4, 1);
        land.setPrice(1);
        Checks.due("16 coins", 16, land.buyPlot(2, 0, 0));
        Checks.due("64 coins", 64, land.buyPlot(2, 15, 15));
        Checks.due("20 coins left", 20, land.coinsOf(2));
        land.setPrice(5);
        land.grant(8, 0, 2, 3);
        Checks.due("all 20 coins", 20, land.buyPlot(2, 9, 1));
        Checks.due("nothing left", 0, land.coinsOf(2));
        land.setPrice(1);
        Checks.refusedHere("buyPlot with an empty purse", land, Checks.STATE, l -> l.buyPlot(2, 10, 0));
    }

    private static void buySquare() {
        Checks.sentence("promise 6");
        LandQuarters land = nested();
        Checks.due("buySquare(3, 6, 6, 2)", 8, land.buySquare(3, 6, 6, 2));
        Checks.due("buySquare(3, 8, 8, 4)", 32, land.buySquare(3, 8, 8, 4));
        Checks.due("coins of 3", 60, land.coinsOf(3));
        Checks.due("coins of 1", 108, land.coinsOf(1));
        Checks.due("the chest", 32, land.coinsOf(0));
        Checks.due("sales", 2, land.sales());
        Checks.due("savedStates", 4, land.savedStates());
        Checks.due("rest of the plot", 0, land.ownerAt(12, 8));
        Checks.due("size of the rest", 4, land.plotSizeAt(15, 8));
        Checks.due("size of the part that was sold", 4, land.plotSizeAt(11, 11));
        Checks.refusedHere("several owners", land, Checks.STATE, l -> l.buySquare(3, 4, 4, 4));
        Checks.refusedHere("one's own part", land, Checks.STATE, l -> l.buySquare(3, 8, 8, 2));
        Checks.refusedHere("too dear", land, Checks.STATE, l -> l.buySquare(3, 8, 0, 8));
        Checks.refusedHere("no such square before several owners", land, Checks.ARGUMENT, l -> l.buySquare(3, 2, 4, 4));
        LandQuarters exact = new LandQuarters();
        exact.setPrice(5);
        Checks.due("80 coins", 80, exact.buySquare(1, 0, 0, 4));
        Checks.due("20 coins", 20, exact.buySquare(1, 4, 0, 2));
        Checks.refusedHere("no coins", exact, Checks.STATE, l -> l.buySquare(1, 6, 0, 1));
    }

    private static void collectTaxes() {
        Checks.sentence("promise 7");
        LandQuarters land = nested();
        Checks.due("1 for each of 1 + 6 plots", 7, land.collectTaxes());
        Checks.due("coins of 1", 94, land.coinsOf(1));
        Checks.due("coins of 2", 99, land.coinsOf(2));
        Checks.due("coins of 3", 100, land.coinsOf(3));
        Checks.due("the chest", 7, land.coinsOf(0));
        Checks.due("savedStates", 3, land.savedStates());
        losses();
        exactTax();
        LandQuarters grown = new LandQuarters();
        grown.setTax(9);
        for (int i = 0; i < 15; i++) {
            grown.grant(i, i, 1, 1);
        }
        Checks.due("11 plots can be paid", 99, grown.collectTaxes());
        Checks.due("plotsLost", 4, grown.plotsLost());
        Checks.due("the last ones are lost", 0, grown.ownerAt(11, 11));
        Checks.due("the first ones stay", 1, grown.ownerAt(10, 10));
        Checks.due("the common grows together", 8, largestCommon(grown));
        Checks.due("1 coin can pay none", 0, grown.collectTaxes());
        Checks.due("plotsLost then", 15, grown.plotsLost());
        Checks.due("all common", 1, grown.plots());
        Checks.due("1 coin is left", 1, grown.coinsOf(1));
    }

    private static void exactTax() {
        LandQuarters land = new LandQuarters();
        land.setTax(5);
        for (int i = 0; i < 20; i++) {
            land.grant(i % 10, i / 10 * 3, 1, 4);
        }
        Checks.due("plotsOf", 20, land.plotsOf(4));
        Checks.due("no loss for just enough coins", 0, land.lossesIfTaxed(4));
        Checks.due("all coins", 100, land.collectTaxes());
        Checks.due("plotsOf then", 20, land.plotsOf(4));
        Checks.due("plotsLost", 0, land.plotsLost());
        Checks.due("an empty purse", 0, land.coinsOf(4));
    }

    private static int largestCommon(LandQuarters land) {
        return land.plotSize(land.largestPlotOf(0));
    }

    private static void losses() {
        LandQuarters land = nested();
        land.setPrice(1);
        land.grant(0, 0, 4, 3);
        land.grant(12, 12, 1, 3);
        land.grant(8, 8, 1, 3);
        Checks.due("buySquare(3, 8, 0, 8)", 64, land.buySquare(3, 8, 0, 8));
        Checks.due("buySquare(3, 0, 8, 4)", 16, land.buySquare(3, 0, 8, 4));
        land.setTax(9);
        Checks.due("six plots of 1, one of 2, two of 3", 54 + 9 + 18, land.collectTaxes());
        Checks.due("plotsLost", 3, land.plotsLost());
        Checks.due("the cells are lost first, the last one before", 0, land.ownerAt(8, 8));
        Checks.due("the cell 12, 12", 0, land.ownerAt(12, 12));
        Checks.due("of the 4-plots the last one", 0, land.ownerAt(0, 8));
        Checks.due("the first 4-plot stays", 3, land.ownerAt(0, 0));
        Checks.due("the 8-plot stays", 3, land.ownerAt(8, 0));
        Checks.due("coins of 3", 2, land.coinsOf(3));
        land.setTax(0);
        Checks.due("no tax", 0, land.collectTaxes());
        Checks.due("no loss for no tax", 3, land.plotsLost());
    }

    private static void settings() {
        Checks.sentence("promise 8");
        LandQuarters land = new LandQuarters();
        Checks.due("setPrice(9)", 2, land.setPrice(9));
        Checks.due("price", 9, land.price());
        Checks.due("setPrice(1)", 9, land.setPrice(1));
        Checks.due("setPrice(1) again", 1, land.setPrice(1));
        Checks.due("savedStates", 3, land.savedStates());
        Checks.sentence("promise 9");
        Checks.due("setTax(9)", 1, land.setTax(9));
        Checks.due("tax", 9, land.tax());
        Checks.due("setTax(0)", 9, land.setTax(0));
        Checks.due("setTax(0) again", 0, land.setTax(0));
        Checks.due("savedStates", 6, land.savedStates());
    }

    private static void buffer() {
        Checks.sentence("promises 10 to 12");
        LandQuarters land = new LandQuarters();
        for (int i = 1; i <= 60; i++) {
            Checks.due("append", i, land.append(i % 2 == 0 ? 33 : 126));
        }
        Checks.due("bufferLength", 60, land.bufferLength());
        Checks.refusedHere("append to a full buffer", land, Checks.STATE, l -> l.append('t'));
        Checks.refusedHere("append no character to a full buffer", land, Checks.ARGUMENT, l -> l.append(32));
        Checks.due("savedStates", 0, land.savedStates());
        Checks.due("clearBuffer", 60, land.clearBuffer());
        Checks.due("clearBuffer again", 0, land.clearBuffer());
        Checks.due("bufferLength after clearBuffer", 0, land.bufferLength());
        Checks.due("append then", 1, land.append('t'));
        Checks.due("savedStates then", 0, land.savedStates());
    }

    private static void firstError() {
        Checks.sentence("promise 13");
        String[] right = {"", "g", "gaa1=0", "gpp16=7", "gaa1", "gaa16", "gba2=1;", "rop8+1", "raa4-9", "raa16", "b1aa", "b7pp",
            "f1", "f9", "t", "t;t;t", "t;gaa1=0;f1;b1aa;raa16-1", "f5;"};
        for (String text : right) {
            Checks.due("firstError of " + text, text.length(), errorOf(text));
        }
        String[] wrongAtEnd = {"x", "G", ";", "1", "gq", "g1", "gaq", "gaA", "gaa0", "gaa3", "gaa5", "gaa6", "gaa7", "gaa9",
            "gaa=", "gaa11", "gaa12", "gaa1+", "gaa1-", "gaa1;", "gaa21", "gaa26", "gaa166", "gaa16+", "gaa1=8", "gaa1=9",
            "gaa1==", "gaa1=a", "gaa1=12", "gaa1=1t", "ra0", "raa1=", "raa16=", "raa1+0", "raa1-0", "raa1+:", "raa8+-",
            "raa4+12", "raa16-1g", "b0", "b8", "ba", "b1q", "b1aq", "b1aa1", "b1aag", "f0", "fa", "f10", "f1f", "tt", "t1",
            "t;;", "t;x", "t!", "t;f1,", "gaa1=/", "g`", "b1`", "ga`"};
        for (String text : wrongAtEnd) {
            Checks.due("firstError of " + text, text.length() - 1, errorOf(text));
            Checks.due("firstError of more than " + text, text.length() - 1, errorOf(text + ";t"));
        }
        LandQuarters land = new LandQuarters();
        write(land, "t;x");
        write(land, "t");
        Checks.due("no error of the text before", 1, land.firstError());
        Checks.due("no deed of the text before", 1, land.carryOut());
    }

    private static void carryOut() {
        Checks.sentence("promise 14");
        LandQuarters land = new LandQuarters();
        write(land, "gee4=1;rff1-2;b2ff;f4;t");
        Checks.due("five deeds", 5, land.carryOut());
        Checks.due("bufferLength", 0, land.bufferLength());
        Checks.due("savedStates", 1, land.savedStates());
        Checks.due("floods", 1, land.floods());
        Checks.due("coins of 1", 132, land.coinsOf(1));
        Checks.due("coins of 2, who pays 32 and taxes for 6 plots", 62, land.coinsOf(2));
        Checks.due("the low cell", 0, land.ownerAt(5, 5));
        Checks.due("undo", 0, land.undo());
        Checks.due("all undone", 1, land.plots());
        Checks.due("the buffer stays empty", 0, land.bufferLength());
        write(land, "raa16+9;gab2=1;t");
        Checks.due("up to a deed that would throw", 1, land.carryOut());
        Checks.due("the first deed stands", 9.0, land.meanHeight());
        write(land, "rba2+1");
        Checks.due("no deed at all", 0, land.carryOut());
        Checks.due("savedStates", 2, land.savedStates());
        Checks.due("bufferLength", 0, land.bufferLength());
        write(land, "b1aa;t");
        Checks.due("too dear", 0, land.carryOut());
        write(land, "gaa1=3;b3aa;t");
        Checks.due("one's own", 1, land.carryOut());
        write(land, "gpp1=7;gpo1=6;raa1-9;rpp1-1;roo2-1;raa16+1;gaa1=0;b7po");
        Checks.due("all kinds", 8, land.carryOut());
        carryOutSizes();
        wrongTexts();
    }

    private static void carryOutSizes() {
        LandQuarters land = new LandQuarters();
        write(land, "gic4=1");
        Checks.due("a corner that does not fit", 0, land.carryOut());
        write(land, "gie4=5;gci2=4;gai1=3;gip1=2;gia8=1;gii8=6");
        Checks.due("sizes 1 to 8", 6, land.carryOut());
        Checks.due("area of 1", 64, land.areaByCells(1));
        Checks.due("area of 2", 0, land.areaByCells(2));
        Checks.due("area of 3", 1, land.areaByCells(3));
        Checks.due("area of 4", 4, land.areaByCells(4));
        Checks.due("area of 5", 0, land.areaByCells(5));
        Checks.due("area of 6", 64, land.areaByCells(6));
        Checks.due("x before y", 3, land.ownerAt(0, 8));
        write(land, "gaa16=7;t;gaa16=0");
        Checks.due("size 16", 3, land.carryOut());
        Checks.due("tax of one plot", 99, land.coinsOf(7));
        StringBuilder longest = new StringBuilder("f9");
        for (int i = 0; i < 29; i++) {
            longest.append(";t");
        }
        write(land, longest.toString());
        Checks.due("60 characters", 30, land.carryOut());
    }

    private static void wrongTexts() {
        String[] texts = {"", "g", "gaa1=", "t;", "t;x", "tt", "gaa1", "f", "b1a", "raa1+", "f1;g", ";t", "f0"};
        for (String text : texts) {
            LandQuarters land = new LandQuarters();
            write(land, text);
            Checks.refusedHere("carryOut of " + text, land, Checks.ARGUMENT, l -> l.carryOut());
        }
    }

    private static void undo() {
        Checks.sentence("promises 15 and 16");
        LandQuarters land = nested();
        land.raise(0, 0, 1, 4);
        land.setTax(3);
        land.buyPlot(2, 4, 4);
        Checks.due("savedStates", 5, land.savedStates());
        land.flood(9);
        Checks.due("floods", 1, land.floods());
        Checks.due("undo the flood", 5, land.undo());
        Checks.due("floods then", 0, land.floods());
        Checks.due("owner then", 2, land.ownerAt(4, 4));
        Checks.due("undo the sale", 4, land.undo());
        Checks.due("purse", 100, land.coinsOf(2));
        Checks.due("sales", 0, land.sales());
        Checks.due("undo the tax", 3, land.undo());
        Checks.due("tax", 1, land.tax());
        Checks.due("undo the raise", 2, land.undo());
        Checks.due("height", 5, land.heightAt(0, 0));
        Checks.due("undo a grant", 1, land.undo());
        Checks.due("plots", 7, land.plots());
        Checks.due("undo the first", 0, land.undo());
        Checks.due("plots at first", 1, land.plots());
        Checks.refusedHere("undo without states", land, Checks.STATE, l -> l.undo());
        for (int price = 1; price <= 9; price++) {
            land.setPrice(price);
            Checks.due("savedStates", Math.min(price, 6), land.savedStates());
        }
        for (int left = 5; left >= 0; left--) {
            Checks.due("undo", left, land.undo());
            Checks.due("price", 3 + left, land.price());
        }
        Checks.refusedHere("the oldest states are dropped", land, Checks.STATE, l -> l.undo());
        Checks.due("a state after all undone", 3, land.setPrice(8));
        Checks.due("undo it", 0, land.undo());
        Checks.due("the price before", 3, land.price());
    }

    private static void undoOfEach() {
        Checks.sentence("promise 15");
        LandQuarters land = nested();
        land.setTax(9);
        land.setPrice(9);
        land.buySquare(3, 5, 5, 1);
        land.collectTaxes();
        Checks.due("undo taxes", 5, land.undo());
        Checks.due("chest", 0, land.coinsOf(0));
        Checks.due("purse", 91, land.coinsOf(3));
        Checks.due("undo buySquare", 4, land.undo());
        Checks.due("owner", 2, land.ownerAt(5, 5));
        Checks.due("undo setPrice", 3, land.undo());
        Checks.due("price", 2, land.price());
        land.keep(0);
        Checks.due("keep saves nothing", 3, land.savedStates());
        land.append('t');
        Checks.due("append saves nothing", 3, land.savedStates());
        land.undo();
        Checks.due("the buffer is no state", 1, land.bufferLength());
        land.goBack(0);
        Checks.due("goBack saves the state", 3, land.savedStates());
        Checks.due("tax", 9, land.tax());
        land.undo();
        Checks.due("tax before", 1, land.tax());
        lostPlotsUndone();
    }

    private static void lostPlotsUndone() {
        LandQuarters land = new LandQuarters();
        land.setTax(9);
        for (int i = 0; i < 12; i++) {
            land.grant(i, 0, 1, 1);
        }
        land.grant(1, 1, 1, 2);
        land.collectTaxes();
        int lost = land.plotsLost();
        Checks.due("twelve plots less eleven", 1, lost);
        land.undo();
        Checks.due("plotsLost", 0, land.plotsLost());
        Checks.due("the cell is back", 1, land.ownerAt(11, 0));
    }

    private static void snapshots() {
        Checks.sentence("promises 17 and 18");
        LandQuarters land = nested();
        Checks.due("keep(0)", 13, land.keep(0));
        land.grant(0, 0, 16, 4);
        Checks.due("keep(1)", 1, land.keep(1));
        Checks.due("goBack(0)", 13, land.goBack(0));
        Checks.due("owner", 2, land.ownerAt(5, 5));
        Checks.due("savedStates", 4, land.savedStates());
        Checks.due("goBack(1)", 1, land.goBack(1));
        Checks.due("the slot keeps it", 13, land.goBack(0));
        land.grant(0, 0, 16, 5);
        Checks.due("the slot is no part of the land", 13, land.goBack(0));
        Checks.due("savedStates", 6, land.savedStates());
        Checks.due("undo", 5, land.undo());
        Checks.due("owner before goBack", 5, land.ownerAt(0, 0));
        Checks.due("keep(0) again", 1, land.keep(0));
        land.goBack(1);
        Checks.due("owner of slot 1", 4, land.ownerAt(0, 0));
        land.goBack(0);
        Checks.due("the snapshot is replaced", 5, land.ownerAt(0, 0));
        land.append('g');
        Checks.due("goBack leaves the buffer", 1, land.goBack(0));
        Checks.due("bufferLength", 1, land.bufferLength());
        LandQuarters empty = new LandQuarters();
        empty.keep(0);
        Checks.refusedHere("an empty slot", empty, Checks.STATE, l -> l.goBack(1));
    }

    private static void cells() {
        Checks.sentence("promises 19 to 23");
        LandQuarters land = nested();
        land.raise(2, 1, 1, -2);
        Checks.due("ownerAt(4, 5)", 1, land.ownerAt(4, 5));
        Checks.due("ownerAt(5, 5)", 2, land.ownerAt(5, 5));
        Checks.due("ownerAt(8, 4)", 0, land.ownerAt(8, 4));
        Checks.due("heightAt(2, 1)", 3, land.heightAt(2, 1));
        Checks.due("heightAt(1, 2)", 5, land.heightAt(1, 2));
        Checks.due("plotSizeAt(4, 4)", 1, land.plotSizeAt(4, 4));
        Checks.due("plotSizeAt(7, 5)", 2, land.plotSizeAt(7, 5));
        Checks.due("plotSizeAt(3, 3)", 4, land.plotSizeAt(3, 3));
        Checks.due("plotSizeAt(8, 7)", 8, land.plotSizeAt(8, 7));
        Checks.due("plotRankAt(0, 0)", 0, land.plotRankAt(0, 0));
        Checks.due("plotRankAt(7, 3)", 1, land.plotRankAt(7, 3));
        Checks.due("plotRankAt(3, 7)", 2, land.plotRankAt(3, 7));
        Checks.due("plotRankAt(5, 4)", 4, land.plotRankAt(5, 4));
        Checks.due("plotRankAt(4, 5)", 5, land.plotRankAt(4, 5));
        Checks.due("plotRankAt(7, 7)", 9, land.plotRankAt(7, 7));
        Checks.due("plotRankAt(15, 0)", 10, land.plotRankAt(15, 0));
        Checks.due("plotRankAt(0, 15)", 11, land.plotRankAt(0, 15));
        Checks.due("plotRankAt(15, 15)", 12, land.plotRankAt(15, 15));
        Checks.due("plotPriceAt(6, 4)", 8, land.plotPriceAt(6, 4));
        land.setPrice(9);
        Checks.due("plotPriceAt(15, 15)", 576, land.plotPriceAt(15, 15));
        Checks.due("plotPriceAt(5, 5)", 9, land.plotPriceAt(5, 5));
    }

    private static void plots() {
        Checks.sentence("promises 24 to 28");
        LandQuarters land = nested();
        int[][] want = {{0, 0, 0, 4}, {0, 4, 0, 4}, {0, 0, 4, 4}, {1, 4, 4, 1}, {1, 5, 4, 1}, {1, 4, 5, 1}, {2, 5, 5, 1},
            {1, 6, 4, 2}, {1, 4, 6, 2}, {1, 6, 6, 2}, {0, 8, 0, 8}, {0, 0, 8, 8}, {0, 8, 8, 8}};
        Checks.due("plots", want.length, land.plots());
        for (int rank = 0; rank < want.length; rank++) {
            Checks.due("plotOwner " + rank, want[rank][0], land.plotOwner(rank));
            Checks.due("plotX " + rank, want[rank][1], land.plotX(rank));
            Checks.due("plotY " + rank, want[rank][2], land.plotY(rank));
            Checks.due("plotSize " + rank, want[rank][3], land.plotSize(rank));
        }
        land.grant(5, 5, 1, 1);
        Checks.due("four quarters of one owner are one plot", 7, land.plots());
        land.grant(4, 4, 4, 0);
        Checks.due("the whole land is one plot", 1, land.plots());
        everyCellAPlot();
    }

    private static void everyCellAPlot() {
        LandQuarters land = new LandQuarters();
        for (int y = 0; y < 16; y++) {
            for (int x = 0; x < 16; x++) {
                if ((x + y) % 2 == 0) {
                    land.grant(x, y, 1, 1 + (x + y) % 7);
                }
            }
        }
        Checks.due("a plot for each cell", 256, land.plots());
        Checks.due("last plot x", 15, land.plotX(255));
        Checks.due("last plot y", 15, land.plotY(255));
        Checks.due("second plot x", 1, land.plotX(1));
        Checks.due("third plot y", 1, land.plotY(2));
        Checks.due("all fences of the common", 480, land.fenceByPlots(0));
        Checks.due("all fences of the common, by cells", 480, land.fenceByCells(0));
        Checks.refusedHere("plotSize(256)", land, Checks.INDEX, l -> l.plotSize(256));
    }

    private static void owners() {
        Checks.sentence("promises 29 to 37");
        LandQuarters land = nested();
        Checks.due("plotsOf(0)", 6, land.plotsOf(0));
        Checks.due("plotsOf(1)", 6, land.plotsOf(1));
        Checks.due("plotsOf(2)", 1, land.plotsOf(2));
        Checks.due("plotsOf(7)", 0, land.plotsOf(7));
        Checks.due("areaByPlots(0)", 240, land.areaByPlots(0));
        Checks.due("areaByPlots(1)", 15, land.areaByPlots(1));
        Checks.due("areaByPlots(7)", 0, land.areaByPlots(7));
        Checks.due("areaByCells(0)", 240, land.areaByCells(0));
        Checks.due("areaByCells(1)", 15, land.areaByCells(1));
        Checks.due("areaByCells(7)", 0, land.areaByCells(7));
        Checks.due("fenceByPlots(0)", 16, land.fenceByPlots(0));
        Checks.due("fenceByPlots(1)", 20, land.fenceByPlots(1));
        Checks.due("fenceByPlots(2)", 4, land.fenceByPlots(2));
        Checks.due("fenceByPlots(7)", 0, land.fenceByPlots(7));
        Checks.due("fenceByCells(0)", 16, land.fenceByCells(0));
        Checks.due("fenceByCells(1)", 20, land.fenceByCells(1));
        Checks.due("fenceByCells(2)", 4, land.fenceByCells(2));
        Checks.due("fenceByCells(7)", 0, land.fenceByCells(7));
        Checks.due("fenceBetween(0, 1)", 16, land.fenceBetween(0, 1));
        Checks.due("fenceBetween(1, 0)", 16, land.fenceBetween(1, 0));
        Checks.due("fenceBetween(1, 2)", 4, land.fenceBetween(1, 2));
        Checks.due("fenceBetween(0, 2)", 0, land.fenceBetween(0, 2));
        Checks.due("fenceBetween(1, 1)", 0, land.fenceBetween(1, 1));
        Checks.due("largestPlotOf(0)", 10, land.largestPlotOf(0));
        Checks.due("largestPlotOf(1)", 7, land.largestPlotOf(1));
        Checks.due("largestPlotOf(2)", 6, land.largestPlotOf(2));
        Checks.due("largestPlotOf(3)", -1, land.largestPlotOf(3));
        Checks.due("firstToLose(1)", 5, land.firstToLose(1));
        Checks.due("firstToLose(2)", 6, land.firstToLose(2));
        Checks.due("firstToLose(3)", -1, land.firstToLose(3));
        Checks.due("coinsOf(7)", 100, land.coinsOf(7));
        LandQuarters whole = new LandQuarters();
        whole.grant(0, 0, 16, 6);
        Checks.due("firstToLose of the whole land", 0, whole.firstToLose(6));
        Checks.due("largestPlotOf the whole land", 0, whole.largestPlotOf(6));
        Checks.due("no fence at the rim", 0, whole.fenceByPlots(6));
        Checks.due("no fence at the rim, by cells", 0, whole.fenceByCells(6));
        Checks.due("areaByPlots of the whole land", 256, whole.areaByPlots(6));
        corners();
    }

    private static void corners() {
        LandQuarters land = new LandQuarters();
        land.grant(0, 0, 1, 1);
        land.grant(15, 0, 1, 2);
        land.grant(0, 15, 1, 3);
        land.grant(15, 15, 1, 4);
        for (int person = 1; person <= 4; person++) {
            Checks.due("a corner's fence " + person, 2, land.fenceByPlots(person));
            Checks.due("a corner's fence, by cells " + person, 2, land.fenceByCells(person));
        }
        Checks.due("fences of the common", 8, land.fenceByPlots(0));
        Checks.due("fences of the common, by cells", 8, land.fenceByCells(0));
    }

    private static void accountsOfAll() {
        Checks.sentence("promises 38 to 42");
        LandQuarters land = nested();
        land.setPrice(3);
        land.setTax(9);
        Checks.due("price", 3, land.price());
        Checks.due("tax", 9, land.tax());
        land.buyPlot(3, 5, 5);
        land.buySquare(4, 0, 0, 1);
        Checks.due("sales", 2, land.sales());
        land.flood(1);
        land.flood(1);
        Checks.due("floods", 2, land.floods());
        write(land, "f1;b5pp;b5ee");
        land.carryOut();
        Checks.due("floods of texts", 3, land.floods());
        Checks.due("a sale that would throw is none", 2, land.sales());
        write(land, "b5ee");
        land.carryOut();
        Checks.due("sales of texts", 3, land.sales());
        Checks.due("plotsLost", 0, land.plotsLost());
        for (int i = 0; i < 15; i++) {
            land.grant(i, 15 - i, 1, 6);
        }
        write(land, "t");
        land.carryOut();
        Checks.due("plotsLost of texts", 4, land.plotsLost());
        Checks.due("grants are no sales", 3, land.sales());
    }

    private static void whatWouldBe() {
        Checks.sentence("promises 43 to 47");
        LandQuarters land = new LandQuarters();
        land.grant(0, 0, 8, 1);
        land.raise(0, 0, 2, -3);
        land.raise(8, 8, 1, -5);
        Checks.due("lowCells(1, 2)", 0, land.lowCells(1, 2));
        Checks.due("lowCells(1, 3)", 4, land.lowCells(1, 3));
        Checks.due("lowCells(1, 5)", 4, land.lowCells(1, 5));
        Checks.due("lowCells(1, 6)", 64, land.lowCells(1, 6));
        Checks.due("lowCells(0, 1)", 1, land.lowCells(0, 1));
        Checks.due("lowCells(7, 10)", 0, land.lowCells(7, 10));
        String before = Checks.accounts(land);
        Checks.due("plotsIfFlooded(1)", 4, land.plotsIfFlooded(1));
        Checks.due("plotsIfFlooded(3)", 10, land.plotsIfFlooded(3));
        Checks.due("plotsIfFlooded(10)", 1, land.plotsIfFlooded(10));
        Checks.due("nothing changes", before, Checks.accounts(land));
        Checks.due("plots", 4, land.plots());
        Checks.due("meanHeight", (1280.0 - 12 - 5) / 256.0, land.meanHeight());
        lossesIfTaxed();
        nearestNeighbour();
    }

    private static void lossesIfTaxed() {
        LandQuarters land = new LandQuarters();
        for (int i = 0; i < 15; i++) {
            land.grant(i, i, 1, 1);
        }
        Checks.due("15 plots for 15 coins", 0, land.lossesIfTaxed(1));
        land.setTax(6);
        Checks.due("15 plots for 90 coins", 0, land.lossesIfTaxed(1));
        land.setTax(7);
        Checks.due("14 plots for 98 coins", 1, land.lossesIfTaxed(1));
        land.setTax(9);
        Checks.due("11 plots for 99 coins", 4, land.lossesIfTaxed(1));
        Checks.due("no plots", 0, land.lossesIfTaxed(2));
        Checks.due("nothing is lost", 15, land.plotsOf(1));
        Checks.due("plotsLost", 0, land.plotsLost());
        land.collectTaxes();
        Checks.due("all with one coin", 11, land.lossesIfTaxed(1));
        land.setTax(0);
        Checks.due("no tax", 0, land.lossesIfTaxed(1));
    }

    private static void nearestNeighbour() {
        LandQuarters land = nested();
        Checks.due("nearestNeighbour(0)", 1, land.nearestNeighbour(0));
        Checks.due("nearestNeighbour(1)", 0, land.nearestNeighbour(1));
        Checks.due("nearestNeighbour(2)", 1, land.nearestNeighbour(2));
        Checks.due("nearestNeighbour(3)", -1, land.nearestNeighbour(3));
        land.grant(0, 0, 16, 7);
        Checks.due("no fence", -1, land.nearestNeighbour(7));
        land.grant(8, 0, 8, 3);
        land.grant(0, 8, 8, 2);
        Checks.due("of several the lowest", 2, land.nearestNeighbour(7));
        land.grant(8, 8, 8, 6);
        Checks.due("of 2 the lowest", 6, land.nearestNeighbour(2));
        land.grant(4, 4, 1, 2);
        land.grant(8, 8, 2, 2);
        Checks.due("the longest", 7, land.nearestNeighbour(2));
        LandQuarters corner = new LandQuarters();
        corner.grant(0, 0, 1, 1);
        corner.grant(1, 0, 1, 3);
        corner.grant(0, 1, 1, 2);
        Checks.due("fences of the length 1", 2, corner.nearestNeighbour(1));
    }

    public static void main(String[] args) {
        newObject();
        grant();
        raise();
        flood();
        buyPlot();
        buySquare();
        collectTaxes();
        settings();
        buffer();
        firstError();
        carryOut();
        undo();
        undoOfEach();
        snapshots();
        cells();
        plots();
        owners();
        accountsOfAll();
        whatWouldBe();
        Checks.end();
    }
}
