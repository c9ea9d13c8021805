import java.util.Objects;

/** Each promise of the document with ordinary inputs, the edges that it names, and wrong inputs. */
public final class PromisesTest {
    private interface Call {
        Object answer();
    }

    private static final Class<? extends RuntimeException> INDEX = IndexOutOfBoundsException.class;
    private static final Class<? extends RuntimeException> ARGUMENT = IllegalArgumentException.class;
    private static final Class<? extends RuntimeException> STATE = IllegalStateException.class;
    private static final int[] OUTSIDE = {-1, 16, 17, 256, Integer.MIN_VALUE, Integer.MAX_VALUE};
    private static final int[] NO_SIZES = {-16, -1, 0, 3, 5, 6, 7, 9, 12, 15, 17, 32, Integer.MIN_VALUE, Integer.MAX_VALUE};
    private static final int[] NO_OWNERS = {-1, 8, 9, Integer.MIN_VALUE, Integer.MAX_VALUE};
    private static final int[] NO_PERSONS = {-1, 0, 8, Integer.MIN_VALUE, Integer.MAX_VALUE};
    private static final int[] NO_LEVELS = {-1, 0, 11, Integer.MIN_VALUE, Integer.MAX_VALUE};

    private static int wrong = 0;
    private static String promise = "";

    private static void due(String what, Object want, Object got) {
        if (!Objects.equals(want, got)) {
            wrong++;
            System.out.println(promise + ": " + what + " answered " + got + ", due is " + want);
        }
    }

    /** The call throws just this, and changes nothing. */
    private static void refused(String what, LandQuarters land, Class<? extends RuntimeException> kind, Call call) {
        String before = accounts(land);
        Object got;
        try {
            got = call.answer();
        } catch (RuntimeException e) {
            got = e.getClass();
        }
        due(what, kind, got);
        due("the state after " + what, before, accounts(land));
    }

    private static String accounts(LandQuarters land) {
        StringBuilder told = new StringBuilder();
        for (int owner = 0; owner < 8; owner++) {
            told.append(land.coinsOf(owner)).append('/').append(land.areaByCells(owner)).append(' ');
        }
        told.append(land.plots()).append(' ').append(land.price()).append(' ').append(land.tax());
        told.append(' ').append(land.sales()).append(' ').append(land.floods()).append(' ').append(land.plotsLost());
        told.append(' ').append(land.savedStates()).append(' ').append(land.bufferLength());
        return told.append(' ').append(land.meanHeight()).toString();
    }

    private static void write(LandQuarters land, String text) {
        land.clearBuffer();
        for (int i = 0; i < text.length(); i++) {
            land.append(text.charAt(i));
        }
    }

    private static int errorOf(String text) {
        LandQuarters land = new LandQuarters();
        write(land, text);
        return land.firstError();
    }

    /** Person 1 has a 4-plot at 4, 4 with one cell of person 2 in it, at 5, 5. */
    private static LandQuarters nested() {
        LandQuarters land = new LandQuarters();
        land.grant(4, 4, 4, 1);
        land.grant(5, 5, 1, 2);
        return land;
    }

    private static void newObject() {
        promise = "promise 1";
        LandQuarters land = new LandQuarters();
        due("NONE", -1, LandQuarters.NONE);
        due("plots", 1, land.plots());
        due("plotSize", 16, land.plotSize(0));
        due("plotOwner", 0, land.plotOwner(0));
        due("ownerAt", 0, land.ownerAt(15, 15));
        due("heightAt", 5, land.heightAt(0, 15));
        due("coins of the common", 0, land.coinsOf(0));
        for (int person = 1; person < 8; person++) {
            due("coins of " + person, 100, land.coinsOf(person));
        }
        due("price", 2, land.price());
        due("tax", 1, land.tax());
        due("sales", 0, land.sales());
        due("floods", 0, land.floods());
        due("plotsLost", 0, land.plotsLost());
        due("savedStates", 0, land.savedStates());
        due("bufferLength", 0, land.bufferLength());
        refused("undo", land, STATE, () -> land.undo());
        refused("goBack(0)", land, STATE, () -> land.goBack(0));
        refused("goBack(1)", land, STATE, () -> land.goBack(1));
        refused("carryOut", land, ARGUMENT, () -> land.carryOut());
    }

    private static void grant() {
        promise = "promise 2";
        LandQuarters land = new LandQuarters();
        due("grant(4, 8, 4, 1)", 16, land.grant(4, 8, 4, 1));
        due("grant(0, 8, 8, 1)", 48, land.grant(0, 8, 8, 1));
        due("grant(0, 8, 8, 1) again", 0, land.grant(0, 8, 8, 1));
        due("savedStates", 3, land.savedStates());
        due("grant(15, 15, 1, 7)", 1, land.grant(15, 15, 1, 7));
        due("the owner", 7, land.ownerAt(15, 15));
        due("the cell beside", 0, land.ownerAt(14, 15));
        due("grant(4, 12, 2, 0)", 4, land.grant(4, 12, 2, 0));
        due("common again", 0, land.ownerAt(5, 13));
        due("grant(0, 0, 16, 3)", 256, land.grant(0, 0, 16, 3));
        due("coins", 100, land.coinsOf(3));
        due("sales", 0, land.sales());
        wrongGrants();
    }

    private static void wrongGrants() {
        for (int bad : OUTSIDE) {
            LandQuarters land = new LandQuarters();
            refused("grant x " + bad, land, INDEX, () -> land.grant(bad, 0, 1, 1));
            refused("grant y " + bad, land, INDEX, () -> land.grant(0, bad, 3, 1));
        }
        for (int bad : NO_SIZES) {
            LandQuarters land = new LandQuarters();
            refused("grant size " + bad, land, ARGUMENT, () -> land.grant(0, 0, bad, 1));
            refused("grant with no such owner before size " + bad, land, INDEX, () -> land.grant(0, 0, bad, 8));
        }
        for (int bad : NO_OWNERS) {
            LandQuarters land = new LandQuarters();
            refused("grant owner " + bad, land, INDEX, () -> land.grant(0, 0, 1, bad));
        }
        LandQuarters land = new LandQuarters();
        refused("grant(1, 0, 2, 1)", land, ARGUMENT, () -> land.grant(1, 0, 2, 1));
        refused("grant(0, 2, 4, 1)", land, ARGUMENT, () -> land.grant(0, 2, 4, 1));
        refused("grant(8, 0, 16, 1)", land, ARGUMENT, () -> land.grant(8, 0, 16, 1));
        refused("grant(0, 12, 8, 1)", land, ARGUMENT, () -> land.grant(0, 12, 8, 1));
    }

    private static void raise() {
        promise = "promise 3";
        LandQuarters land = new LandQuarters();
        due("raise(0, 0, 2, 3)", 32, land.raise(0, 0, 2, 3));
        due("heightAt(1, 1)", 8, land.heightAt(1, 1));
        due("heightAt(2, 1)", 5, land.heightAt(2, 1));
        due("raise(0, 0, 4, 2)", 4 * 9 + 12 * 7, land.raise(0, 0, 4, 2));
        due("at most 9", 9, land.heightAt(0, 0));
        due("raise(0, 0, 4, -9)", 0, land.raise(0, 0, 4, -9));
        due("at least 0", 0, land.heightAt(0, 0));
        due("raise(0, 0, 16, 9)", 256 * 9, land.raise(0, 0, 16, 9));
        due("raise(15, 0, 1, 0)", 9, land.raise(15, 0, 1, 0));
        due("savedStates", 5, land.savedStates());
        for (int bad : OUTSIDE) {
            LandQuarters fresh = new LandQuarters();
            refused("raise x " + bad, fresh, INDEX, () -> fresh.raise(bad, 0, 1, 1));
            refused("raise y " + bad, fresh, INDEX, () -> fresh.raise(0, bad, 3, 10));
        }
        for (int bad : NO_SIZES) {
            LandQuarters fresh = new LandQuarters();
            refused("raise size " + bad, fresh, ARGUMENT, () -> fresh.raise(0, 0, bad, 1));
        }
        for (int bad : new int[] {-10, 10, Integer.MIN_VALUE, Integer.MAX_VALUE}) {
            LandQuarters fresh = new LandQuarters();
            refused("raise by " + bad, fresh, ARGUMENT, () -> fresh.raise(0, 0, 1, bad));
        }
        refused("raise(2, 2, 4, 1)", land, ARGUMENT, () -> land.raise(2, 2, 4, 1));
    }

    private static void flood() {
        promise = "promise 4";
        LandQuarters land = new LandQuarters();
        land.grant(0, 0, 2, 1);
        land.grant(2, 0, 2, 2);
        land.raise(0, 0, 1, -5);
        land.raise(2, 0, 1, -1);
        land.raise(4, 0, 4, -5);
        due("flood(1)", 1, land.flood(1));
        due("owner of the low cell", 0, land.ownerAt(0, 0));
        due("owner of the other cell", 2, land.ownerAt(2, 0));
        due("flood(4)", 0, land.flood(4));
        due("flood(5)", 1, land.flood(5));
        due("savedStates", 6, land.savedStates());
        due("flood(10)", 6, land.flood(10));
        due("plots", 1, land.plots());
        due("floods", 4, land.floods());
        for (int bad : NO_LEVELS) {
            LandQuarters fresh = new LandQuarters();
            refused("flood " + bad, fresh, ARGUMENT, () -> fresh.flood(bad));
        }
    }

    private static void buyPlot() {
        promise = "promise 5";
        LandQuarters land = nested();
        due("buyPlot(2, 7, 6)", 8, land.buyPlot(2, 7, 6));
        due("purse of the buyer", 92, land.coinsOf(2));
        due("purse of the seller", 108, land.coinsOf(1));
        due("owner", 2, land.ownerAt(6, 7));
        due("sales", 1, land.sales());
        due("buyPlot(3, 0, 3)", 32, land.buyPlot(3, 0, 3));
        due("the chest", 32, land.coinsOf(0));
        due("savedStates", 4, land.savedStates());
        refused("buyPlot of one's own", land, STATE, () -> land.buyPlot(3, 3, 3));
        refused("buyPlot too dear", land, STATE, () -> land.buyPlot(4, 15, 15));
        for (int bad : NO_PERSONS) {
            refused("buyPlot person " + bad, land, INDEX, () -> land.buyPlot(bad, 0, 0));
        }
        for (int bad : OUTSIDE) {
            LandQuarters fresh = nested();
            refused("buyPlot x " + bad, fresh, INDEX, () -> fresh.buyPlot(1, bad, 0));
            refused("buyPlot y " + bad, fresh, INDEX, () -> fresh.buyPlot(1, 0, bad));
        }
        exactPurse();
    }

    private static void exactPurse() {
        LandQuarters land = new LandQuarters();
        land.grant(0, 0, 4, 1);
        land.setPrice(1);
        due("16 coins", 16, land.buyPlot(2, 0, 0));
        due("64 coins", 64, land.buyPlot(2, 15, 15));
        due("20 coins left", 20, land.coinsOf(2));
        land.setPrice(5);
        land.grant(8, 0, 2, 3);
        due("all 20 coins", 20, land.buyPlot(2, 9, 1));
        due("nothing left", 0, land.coinsOf(2));
        land.setPrice(1);
        refused("buyPlot with an empty purse", land, STATE, () -> land.buyPlot(2, 10, 0));
    }

    private static void buySquare() {
        promise = "promise 6";
        LandQuarters land = nested();
        due("buySquare(3, 6, 6, 2)", 8, land.buySquare(3, 6, 6, 2));
        due("buySquare(3, 8, 8, 4)", 32, land.buySquare(3, 8, 8, 4));
        due("coins of 3", 60, land.coinsOf(3));
        due("coins of 1", 108, land.coinsOf(1));
        due("the chest", 32, land.coinsOf(0));
        due("sales", 2, land.sales());
        due("savedStates", 4, land.savedStates());
        due("rest of the plot", 0, land.ownerAt(12, 8));
        due("size of the rest", 4, land.plotSizeAt(15, 8));
        due("size of the part that was sold", 4, land.plotSizeAt(11, 11));
        refused("several owners", land, STATE, () -> land.buySquare(3, 4, 4, 4));
        refused("one's own part", land, STATE, () -> land.buySquare(3, 8, 8, 2));
        refused("too dear", land, STATE, () -> land.buySquare(3, 8, 0, 8));
        for (int bad : NO_PERSONS) {
            refused("person " + bad, land, INDEX, () -> land.buySquare(bad, 0, 0, 3));
        }
        for (int bad : OUTSIDE) {
            LandQuarters fresh = nested();
            refused("x " + bad, fresh, INDEX, () -> fresh.buySquare(1, bad, 0, 3));
            refused("y " + bad, fresh, INDEX, () -> fresh.buySquare(1, 0, bad, 1));
        }
        for (int bad : NO_SIZES) {
            LandQuarters fresh = nested();
            refused("size " + bad, fresh, ARGUMENT, () -> fresh.buySquare(1, 0, 0, bad));
        }
        refused("no such square before several owners", land, ARGUMENT, () -> land.buySquare(3, 2, 4, 4));
        LandQuarters exact = new LandQuarters();
        exact.setPrice(5);
        due("80 coins", 80, exact.buySquare(1, 0, 0, 4));
        due("20 coins", 20, exact.buySquare(1, 4, 0, 2));
        refused("no coins", exact, STATE, () -> exact.buySquare(1, 6, 0, 1));
    }

    private static void collectTaxes() {
        promise = "promise 7";
        LandQuarters land = nested();
        due("1 for each of 1 + 6 plots", 7, land.collectTaxes());
        due("coins of 1", 94, land.coinsOf(1));
        due("coins of 2", 99, land.coinsOf(2));
        due("coins of 3", 100, land.coinsOf(3));
        due("the chest", 7, land.coinsOf(0));
        due("savedStates", 3, land.savedStates());
        losses();
        exactTax();
        LandQuarters grown = new LandQuarters();
        grown.setTax(9);
        for (int i = 0; i < 15; i++) {
            grown.grant(i, i, 1, 1);
        }
        due("11 plots can be paid", 99, grown.collectTaxes());
        due("plotsLost", 4, grown.plotsLost());
        due("the last ones are lost", 0, grown.ownerAt(11, 11));
        due("the first ones stay", 1, grown.ownerAt(10, 10));
        due("the common grows together", 8, largestCommon(grown));
        due("1 coin can pay none", 0, grown.collectTaxes());
        due("plotsLost then", 15, grown.plotsLost());
        due("all common", 1, grown.plots());
        due("1 coin is left", 1, grown.coinsOf(1));
    }

    private static void exactTax() {
        LandQuarters land = new LandQuarters();
        land.setTax(5);
        for (int i = 0; i < 20; i++) {
            land.grant(i % 10, i / 10 * 3, 1, 4);
        }
        due("plotsOf", 20, land.plotsOf(4));
        due("no loss for just enough coins", 0, land.lossesIfTaxed(4));
        due("all coins", 100, land.collectTaxes());
        due("plotsOf then", 20, land.plotsOf(4));
        due("plotsLost", 0, land.plotsLost());
        due("an empty purse", 0, land.coinsOf(4));
    }

    private static int largestCommon(LandQuarters land) {
        return land.plotSize(land.largestPlotOf(0));
    }

    private static void losses() {
        LandQuarters land = nested();
        land.setPrice(1);
        land.grant(0, 0, 4, 3);
        land.grant(12, 12, 1, 3);
        land.grant(8, 8, 1, 3);
        due("buySquare(3, 8, 0, 8)", 64, land.buySquare(3, 8, 0, 8));
        due("buySquare(3, 0, 8, 4)", 16, land.buySquare(3, 0, 8, 4));
        land.setTax(9);
        due("six plots of 1, one of 2, two of 3", 54 + 9 + 18, land.collectTaxes());
        due("plotsLost", 3, land.plotsLost());
        due("the cells are lost first, the last one before", 0, land.ownerAt(8, 8));
        due("the cell 12, 12", 0, land.ownerAt(12, 12));
        due("of the 4-plots the last one", 0, land.ownerAt(0, 8));
        due("the first 4-plot stays", 3, land.ownerAt(0, 0));
        due("the 8-plot stays", 3, land.ownerAt(8, 0));
        due("coins of 3", 2, land.coinsOf(3));
        land.setTax(0);
        due("no tax", 0, land.collectTaxes());
        due("no loss for no tax", 3, land.plotsLost());
    }

    private static void settings() {
        promise = "promise 8";
        LandQuarters land = new LandQuarters();
        due("setPrice(9)", 2, land.setPrice(9));
        due("price", 9, land.price());
        due("setPrice(1)", 9, land.setPrice(1));
        due("setPrice(1) again", 1, land.setPrice(1));
        due("savedStates", 3, land.savedStates());
        for (int bad : new int[] {-1, 0, 10, Integer.MIN_VALUE, Integer.MAX_VALUE}) {
            refused("setPrice " + bad, land, ARGUMENT, () -> land.setPrice(bad));
        }
        promise = "promise 9";
        due("setTax(9)", 1, land.setTax(9));
        due("tax", 9, land.tax());
        due("setTax(0)", 9, land.setTax(0));
        due("setTax(0) again", 0, land.setTax(0));
        due("savedStates", 6, land.savedStates());
        for (int bad : new int[] {-1, 10, Integer.MIN_VALUE, Integer.MAX_VALUE}) {
            refused("setTax " + bad, land, ARGUMENT, () -> land.setTax(bad));
        }
    }

    private static void buffer() {
        promise = "promises 10 to 12";
        LandQuarters land = new LandQuarters();
        for (int bad : new int[] {-1, 0, 32, 127, 128, 65536 + 't', Integer.MIN_VALUE, Integer.MAX_VALUE}) {
            refused("append " + bad, land, ARGUMENT, () -> land.append(bad));
        }
        for (int i = 1; i <= 60; i++) {
            due("append", i, land.append(i % 2 == 0 ? 33 : 126));
        }
        due("bufferLength", 60, land.bufferLength());
        refused("append to a full buffer", land, STATE, () -> land.append('t'));
        refused("append no character to a full buffer", land, ARGUMENT, () -> land.append(32));
        due("savedStates", 0, land.savedStates());
        due("clearBuffer", 60, land.clearBuffer());
        due("clearBuffer again", 0, land.clearBuffer());
        due("bufferLength after clearBuffer", 0, land.bufferLength());
        due("append then", 1, land.append('t'));
        due("savedStates then", 0, land.savedStates());
    }

    private static void firstError() {
        promise = "promise 13";
        String[] right = {"", "g", "gaa1=0", "gpp16=7", "gaa1", "gaa16", "gba2=1;", "rop8+1", "raa4-9", "raa16", "b1aa", "b7pp",
            "f1", "f9", "t", "t;t;t", "t;gaa1=0;f1;b1aa;raa16-1", "f5;"};
        for (String text : right) {
            due("firstError of " + text, text.length(), errorOf(text));
        }
        String[] wrongAtEnd = {"x", "G", ";", "1", "gq", "g1", "gaq", "gaA", "gaa0", "gaa3", "gaa5", "gaa6", "gaa7", "gaa9",
            "gaa=", "gaa11", "gaa12", "gaa1+", "gaa1-", "gaa1;", "gaa21", "gaa26", "gaa166", "gaa16+", "gaa1=8", "gaa1=9",
            "gaa1==", "gaa1=a", "gaa1=12", "gaa1=1t", "ra0", "raa1=", "raa16=", "raa1+0", "raa1-0", "raa1+:", "raa8+-",
            "raa4+12", "raa16-1g", "b0", "b8", "ba", "b1q", "b1aq", "b1aa1", "b1aag", "f0", "fa", "f10", "f1f", "tt", "t1",
            "t;;", "t;x", "t!", "t;f1,", "gaa1=/", "g`", "b1`", "ga`"};
        for (String text : wrongAtEnd) {
            due("firstError of " + text, text.length() - 1, errorOf(text));
            due("firstError of more than " + text, text.length() - 1, errorOf(text + ";t"));
        }
        LandQuarters land = new LandQuarters();
        write(land, "t;x");
        write(land, "t");
        due("no error of the text before", 1, land.firstError());
        due("no deed of the text before", 1, land.carryOut());
    }

    private static void carryOut() {
        promise = "promise 14";
        LandQuarters land = new LandQuarters();
        write(land, "gee4=1;rff1-2;b2ff;f4;t");
        due("five deeds", 5, land.carryOut());
        due("bufferLength", 0, land.bufferLength());
        due("savedStates", 1, land.savedStates());
        due("floods", 1, land.floods());
        due("coins of 1", 132, land.coinsOf(1));
        due("coins of 2, who pays 32 and taxes for 6 plots", 62, land.coinsOf(2));
        due("the low cell", 0, land.ownerAt(5, 5));
        due("undo", 0, land.undo());
        due("all undone", 1, land.plots());
        due("the buffer stays empty", 0, land.bufferLength());
        write(land, "raa16+9;gab2=1;t");
        due("up to a deed that would throw", 1, land.carryOut());
        due("the first deed stands", 9.0, land.meanHeight());
        write(land, "rba2+1");
        due("no deed at all", 0, land.carryOut());
        due("savedStates", 2, land.savedStates());
        due("bufferLength", 0, land.bufferLength());
        write(land, "b1aa;t");
        due("too dear", 0, land.carryOut());
        write(land, "gaa1=3;b3aa;t");
        due("one's own", 1, land.carryOut());
        write(land, "gpp1=7;gpo1=6;raa1-9;rpp1-1;roo2-1;raa16+1;gaa1=0;b7po");
        due("all kinds", 8, land.carryOut());
        carryOutSizes();
        wrongTexts();
    }

    private static void carryOutSizes() {
        LandQuarters land = new LandQuarters();
        write(land, "gic4=1");
        due("a corner that does not fit", 0, land.carryOut());
        write(land, "gie4=5;gci2=4;gai1=3;gip1=2;gia8=1;gii8=6");
        due("sizes 1 to 8", 6, land.carryOut());
        due("area of 1", 64, land.areaByCells(1));
        due("area of 2", 0, land.areaByCells(2));
        due("area of 3", 1, land.areaByCells(3));
        due("area of 4", 4, land.areaByCells(4));
        due("area of 5", 0, land.areaByCells(5));
        due("area of 6", 64, land.areaByCells(6));
        due("x before y", 3, land.ownerAt(0, 8));
        write(land, "gaa16=7;t;gaa16=0");
        due("size 16", 3, land.carryOut());
        due("tax of one plot", 99, land.coinsOf(7));
        StringBuilder longest = new StringBuilder("f9");
        for (int i = 0; i < 29; i++) {
            longest.append(";t");
        }
        write(land, longest.toString());
        due("60 characters", 30, land.carryOut());
    }

    private static void wrongTexts() {
        String[] texts = {"", "g", "gaa1=", "t;", "t;x", "tt", "gaa1", "f", "b1a", "raa1+", "f1;g", ";t", "f0"};
        for (String text : texts) {
            LandQuarters land = new LandQuarters();
            write(land, text);
            refused("carryOut of " + text, land, ARGUMENT, () -> land.carryOut());
        }
    }

    private static void undo() {
        promise = "promises 15 and 16";
        LandQuarters land = nested();
        land.raise(0, 0, 1, 4);
        land.setTax(3);
        land.buyPlot(2, 4, 4);
        due("savedStates", 5, land.savedStates());
        land.flood(9);
        due("floods", 1, land.floods());
        due("undo the flood", 5, land.undo());
        due("floods then", 0, land.floods());
        due("owner then", 2, land.ownerAt(4, 4));
        due("undo the sale", 4, land.undo());
        due("purse", 100, land.coinsOf(2));
        due("sales", 0, land.sales());
        due("undo the tax", 3, land.undo());
        due("tax", 1, land.tax());
        due("undo the raise", 2, land.undo());
        due("height", 5, land.heightAt(0, 0));
        due("undo a grant", 1, land.undo());
        due("plots", 7, land.plots());
        due("undo the first", 0, land.undo());
        due("plots at first", 1, land.plots());
        refused("undo without states", land, STATE, () -> land.undo());
        for (int price = 1; price <= 9; price++) {
            land.setPrice(price);
            due("savedStates", Math.min(price, 6), land.savedStates());
        }
        for (int left = 5; left >= 0; left--) {
            due("undo", left, land.undo());
            due("price", 3 + left, land.price());
        }
        refused("the oldest states are dropped", land, STATE, () -> land.undo());
        due("a state after all undone", 3, land.setPrice(8));
        due("undo it", 0, land.undo());
        due("the price before", 3, land.price());
    }

    private static void undoOfEach() {
        promise = "promise 15";
        LandQuarters land = nested();
        land.setTax(9);
        land.setPrice(9);
        land.buySquare(3, 5, 5, 1);
        land.collectTaxes();
        due("undo taxes", 5, land.undo());
        due("chest", 0, land.coinsOf(0));
        due("purse", 91, land.coinsOf(3));
        due("undo buySquare", 4, land.undo());
        due("owner", 2, land.ownerAt(5, 5));
        due("undo setPrice", 3, land.undo());
        due("price", 2, land.price());
        land.keep(0);
        due("keep saves nothing", 3, land.savedStates());
        land.append('t');
        due("append saves nothing", 3, land.savedStates());
        land.undo();
        due("the buffer is no state", 1, land.bufferLength());
        land.goBack(0);
        due("goBack saves the state", 3, land.savedStates());
        due("tax", 9, land.tax());
        land.undo();
        due("tax before", 1, land.tax());
        lostPlotsUndone();
    }

    private static void lostPlotsUndone() {
        LandQuarters land = new LandQuarters();
        land.setTax(9);
        for (int i = 0; i < 12; i++) {
            land.grant(i, 0, 1, 1);
        }
        land.grant(1, 1, 1, 2);
        land.collectTaxes();
        int lost = land.plotsLost();
        due("twelve plots less eleven", 1, lost);
        land.undo();
        due("plotsLost", 0, land.plotsLost());
        due("the cell is back", 1, land.ownerAt(11, 0));
    }

    private static void snapshots() {
        promise = "promises 17 and 18";
        LandQuarters land = nested();
        due("keep(0)", 13, land.keep(0));
        land.grant(0, 0, 16, 4);
        due("keep(1)", 1, land.keep(1));
        due("goBack(0)", 13, land.goBack(0));
        due("owner", 2, land.ownerAt(5, 5));
        due("savedStates", 4, land.savedStates());
        due("goBack(1)", 1, land.goBack(1));
        due("the slot keeps it", 13, land.goBack(0));
        land.grant(0, 0, 16, 5);
        due("the slot is no part of the land", 13, land.goBack(0));
        due("savedStates", 6, land.savedStates());
        due("undo", 5, land.undo());
        due("owner before goBack", 5, land.ownerAt(0, 0));
        due("keep(0) again", 1, land.keep(0));
        land.goBack(1);
        due("owner of slot 1", 4, land.ownerAt(0, 0));
        land.goBack(0);
        due("the snapshot is replaced", 5, land.ownerAt(0, 0));
        land.append('g');
        due("goBack leaves the buffer", 1, land.goBack(0));
        due("bufferLength", 1, land.bufferLength());
        LandQuarters empty = new LandQuarters();
        empty.keep(0);
        refused("an empty slot", empty, STATE, () -> empty.goBack(1));
        for (int bad : new int[] {-1, 2, Integer.MIN_VALUE, Integer.MAX_VALUE}) {
            refused("keep " + bad, empty, INDEX, () -> empty.keep(bad));
            refused("goBack " + bad, empty, INDEX, () -> empty.goBack(bad));
        }
    }

    private static void cells() {
        promise = "promises 19 to 23";
        LandQuarters land = nested();
        land.raise(2, 1, 1, -2);
        due("ownerAt(4, 5)", 1, land.ownerAt(4, 5));
        due("ownerAt(5, 5)", 2, land.ownerAt(5, 5));
        due("ownerAt(8, 4)", 0, land.ownerAt(8, 4));
        due("heightAt(2, 1)", 3, land.heightAt(2, 1));
        due("heightAt(1, 2)", 5, land.heightAt(1, 2));
        due("plotSizeAt(4, 4)", 1, land.plotSizeAt(4, 4));
        due("plotSizeAt(7, 5)", 2, land.plotSizeAt(7, 5));
        due("plotSizeAt(3, 3)", 4, land.plotSizeAt(3, 3));
        due("plotSizeAt(8, 7)", 8, land.plotSizeAt(8, 7));
        due("plotRankAt(0, 0)", 0, land.plotRankAt(0, 0));
        due("plotRankAt(7, 3)", 1, land.plotRankAt(7, 3));
        due("plotRankAt(3, 7)", 2, land.plotRankAt(3, 7));
        due("plotRankAt(5, 4)", 4, land.plotRankAt(5, 4));
        due("plotRankAt(4, 5)", 5, land.plotRankAt(4, 5));
        due("plotRankAt(7, 7)", 9, land.plotRankAt(7, 7));
        due("plotRankAt(15, 0)", 10, land.plotRankAt(15, 0));
        due("plotRankAt(0, 15)", 11, land.plotRankAt(0, 15));
        due("plotRankAt(15, 15)", 12, land.plotRankAt(15, 15));
        due("plotPriceAt(6, 4)", 8, land.plotPriceAt(6, 4));
        land.setPrice(9);
        due("plotPriceAt(15, 15)", 576, land.plotPriceAt(15, 15));
        due("plotPriceAt(5, 5)", 9, land.plotPriceAt(5, 5));
        for (int bad : OUTSIDE) {
            LandQuarters fresh = nested();
            refused("ownerAt x " + bad, fresh, INDEX, () -> fresh.ownerAt(bad, 0));
            refused("ownerAt y " + bad, fresh, INDEX, () -> fresh.ownerAt(0, bad));
            refused("heightAt x " + bad, fresh, INDEX, () -> fresh.heightAt(bad, 0));
            refused("heightAt y " + bad, fresh, INDEX, () -> fresh.heightAt(0, bad));
            LandQuarters other = nested();
            refused("plotSizeAt x " + bad, other, INDEX, () -> other.plotSizeAt(bad, 0));
            refused("plotSizeAt y " + bad, other, INDEX, () -> other.plotSizeAt(0, bad));
            refused("plotRankAt x " + bad, other, INDEX, () -> other.plotRankAt(bad, 0));
            refused("plotRankAt y " + bad, other, INDEX, () -> other.plotRankAt(0, bad));
            refused("plotPriceAt x " + bad, other, INDEX, () -> other.plotPriceAt(bad, 0));
            refused("plotPriceAt y " + bad, other, INDEX, () -> other.plotPriceAt(0, bad));
        }
    }

    private static void plots() {
        promise = "promises 24 to 28";
        LandQuarters land = nested();
        int[][] want = {{0, 0, 0, 4}, {0, 4, 0, 4}, {0, 0, 4, 4}, {1, 4, 4, 1}, {1, 5, 4, 1}, {1, 4, 5, 1}, {2, 5, 5, 1},
            {1, 6, 4, 2}, {1, 4, 6, 2}, {1, 6, 6, 2}, {0, 8, 0, 8}, {0, 0, 8, 8}, {0, 8, 8, 8}};
        due("plots", want.length, land.plots());
        for (int rank = 0; rank < want.length; rank++) {
            due("plotOwner " + rank, want[rank][0], land.plotOwner(rank));
            due("plotX " + rank, want[rank][1], land.plotX(rank));
            due("plotY " + rank, want[rank][2], land.plotY(rank));
            due("plotSize " + rank, want[rank][3], land.plotSize(rank));
        }
        for (int bad : new int[] {-1, 13, 256, Integer.MIN_VALUE, Integer.MAX_VALUE}) {
            refused("plotOwner " + bad, land, INDEX, () -> land.plotOwner(bad));
            refused("plotX " + bad, land, INDEX, () -> land.plotX(bad));
            LandQuarters fresh = nested();
            refused("plotY " + bad, fresh, INDEX, () -> fresh.plotY(bad));
            refused("plotSize " + bad, fresh, INDEX, () -> fresh.plotSize(bad));
        }
        land.grant(5, 5, 1, 1);
        due("four quarters of one owner are one plot", 7, land.plots());
        land.grant(4, 4, 4, 0);
        due("the whole land is one plot", 1, land.plots());
        everyCellAPlot();
    }

    private static void everyCellAPlot() {
        LandQuarters land = new LandQuarters();
        for (int y = 0; y < 16; y++) {
            for (int x = 0; x < 16; x++) {
                if ((x + y) % 2 == 0) {
                    land.grant(x, y, 1, 1 + (x + y) % 7);
                }
            }
        }
        due("a plot for each cell", 256, land.plots());
        due("last plot x", 15, land.plotX(255));
        due("last plot y", 15, land.plotY(255));
        due("second plot x", 1, land.plotX(1));
        due("third plot y", 1, land.plotY(2));
        due("all fences of the common", 480, land.fenceByPlots(0));
        due("all fences of the common, by cells", 480, land.fenceByCells(0));
        refused("plotSize(256)", land, INDEX, () -> land.plotSize(256));
    }

    private static void owners() {
        promise = "promises 29 to 37";
        LandQuarters land = nested();
        due("plotsOf(0)", 6, land.plotsOf(0));
        due("plotsOf(1)", 6, land.plotsOf(1));
        due("plotsOf(2)", 1, land.plotsOf(2));
        due("plotsOf(7)", 0, land.plotsOf(7));
        due("areaByPlots(0)", 240, land.areaByPlots(0));
        due("areaByPlots(1)", 15, land.areaByPlots(1));
        due("areaByPlots(7)", 0, land.areaByPlots(7));
        due("areaByCells(0)", 240, land.areaByCells(0));
        due("areaByCells(1)", 15, land.areaByCells(1));
        due("areaByCells(7)", 0, land.areaByCells(7));
        due("fenceByPlots(0)", 16, land.fenceByPlots(0));
        due("fenceByPlots(1)", 20, land.fenceByPlots(1));
        due("fenceByPlots(2)", 4, land.fenceByPlots(2));
        due("fenceByPlots(7)", 0, land.fenceByPlots(7));
        due("fenceByCells(0)", 16, land.fenceByCells(0));
        due("fenceByCells(1)", 20, land.fenceByCells(1));
        due("fenceByCells(2)", 4, land.fenceByCells(2));
        due("fenceByCells(7)", 0, land.fenceByCells(7));
        due("fenceBetween(0, 1)", 16, land.fenceBetween(0, 1));
        due("fenceBetween(1, 0)", 16, land.fenceBetween(1, 0));
        due("fenceBetween(1, 2)", 4, land.fenceBetween(1, 2));
        due("fenceBetween(0, 2)", 0, land.fenceBetween(0, 2));
        due("fenceBetween(1, 1)", 0, land.fenceBetween(1, 1));
        due("largestPlotOf(0)", 10, land.largestPlotOf(0));
        due("largestPlotOf(1)", 7, land.largestPlotOf(1));
        due("largestPlotOf(2)", 6, land.largestPlotOf(2));
        due("largestPlotOf(3)", -1, land.largestPlotOf(3));
        due("firstToLose(1)", 5, land.firstToLose(1));
        due("firstToLose(2)", 6, land.firstToLose(2));
        due("firstToLose(3)", -1, land.firstToLose(3));
        due("coinsOf(7)", 100, land.coinsOf(7));
        LandQuarters whole = new LandQuarters();
        whole.grant(0, 0, 16, 6);
        due("firstToLose of the whole land", 0, whole.firstToLose(6));
        due("largestPlotOf the whole land", 0, whole.largestPlotOf(6));
        due("no fence at the rim", 0, whole.fenceByPlots(6));
        due("no fence at the rim, by cells", 0, whole.fenceByCells(6));
        due("areaByPlots of the whole land", 256, whole.areaByPlots(6));
        corners();
        wrongOwners();
    }

    private static void corners() {
        LandQuarters land = new LandQuarters();
        land.grant(0, 0, 1, 1);
        land.grant(15, 0, 1, 2);
        land.grant(0, 15, 1, 3);
        land.grant(15, 15, 1, 4);
        for (int person = 1; person <= 4; person++) {
            due("a corner's fence " + person, 2, land.fenceByPlots(person));
            due("a corner's fence, by cells " + person, 2, land.fenceByCells(person));
        }
        due("fences of the common", 8, land.fenceByPlots(0));
        due("fences of the common, by cells", 8, land.fenceByCells(0));
    }

    private static void wrongOwners() {
        for (int bad : NO_OWNERS) {
            LandQuarters land = nested();
            refused("plotsOf " + bad, land, INDEX, () -> land.plotsOf(bad));
            refused("areaByPlots " + bad, land, INDEX, () -> land.areaByPlots(bad));
            refused("areaByCells " + bad, land, INDEX, () -> land.areaByCells(bad));
            refused("fenceByPlots " + bad, land, INDEX, () -> land.fenceByPlots(bad));
            refused("fenceByCells " + bad, land, INDEX, () -> land.fenceByCells(bad));
            LandQuarters other = nested();
            refused("fenceBetween owner " + bad, other, INDEX, () -> other.fenceBetween(bad, 0));
            refused("fenceBetween other " + bad, other, INDEX, () -> other.fenceBetween(0, bad));
            refused("fenceBetween both " + bad, other, INDEX, () -> other.fenceBetween(bad, bad));
            refused("largestPlotOf " + bad, other, INDEX, () -> other.largestPlotOf(bad));
            refused("coinsOf " + bad, other, INDEX, () -> other.coinsOf(bad));
        }
        for (int bad : NO_PERSONS) {
            LandQuarters land = nested();
            refused("firstToLose " + bad, land, INDEX, () -> land.firstToLose(bad));
            refused("lossesIfTaxed " + bad, land, INDEX, () -> land.lossesIfTaxed(bad));
        }
    }

    private static void accountsOfAll() {
        promise = "promises 38 to 42";
        LandQuarters land = nested();
        land.setPrice(3);
        land.setTax(9);
        due("price", 3, land.price());
        due("tax", 9, land.tax());
        land.buyPlot(3, 5, 5);
        land.buySquare(4, 0, 0, 1);
        due("sales", 2, land.sales());
        land.flood(1);
        land.flood(1);
        due("floods", 2, land.floods());
        write(land, "f1;b5pp;b5ee");
        land.carryOut();
        due("floods of texts", 3, land.floods());
        due("a sale that would throw is none", 2, land.sales());
        write(land, "b5ee");
        land.carryOut();
        due("sales of texts", 3, land.sales());
        due("plotsLost", 0, land.plotsLost());
        for (int i = 0; i < 15; i++) {
            land.grant(i, 15 - i, 1, 6);
        }
        write(land, "t");
        land.carryOut();
        due("plotsLost of texts", 4, land.plotsLost());
        due("grants are no sales", 3, land.sales());
    }

    private static void whatWouldBe() {
        promise = "promises 43 to 47";
        LandQuarters land = new LandQuarters();
        land.grant(0, 0, 8, 1);
        land.raise(0, 0, 2, -3);
        land.raise(8, 8, 1, -5);
        due("lowCells(1, 2)", 0, land.lowCells(1, 2));
        due("lowCells(1, 3)", 4, land.lowCells(1, 3));
        due("lowCells(1, 5)", 4, land.lowCells(1, 5));
        due("lowCells(1, 6)", 64, land.lowCells(1, 6));
        due("lowCells(0, 1)", 1, land.lowCells(0, 1));
        due("lowCells(7, 10)", 0, land.lowCells(7, 10));
        String before = accounts(land);
        due("plotsIfFlooded(1)", 4, land.plotsIfFlooded(1));
        due("plotsIfFlooded(3)", 10, land.plotsIfFlooded(3));
        due("plotsIfFlooded(10)", 1, land.plotsIfFlooded(10));
        due("nothing changes", before, accounts(land));
        due("plots", 4, land.plots());
        due("meanHeight", (1280.0 - 12 - 5) / 256.0, land.meanHeight());
        for (int bad : NO_LEVELS) {
            LandQuarters fresh = nested();
            refused("lowCells level " + bad, fresh, ARGUMENT, () -> fresh.lowCells(0, bad));
            refused("lowCells owner before level " + bad, fresh, INDEX, () -> fresh.lowCells(8, bad));
            refused("plotsIfFlooded " + bad, fresh, ARGUMENT, () -> fresh.plotsIfFlooded(bad));
        }
        for (int bad : NO_OWNERS) {
            LandQuarters fresh = nested();
            refused("lowCells owner " + bad, fresh, INDEX, () -> fresh.lowCells(bad, 1));
            refused("nearestNeighbour " + bad, fresh, INDEX, () -> fresh.nearestNeighbour(bad));
        }
        lossesIfTaxed();
        nearestNeighbour();
    }

    private static void lossesIfTaxed() {
        LandQuarters land = new LandQuarters();
        for (int i = 0; i < 15; i++) {
            land.grant(i, i, 1, 1);
        }
        due("15 plots for 15 coins", 0, land.lossesIfTaxed(1));
        land.setTax(6);
        due("15 plots for 90 coins", 0, land.lossesIfTaxed(1));
        land.setTax(7);
        due("14 plots for 98 coins", 1, land.lossesIfTaxed(1));
        land.setTax(9);
        due("11 plots for 99 coins", 4, land.lossesIfTaxed(1));
        due("no plots", 0, land.lossesIfTaxed(2));
        due("nothing is lost", 15, land.plotsOf(1));
        due("plotsLost", 0, land.plotsLost());
        land.collectTaxes();
        due("all with one coin", 11, land.lossesIfTaxed(1));
        land.setTax(0);
        due("no tax", 0, land.lossesIfTaxed(1));
    }

    private static void nearestNeighbour() {
        LandQuarters land = nested();
        due("nearestNeighbour(0)", 1, land.nearestNeighbour(0));
        due("nearestNeighbour(1)", 0, land.nearestNeighbour(1));
        due("nearestNeighbour(2)", 1, land.nearestNeighbour(2));
        due("nearestNeighbour(3)", -1, land.nearestNeighbour(3));
        land.grant(0, 0, 16, 7);
        due("no fence", -1, land.nearestNeighbour(7));
        land.grant(8, 0, 8, 3);
        land.grant(0, 8, 8, 2);
        due("of several the lowest", 2, land.nearestNeighbour(7));
        land.grant(8, 8, 8, 6);
        due("of 2 the lowest", 6, land.nearestNeighbour(2));
        land.grant(4, 4, 1, 2);
        land.grant(8, 8, 2, 2);
        due("the longest", 7, land.nearestNeighbour(2));
        LandQuarters corner = new LandQuarters();
        corner.grant(0, 0, 1, 1);
        corner.grant(1, 0, 1, 3);
        corner.grant(0, 1, 1, 2);
        due("fences of the length 1", 2, corner.nearestNeighbour(1));
    }

    public static void main(String[] args) {
        newObject();
        grant();
        raise();
        flood();
        buyPlot();
        buySquare();
        collectTaxes();
        settings();
        buffer();
        firstError();
        carryOut();
        undo();
        undoOfEach();
        snapshots();
        cells();
        plots();
        owners();
        accountsOfAll();
        whatWouldBe();
        System.out.println(wrong == 0 ? "all answers are as due" : wrong + " answers are not as due");
        if (wrong != 0) {
            System.exit(1);
        }
    }
}
