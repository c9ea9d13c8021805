/** The edges of undo and snapshots: what saves a state, how many are saved, what they hold, and how long an object lasts. */
public final class UndoEdgesTest {
    private static final String TEXT = "gpp1=7";

    private static void noState() {
        Checks.sentence("if no state is saved");
        Checks.due("savedStates", 0, new LandQuarters().savedStates());
        Checks.refused("undo", Checks.NEW, Checks.STATE, LandQuarters::undo);
        Checks.refused("undo after the only one is undone", () -> {
            LandQuarters land = new LandQuarters();
            land.grant(0, 0, 4, 1);
            land.undo();
            return land;
        }, Checks.STATE, LandQuarters::undo);
        Checks.refused("undo after six are undone", () -> {
            LandQuarters land = Checks.worked();
            for (int i = 0; i < 6; i++) {
                land.undo();
            }
            return land;
        }, Checks.STATE, LandQuarters::undo);
    }

    /** Two saved states, slot 0 as the land is, slot 1 as it was at first, and a text in the buffer. */
    private static LandQuarters twoStates(String text) {
        LandQuarters land = new LandQuarters();
        land.keep(1);
        land.grant(0, 0, 4, 1);
        land.raise(0, 0, 2, -3);
        land.keep(0);
        Checks.write(land, text);
        return land;
    }

    private static void undoable(String what, Checks.Call call) {
        undoable(what, TEXT, TEXT, call);
    }

    private static void undoable(String what, String text, String textAfterwards, Checks.Call call) {
        Checks.sentence("Each method that is marked \"Undoable\" saves the state from before the call if it does not throw an"
            + " exception, even if nothing changes.");
        LandQuarters land = twoStates(text);
        Checks.answered(what, land, call);
        Checks.due("savedStates after " + what, 3, land.savedStates());
        Checks.sentence("Restores the state that was saved last, and removes it from the saved states.");
        Checks.due("undo of " + what, 2, land.undo());
        Checks.due("savedStates then", 2, land.savedStates());
        Checks.same("after " + what + " and undo", () -> twoStates(textAfterwards), () -> {
            LandQuarters undone = twoStates(text);
            call.on(undone);
            undone.undo();
            return undone;
        });
    }

    private static void undoableMethods() {
        undoable("grant", land -> land.grant(0, 8, 8, 3));
        undoable("grant for nothing", land -> land.grant(0, 0, 4, 1));
        undoable("raise", land -> land.raise(0, 0, 16, 1));
        undoable("raise by 0", land -> land.raise(0, 0, 16, 0));
        undoable("flood", land -> land.flood(3));
        undoable("flood for nothing", land -> land.flood(1));
        undoable("buyPlot", land -> land.buyPlot(2, 3, 3));
        undoable("buySquare", land -> land.buySquare(2, 3, 3, 1));
        undoable("collectTaxes", LandQuarters::collectTaxes);
        undoable("setPrice", land -> land.setPrice(9));
        undoable("setPrice for nothing", land -> land.setPrice(2));
        undoable("setTax", land -> land.setTax(9));
        undoable("setTax for nothing", land -> land.setTax(1));
        undoable("goBack", land -> land.goBack(1));
        undoable("goBack for nothing", land -> land.goBack(0));
        undoable("carryOut", "gpp1=7;t;f9", "", LandQuarters::carryOut);
        undoable("carryOut for nothing", "gbb2=7;t;f9", "", LandQuarters::carryOut);
    }

    private static void taxesForNothing() {
        Checks.sentence("saves the state from before the call if it does not throw an exception, even if nothing changes.");
        LandQuarters land = new LandQuarters();
        land.collectTaxes();
        Checks.due("savedStates", 1, land.savedStates());
        land.flood(10);
        Checks.due("savedStates", 2, land.savedStates());
        land.grant(0, 0, 16, 0);
        Checks.due("savedStates", 3, land.savedStates());
        Checks.due("undo", 2, land.undo());
        Checks.due("undo", 1, land.undo());
        Checks.due("floods", 0, land.floods());
        Checks.due("undo", 0, land.undo());
    }

    private static void lossesUndone() {
        Checks.sentence("The state consists of everything except the buffer, the saved states and the snapshots.");
        Checks.Maker before = () -> {
            LandQuarters land = new LandQuarters();
            land.setTax(9);
            for (int i = 0; i < 13; i++) {
                land.grant(i, i, 1, 1);
            }
            return land;
        };
        LandQuarters land = before.make();
        Checks.due("collectTaxes", 99, land.collectTaxes());
        Checks.due("plotsLost", 2, land.plotsLost());
        land.undo();
        Checks.due("all accounts after undo", Checks.accounts(before.make()), Checks.accounts(land));
        Checks.due("a cell that was lost", 1, land.ownerAt(12, 12));
    }

    private static void notUndoable(String what, Checks.Call call) {
        LandQuarters land = twoStates(TEXT);
        Checks.answered(what, land, call);
        Checks.due("savedStates after " + what, 2, land.savedStates());
        Checks.due("undo after " + what, 1, land.undo());
        Checks.due("what is undone is not " + what, 5, land.heightAt(0, 0));
    }

    private static void otherMethods() {
        Checks.sentence("Each method that is marked \"Undoable\" saves the state");
        notUndoable("append", land -> land.append('t'));
        notUndoable("clearBuffer", LandQuarters::clearBuffer);
        notUndoable("bufferLength", LandQuarters::bufferLength);
        notUndoable("firstError", LandQuarters::firstError);
        notUndoable("savedStates", LandQuarters::savedStates);
        notUndoable("keep(0)", land -> land.keep(0));
        notUndoable("keep(1)", land -> land.keep(1));
        notUndoable("plots", LandQuarters::plots);
        notUndoable("plotsIfFlooded", land -> land.plotsIfFlooded(10));
        notUndoable("lossesIfTaxed", land -> land.lossesIfTaxed(1));
        notUndoable("lowCells", land -> land.lowCells(1, 10));
        notUndoable("nearestNeighbour", land -> land.nearestNeighbour(1));
        notUndoable("meanHeight", LandQuarters::meanHeight);
        LandQuarters land = twoStates(TEXT);
        land.undo();
        Checks.due("undo saves nothing", 1, land.savedStates());
        Checks.due("undo again goes on", 0, land.undo());
    }

    /** The price tells the states apart: it takes turns from 1 to 9. */
    private static LandQuarters afterChanges(int number) {
        LandQuarters land = new LandQuarters();
        for (int i = 1; i <= number; i++) {
            land.setPrice(priceAfter(i));
            Checks.due("savedStates", Math.min(i, 6), land.savedStates());
        }
        return land;
    }

    private static int priceAfter(int changes) {
        return changes == 0 ? 2 : 1 + changes % 9;
    }

    private static void atMostSix() {
        Checks.sentence("At most 6 states are saved; when one more is saved, the oldest one is dropped.");
        for (int number : new int[] {1, 2, 5, 6, 7, 8, 11, 12, 13, 18, 19, 100, 200}) {
            LandQuarters land = afterChanges(number);
            int saved = Math.min(number, 6);
            for (int undone = 1; undone <= saved; undone++) {
                Checks.due("undo " + undone + " of " + number, saved - undone, land.undo());
                Checks.due("price after it", priceAfter(number - undone), land.price());
            }
            Checks.due("undo of one more", Checks.STATE, Checks.answer(land, LandQuarters::undo));
            Checks.due("price then", priceAfter(number - saved), land.price());
            land.setTax(7);
            Checks.due("a state is saved again", 1, land.savedStates());
            Checks.due("and undone", 0, land.undo());
            Checks.due("tax then", 1, land.tax());
        }
    }

    private static void savedAfterUndo() {
        Checks.sentence("At most 6 states are saved; when one more is saved, the oldest one is dropped.");
        for (int undone = 1; undone <= 6; undone++) {
            LandQuarters land = afterChanges(20);
            for (int i = 0; i < undone; i++) {
                land.undo();
            }
            for (int i = 1; i <= undone; i++) {
                land.setTax(i + 1);
                Checks.due("savedStates", 6 - undone + i, land.savedStates());
            }
            for (int i = undone; i >= 1; i--) {
                Checks.due("undo of a later change", 5 - undone + i, land.undo());
                Checks.due("tax", i, land.tax());
            }
            for (int i = undone + 1; i <= 6; i++) {
                Checks.due("undo of a change before", 6 - i, land.undo());
                Checks.due("price", priceAfter(20 - i), land.price());
            }
            Checks.due("undo of one more", Checks.STATE, Checks.answer(land, LandQuarters::undo));
        }
    }

    /** Deeds of all kinds; each is undone in turn, as long as its state is saved. */
    private static void sixOfAllKinds() {
        Checks.sentence("Restores the state that was saved last");
        Checks.Call[] calls = {land -> land.grant(0, 0, 8, 1), land -> land.setPrice(1), land -> land.buyPlot(2, 3, 3),
            land -> land.raise(0, 0, 1, -5), land -> land.buySquare(3, 4, 4, 2), land -> land.flood(1), land -> land.setTax(8),
            LandQuarters::collectTaxes, land -> land.goBack(0), LandQuarters::carryOut, land -> land.flood(9)};
        for (int made = 1; made <= calls.length; made++) {
            LandQuarters land = after(calls, made);
            for (int left = made - 1; left >= 0 && left >= made - 6; left--) {
                land.undo();
                LandQuarters want = after(calls, left);
                Checks.due("accounts after " + made + " calls, undone to " + left, Checks.accounts(want), Checks.accounts(land));
                for (int cell = 0; cell < 8; cell++) {
                    Checks.due("owner", want.ownerAt(cell, cell), land.ownerAt(cell, cell));
                    Checks.due("height", want.heightAt(cell, cell), land.heightAt(cell, cell));
                }
            }
        }
    }

    private static LandQuarters after(Checks.Call[] calls, int number) {
        LandQuarters land = new LandQuarters();
        land.keep(0);
        Checks.write(land, "gab1=6;raa16+2;t");
        for (int i = 0; i < number; i++) {
            calls[i].on(land);
        }
        return land;
    }

    private static void carryOutAsOneCall() {
        Checks.sentence("Undoable, as one call.");
        LandQuarters land = afterChanges(6);
        Checks.write(land, "t;t;t;t;t;t;t;gaa1=3");
        Checks.due("carryOut", 8, land.carryOut());
        Checks.due("savedStates", 6, land.savedStates());
        Checks.due("undo", 5, land.undo());
        Checks.due("all deeds are undone", 1, land.plots());
        Checks.due("the price is not", priceAfter(6), land.price());
        Checks.due("the buffer is empty", 0, land.bufferLength());
        for (int left = 4; left >= 0; left--) {
            Checks.due("undo", left, land.undo());
        }
        Checks.due("the oldest one is dropped", priceAfter(1), land.price());
    }

    private static void bufferIsNoState() {
        Checks.sentence("The state consists of everything except the buffer");
        LandQuarters land = new LandQuarters();
        Checks.write(land, "t;");
        land.keep(0);
        land.grant(0, 0, 4, 1);
        Checks.write(land, "f1");
        land.undo();
        Checks.due("bufferLength after undo", 4, land.bufferLength());
        land.goBack(0);
        Checks.due("bufferLength after goBack", 4, land.bufferLength());
        Checks.due("the text after both", 2, land.carryOut());
        land.undo();
        Checks.due("undo does not bring the text back", 0, land.bufferLength());
        land.goBack(0);
        Checks.due("nor does goBack", 0, land.bufferLength());
    }

    private static void emptySlots() {
        Checks.sentence("There are two snapshot slots, which are empty at first.");
        for (int slot = 0; slot <= 1; slot++) {
            int chosen = slot;
            Checks.refused("goBack(" + slot + ") at first", Checks.NEW, Checks.STATE, land -> land.goBack(chosen));
            Checks.refused("goBack(" + slot + ") with the other one full", () -> {
                LandQuarters land = new LandQuarters();
                land.grant(0, 0, 4, 1);
                land.keep(1 - chosen);
                land.grant(0, 0, 4, 2);
                return land;
            }, Checks.STATE, land -> land.goBack(chosen));
            LandQuarters land = new LandQuarters();
            Checks.due("keep(" + slot + ") at first", 1, land.keep(slot));
            Checks.due("savedStates", 0, land.savedStates());
            Checks.due("goBack then", 1, land.goBack(slot));
            Checks.due("savedStates then", 1, land.savedStates());
        }
    }

    private static void numbersOfPlots() {
        Checks.sentence("Returns the number of plots after the call.");
        LandQuarters land = new LandQuarters();
        Checks.due("keep of as few as there can be", 1, land.keep(0));
        LandQuarters checkered = Checks.checkered();
        Checks.due("keep of as many as there can be", 256, checkered.keep(1));
        checkered.grant(0, 0, 16, 5);
        Checks.due("keep", 1, checkered.keep(0));
        Checks.due("goBack", 256, checkered.goBack(1));
        Checks.due("plots", 256, checkered.plots());
        Checks.due("plotRankAt", 255, checkered.plotRankAt(15, 15));
        Checks.due("goBack", 1, checkered.goBack(0));
        Checks.due("plotOwner", 5, checkered.plotOwner(0));
        Checks.due("undo", 5, checkered.undo());
        Checks.due("plots after undo", 256, checkered.plots());
    }

    private static void replacedSnapshots() {
        Checks.sentence("Takes a snapshot of the state, which replaces the one in the slot.");
        LandQuarters land = new LandQuarters();
        land.setPrice(3);
        land.keep(0);
        land.keep(1);
        land.setPrice(4);
        land.keep(0);
        land.setPrice(5);
        land.goBack(1);
        Checks.due("price of slot 1", 3, land.price());
        land.goBack(0);
        Checks.due("price of slot 0, replaced", 4, land.price());
        land.keep(1);
        land.setPrice(6);
        land.goBack(1);
        Checks.due("price of slot 1, replaced", 4, land.price());
        Checks.sentence("Restores a snapshot, which stays in its slot.");
        for (int i = 0; i < 10; i++) {
            land.setPrice(7);
            land.goBack(0);
            Checks.due("price of slot 0", 4, land.price());
            land.setTax(i % 10);
            land.goBack(1);
            Checks.due("tax of slot 1", 1, land.tax());
        }
    }

    /** Neither undo nor saves that drop others touch the slots. */
    private static void snapshotsAreNoState() {
        Checks.sentence("The state consists of everything except the buffer, the saved states and the snapshots.");
        LandQuarters land = new LandQuarters();
        land.grant(0, 0, 4, 1);
        land.keep(0);
        land.undo();
        Checks.due("a snapshot that is newer than the state", 7, land.goBack(0));
        Checks.due("its owner", 1, land.ownerAt(3, 3));
        for (int i = 0; i < 20; i++) {
            land.setPrice(1 + i % 9);
        }
        land.flood(10);
        Checks.due("a snapshot after more saves than there can be", 7, land.goBack(0));
        Checks.due("its price", 2, land.price());
        Checks.due("its floods", 0, land.floods());
        Checks.due("savedStates", 6, land.savedStates());
        Checks.due("undo", 5, land.undo());
        Checks.due("floods before goBack", 1, land.floods());
        Checks.due("undo", 4, land.undo());
        Checks.due("price before", 2, land.price());
        Checks.due("undo", 3, land.undo());
        Checks.due("price before", 1, land.price());
    }

    private static void snapshotsHoldAll() {
        Checks.sentence("Takes a snapshot of the state");
        LandQuarters land = Checks.worked();
        land.clearBuffer();
        String accounts = Checks.accounts(land);
        land.keep(1);
        land.grant(0, 0, 16, 6);
        land.raise(0, 0, 16, 9);
        land.setPrice(8);
        land.setTax(0);
        land.flood(10);
        land.buySquare(2, 0, 0, 1);
        land.setTax(7);
        land.grant(15, 15, 1, 1);
        land.collectTaxes();
        Checks.due("sales, floods and plotsLost are others", 3 + 2 + 2, land.sales() + land.floods() + land.plotsLost());
        land.goBack(1);
        Checks.due("all accounts", accounts, Checks.accounts(land));
        LandQuarters want = Checks.worked();
        for (int i = 0; i < 16; i++) {
            Checks.due("owner", want.ownerAt(i, i), land.ownerAt(i, i));
            Checks.due("owner", want.ownerAt(i, 4), land.ownerAt(i, 4));
            Checks.due("height", want.heightAt(i, 15 - i), land.heightAt(i, 15 - i));
            Checks.due("height", want.heightAt(i, 4), land.heightAt(i, 4));
        }
    }

    /** Two lands side by side: what is saved, kept and written in one of them is nothing to the other. */
    private static void twoLands() {
        Checks.sentence("Creates a land that is common as a whole.");
        LandQuarters one = new LandQuarters();
        LandQuarters other = new LandQuarters();
        one.setPrice(3);
        other.setPrice(4);
        one.keep(0);
        Checks.due("goBack of the other", Checks.STATE, Checks.answer(other, land -> land.goBack(0)));
        other.setPrice(5);
        other.keep(0);
        one.setTax(2);
        one.goBack(0);
        Checks.due("price of one", 3, one.price());
        Checks.due("undo of the other", 1, other.undo());
        Checks.due("price of the other", 4, other.price());
        Checks.due("undo of one", 2, one.undo());
        Checks.due("tax of one", 2, one.tax());
        Checks.write(one, "gaa1=");
        Checks.write(other, "f5;t;");
        Checks.write(one, "3");
        Checks.due("bufferLength of one", 6, one.bufferLength());
        Checks.due("firstError of the other", 5, other.firstError());
        Checks.due("carryOut of one", 1, one.carryOut());
        Checks.due("owner in one", 3, one.ownerAt(0, 0));
        Checks.due("owner in the other", 0, other.ownerAt(0, 0));
        Checks.due("firstError of the other still", 5, other.firstError());
        Checks.due("plotsIfFlooded in one", 1, one.plotsIfFlooded(10));
        Checks.due("plots of one", 13, one.plots());
    }

    /** All 512 calls of an object are as the first ones. */
    private static void allCallsOfAnObject() {
        Checks.sentence("An object is used for at most 512 calls after it has been made");
        LandQuarters prices = new LandQuarters();
        for (int i = 1; i <= 512; i++) {
            Checks.due("setPrice, call " + i, priceAfter(i - 1), prices.setPrice(priceAfter(i)));
        }
        LandQuarters lastUndone = new LandQuarters();
        for (int i = 1; i <= 506; i++) {
            lastUndone.setPrice(priceAfter(i));
        }
        for (int i = 507; i <= 512; i++) {
            Checks.due("undo, call " + i, 512 - i, lastUndone.undo());
        }
        LandQuarters beforeThat = new LandQuarters();
        for (int i = 1; i <= 505; i++) {
            beforeThat.setPrice(priceAfter(i));
        }
        for (int i = 1; i <= 6; i++) {
            beforeThat.undo();
        }
        Checks.due("price, call 512", priceAfter(499), beforeThat.price());
        LandQuarters grants = new LandQuarters();
        for (int i = 1; i <= 512; i++) {
            Checks.due("grant, call " + i, 256, grants.grant(0, 0, 16, i % 8));
        }
        LandQuarters texts = new LandQuarters();
        for (int i = 1; i <= 256; i++) {
            Checks.due("append, call " + (2 * i - 1), 1, texts.append('t'));
            Checks.due("carryOut, call " + 2 * i, 1, texts.carryOut());
        }
        LandQuarters undone = new LandQuarters();
        for (int i = 1; i <= 256; i++) {
            Checks.due("flood, call " + (2 * i - 1), 0, undone.flood(10));
            Checks.due("undo, call " + 2 * i, 0, undone.undo());
        }
        LandQuarters refused = new LandQuarters();
        for (int i = 1; i <= 512; i++) {
            Checks.due("undo, call " + i, Checks.STATE, Checks.answer(refused, LandQuarters::undo));
        }
    }

    public static void main(String[] args) {
        noState();
        undoableMethods();
        taxesForNothing();
        lossesUndone();
        otherMethods();
        atMostSix();
        savedAfterUndo();
        sixOfAllKinds();
        carryOutAsOneCall();
        bufferIsNoState();
        emptySlots();
        numbersOfPlots();
        replacedSnapshots();
        snapshotsAreNoState();
        snapshotsHoldAll();
        twoLands();
        allCallsOfAnObject();
        Checks.end();
    }
}
