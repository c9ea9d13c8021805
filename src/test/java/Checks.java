import java.util.ArrayList;
import java.util.HashMap;
import java.util.List;
import java.util.Map;
import java.util.Objects;

/** What the tests share: answers that are due, calls that are refused, and pictures of a land to compare. */
final class Checks {
    /** Makes the same land each time, in at most 200 calls: an object has no more than 512, and a picture takes up to 300. */
    interface Maker {
        LandQuarters make();
    }

    interface Call {
        Object on(LandQuarters land);
    }

    interface NumberCall {
        Object on(LandQuarters land, int number);
    }

    static final Class<?> INDEX = IndexOutOfBoundsException.class;
    static final Class<?> ARGUMENT = IllegalArgumentException.class;
    static final Class<?> STATE = IllegalStateException.class;

    static final Maker NEW = LandQuarters::new;
    static final Maker WORKED = Checks::worked;
    static final Maker QUARTERED = Checks::quartered;
    static final Maker CHECKERED = Checks::checkered;
    static final int WORKED_PLOTS = 37;
    static final int CHECKERED_PLOTS = 256;

    private static final Map<Maker, List<String>> PICTURES = new HashMap<>();

    private static int wrong = 0;
    private static String sentence = "";

    private Checks() {
    }

    /** The sentence of the document that the checks after it are about. */
    static void sentence(String words) {
        sentence = words;
    }

    static void due(String what, Object want, Object got) {
        if (!Objects.equals(want, got)) {
            wrong++;
            System.out.println("\"" + sentence + "\": " + what + " answered " + got + ", due is " + want);
        }
    }

    /** The answer of a call, or the class of what it throws. */
    static Object answer(LandQuarters land, Call call) {
        try {
            return call.on(land);
        } catch (RuntimeException e) {
            return e.getClass();
        }
    }

    static void answered(String what, LandQuarters land, Call call) {
        Object got = answer(land, call);
        due(what + " is answered", true, got instanceof Number);
    }

    /** The call throws just this, and each part of the land's picture is then as if it had not been made. */
    static void refused(String what, Maker maker, Class<?> kind, Call call) {
        List<String> before = picturesOf(maker);
        for (int part = 0; part < PARTS; part++) {
            LandQuarters land = maker.make();
            due(what, kind, answer(land, call));
            due("part " + part + " of the land after " + what, before.get(part), picture(land, part));
        }
    }

    /** The same on a land at hand, of whose calls it takes some fifty: its accounts are then as before. */
    static void refusedHere(String what, LandQuarters land, Class<?> kind, Call call) {
        String before = accounts(land);
        int saved = land.savedStates();
        int length = land.bufferLength();
        due(what, kind, answer(land, call));
        due("the accounts after " + what, before, accounts(land));
        due("savedStates after " + what, saved, land.savedStates());
        due("bufferLength after " + what, length, land.bufferLength());
    }

    /** A range of an argument: just inside all is well, just outside and far outside the call is refused. */
    static void range(String what, int low, int high, Class<?> kind, Maker maker, NumberCall call) {
        for (int inside : new int[] {low, high}) {
            answered(what + " " + inside, maker.make(), land -> call.on(land, inside));
        }
        for (int outside : outside(low, high)) {
            refused(what + " " + outside, maker, kind, land -> call.on(land, outside));
        }
    }

    /** Beside the next numbers and the extreme ones those that a narrower type would take for the bounds. */
    static int[] outside(int low, int high) {
        return new int[] {low - 1, high + 1, Integer.MIN_VALUE, Integer.MAX_VALUE, low + 256, high - 256, low + 65536, high - 65536};
    }

    /** Both makers make lands that no call can tell apart. */
    static void same(String what, Maker want, Maker got) {
        for (int part = 0; part < PARTS; part++) {
            due("part " + part + " of the land, " + what, picture(want.make(), part), picture(got.make(), part));
        }
    }

    private static List<String> picturesOf(Maker maker) {
        List<String> pictures = PICTURES.get(maker);
        if (pictures == null) {
            pictures = new ArrayList<>();
            for (int part = 0; part < PARTS; part++) {
                pictures.add(picture(maker.make(), part));
            }
            PICTURES.put(maker, pictures);
        }
        return pictures;
    }

    /** A picture has parts, each from an object of its own, since an object has no more than 512 calls. */
    private static final int PARTS = 3;

    private static String picture(LandQuarters land, int part) {
        StringBuilder told = new StringBuilder();
        if (part == 2) {
            tellAll(land, told);
            return told.toString();
        }
        for (int cell = 0; cell < 256; cell++) {
            told.append(part == 0 ? land.ownerAt(cell % 16, cell / 16) : land.heightAt(cell % 16, cell / 16));
        }
        return told.toString();
    }

    /** The accounts, the buffer, the saved states from the last to the first, and the snapshots. */
    private static void tellAll(LandQuarters land, StringBuilder told) {
        tellAccounts(land, told);
        told.append(" saved ").append(land.savedStates());
        told.append(" text ").append(land.bufferLength()).append(' ').append(land.firstError());
        told.append(' ').append(answer(land, LandQuarters::carryOut)).append(' ').append(land.clearBuffer());
        tellAccounts(land, told);
        for (int i = 0; i < 7; i++) {
            told.append(" undo ").append(answer(land, LandQuarters::undo));
            tellAccounts(land, told);
        }
        for (int slot = 0; slot < 2; slot++) {
            int chosen = slot;
            told.append(" slot ").append(answer(land, l -> l.goBack(chosen)));
            tellAccounts(land, told);
        }
    }

    static String accounts(LandQuarters land) {
        StringBuilder told = new StringBuilder();
        tellAccounts(land, told);
        return told.toString();
    }

    private static void tellAccounts(LandQuarters land, StringBuilder told) {
        for (int owner = 0; owner < 8; owner++) {
            told.append(' ').append(land.coinsOf(owner)).append('/').append(land.areaByCells(owner));
        }
        told.append(' ').append(land.plots()).append(' ').append(land.price()).append(' ').append(land.tax());
        told.append(' ').append(land.sales()).append(' ').append(land.floods()).append(' ').append(land.plotsLost());
        told.append(' ').append(land.meanHeight());
    }

    static void write(LandQuarters land, String text) {
        for (int i = 0; i < text.length(); i++) {
            land.append(text.charAt(i));
        }
    }

    static LandQuarters written(String text) {
        LandQuarters land = new LandQuarters();
        write(land, text);
        return land;
    }

    /** Every part of the state and more than it is other than at first: six saved states, two snapshots, a text. */
    static LandQuarters worked() {
        LandQuarters land = new LandQuarters();
        land.grant(0, 0, 8, 1);
        land.grant(4, 4, 2, 2);
        land.raise(0, 8, 8, 2);
        land.raise(4, 4, 1, -5);
        for (int i = 0; i < 6; i++) {
            land.grant(10 + i, i, 1, 1);
        }
        land.keep(0);
        land.buyPlot(3, 4, 4);
        land.buySquare(4, 8, 8, 4);
        land.setPrice(3);
        land.flood(1);
        land.setTax(9);
        land.keep(1);
        land.collectTaxes();
        write(land, "gpp1=7;t");
        return land;
    }

    /** Four quarters, of the owners 1 to 4, that cost 64 coins each. */
    static LandQuarters quartered() {
        LandQuarters land = new LandQuarters();
        land.grant(0, 0, 8, 1);
        land.grant(8, 0, 8, 2);
        land.grant(0, 8, 8, 3);
        land.grant(8, 8, 8, 4);
        land.setPrice(1);
        return land;
    }

    /** Each cell is a plot: the upper left one is of the common, its neighbours of person 1, and so on. */
    static LandQuarters checkered() {
        LandQuarters land = new LandQuarters();
        for (int cell = 0; cell < 256; cell++) {
            if ((cell % 16 + cell / 16) % 2 == 1) {
                land.grant(cell % 16, cell / 16, 1, 1);
            }
        }
        return land;
    }

    static void end() {
        System.out.println(wrong == 0 ? "all answers are as due" : wrong + " answers are not as due");
        if (wrong != 0) {
            System.exit(1);
        }
    }
}
