import java.lang.reflect.InvocationTargetException;
import java.lang.reflect.Method;
import java.util.ArrayDeque;
import java.util.ArrayList;
import java.util.Arrays;
import java.util.HashMap;
import java.util.List;
import java.util.Map;
import java.util.regex.Pattern;

/** Long runs of calls, each answer compared with that of a model which takes the document at its word. */
public final class ModelTest {
    private static final int RUNS = 500;
    private static final int CALLS = 512;
    private static final Map<String, Method> REAL = methodsOf(LandQuarters.class);
    private static final Map<String, Method> WANTED = methodsOf(Model.class);
    private static final String[] QUERIES = {"bufferLength", "firstError", "savedStates", "ownerAt", "heightAt", "plotSizeAt",
        "plotRankAt", "plotPriceAt", "plots", "plotOwner", "plotX", "plotY", "plotSize", "plotsOf", "areaByPlots", "areaByCells",
        "fenceByPlots", "fenceByCells", "fenceBetween", "largestPlotOf", "firstToLose", "coinsOf", "price", "tax", "sales",
        "floods", "plotsLost", "lowCells", "plotsIfFlooded", "lossesIfTaxed", "nearestNeighbour", "meanHeight"};
    private static final String[] DEEDS = {"grant", "grant", "grant", "grant", "raise", "raise", "flood", "buyPlot", "buyPlot",
        "buySquare", "buySquare", "buySquare", "collectTaxes", "collectTaxes", "setPrice", "setTax", "text", "text",
        "clearBuffer", "carryOut", "undo", "undo", "keep", "goBack"};
    private static final String CANDIDATES = "grbft;=+-0123456789abcdefghijklmnopqxz!~";

    /** A state of the land, with the rows as the document tells them. */
    private static final class State {
        int[][] owners = new int[16][16];
        int[][] heights = new int[16][16];
        int[] coins = {0, 100, 100, 100, 100, 100, 100, 100};
        int price = 2;
        int tax = 1;
        int sales;
        int floods;
        int lost;

        State copy() {
            State s = new State();
            for (int y = 0; y < 16; y++) {
                s.owners[y] = owners[y].clone();
                s.heights[y] = heights[y].clone();
            }
            s.coins = coins.clone();
            s.price = price;
            s.tax = tax;
            s.sales = sales;
            s.floods = floods;
            s.lost = lost;
            return s;
        }

        boolean uniform(int x, int y, int size) {
            for (int i = 0; i < size * size; i++) {
                if (owners[y + i / size][x + i % size] != owners[y][x]) {
                    return false;
                }
            }
            return true;
        }

        void fill(int x, int y, int size, int owner) {
            for (int i = 0; i < size * size; i++) {
                owners[y + i / size][x + i % size] = owner;
            }
        }

        /** Each plot as x, y, size, owner. */
        List<int[]> plots() {
            List<int[]> found = new ArrayList<>();
            divide(0, 0, 16, found);
            return found;
        }

        private void divide(int x, int y, int size, List<int[]> found) {
            if (uniform(x, y, size)) {
                found.add(new int[] {x, y, size, owners[y][x]});
                return;
            }
            int half = size / 2;
            divide(x, y, half, found);
            divide(x + half, y, half, found);
            divide(x, y + half, half, found);
            divide(x + half, y + half, half, found);
        }

        int count(int owner) {
            int count = 0;
            for (int[] plot : plots()) {
                count += plot[3] == owner ? 1 : 0;
            }
            return count;
        }

        int firstToLose(int person) {
            List<int[]> plots = plots();
            for (int size = 1; size <= 16; size *= 2) {
                for (int rank = plots.size() - 1; rank >= 0; rank--) {
                    if (plots.get(rank)[3] == person && plots.get(rank)[2] == size) {
                        return rank;
                    }
                }
            }
            return -1;
        }

        int flood(int level) {
            int people = 0;
            for (int y = 0; y < 16; y++) {
                for (int x = 0; x < 16; x++) {
                    if (heights[y][x] < level) {
                        people += owners[y][x] == 0 ? 0 : 1;
                        owners[y][x] = 0;
                    }
                }
            }
            floods++;
            return people;
        }

        int collect() {
            int paid = 0;
            for (int person = 1; person <= 7; person++) {
                while (coins[person] < tax * count(person)) {
                    int[] plot = plots().get(firstToLose(person));
                    fill(plot[0], plot[1], plot[2], 0);
                    lost++;
                }
                int due = tax * count(person);
                coins[person] -= due;
                coins[0] += due;
                paid += due;
            }
            return paid;
        }
    }

    /** Public, and with the names of the face, so that both are called in the same way. */
    public static final class Model {
        private static final Pattern TEXT = Pattern.compile("(D)(;(D))*".replace("D",
            "g[a-p][a-p](1|2|4|8|16)=[0-7]|r[a-p][a-p](1|2|4|8|16)[+-][1-9]|b[1-7][a-p][a-p]|f[1-9]|t"));
        private static final String[] ENDINGS = {"", "t", "aa1=0", "a1=0", "1=0", "=0", "0", "6=0", "aa1+1", "a1+1", "1+1", "+1",
            "1", "1aa", "aa", "a"};

        private State now = new State();
        private final ArrayDeque<State> saves = new ArrayDeque<>();
        private final State[] slots = new State[2];
        private String buffer = "";

        public Model() {
            for (int[] row : now.heights) {
                Arrays.fill(row, 5);
            }
        }

        private static void index(boolean fits) {
            if (!fits) {
                throw new IndexOutOfBoundsException();
            }
        }

        private static void argument(boolean fits) {
            if (!fits) {
                throw new IllegalArgumentException();
            }
        }

        private static void state(boolean fits) {
            if (!fits) {
                throw new IllegalStateException();
            }
        }

        private static boolean in(int low, int n, int high) {
            return low <= n && n <= high;
        }

        private static boolean cell(int x, int y) {
            return in(0, x, 15) && in(0, y, 15);
        }

        private static boolean square(int x, int y, int size) {
            return List.of(1, 2, 4, 8, 16).contains(size) && x % size == 0 && y % size == 0;
        }

        private void save() {
            saves.addLast(now.copy());
            if (saves.size() > 6) {
                saves.removeFirst();
            }
        }

        public int grant(int x, int y, int size, int owner) {
            index(cell(x, y) && in(0, owner, 7));
            argument(square(x, y, size));
            save();
            int before = areaByCells(owner);
            now.fill(x, y, size, owner);
            return areaByCells(owner) - before;
        }

        public int raise(int x, int y, int size, int by) {
            index(cell(x, y));
            argument(square(x, y, size) && in(-9, by, 9));
            save();
            int sum = 0;
            for (int j = y; j < y + size; j++) {
                for (int i = x; i < x + size; i++) {
                    int height = now.heights[j][i] + by;
                    now.heights[j][i] = height < 0 ? 0 : height > 9 ? 9 : height;
                    sum += now.heights[j][i];
                }
            }
            return sum;
        }

        public int flood(int level) {
            argument(in(1, level, 10));
            save();
            return now.flood(level);
        }

        private int sale(int person, int x, int y, int size) {
            int cost = now.price * size * size;
            int owner = now.owners[y][x];
            state(now.uniform(x, y, size) && owner != person && now.coins[person] >= cost);
            save();
            now.coins[person] -= cost;
            now.coins[owner] += cost;
            now.fill(x, y, size, person);
            now.sales++;
            return cost;
        }

        public int buyPlot(int person, int x, int y) {
            index(in(1, person, 7) && cell(x, y));
            int[] plot = now.plots().get(plotRankAt(x, y));
            return sale(person, plot[0], plot[1], plot[2]);
        }

        public int buySquare(int person, int x, int y, int size) {
            index(in(1, person, 7) && cell(x, y));
            argument(square(x, y, size));
            return sale(person, x, y, size);
        }

        public int collectTaxes() {
            save();
            return now.collect();
        }

        public int setPrice(int coins) {
            argument(in(1, coins, 9));
            save();
            int before = now.price;
            now.price = coins;
            return before;
        }

        public int setTax(int coins) {
            argument(in(0, coins, 9));
            save();
            int before = now.tax;
            now.tax = coins;
            return before;
        }

        public int append(int code) {
            argument(in(33, code, 126));
            state(buffer.length() < 60);
            buffer += (char) code;
            return buffer.length();
        }

        public int clearBuffer() {
            int length = buffer.length();
            buffer = "";
            return length;
        }

        public int bufferLength() {
            return buffer.length();
        }

        public int firstError() {
            for (int i = 0; i < buffer.length(); i++) {
                if (!canBegin(buffer.substring(0, i + 1))) {
                    return i;
                }
            }
            return buffer.length();
        }

        private static boolean canBegin(String text) {
            for (String ending : ENDINGS) {
                if (TEXT.matcher(text + ending).matches()) {
                    return true;
                }
            }
            return false;
        }

        public int carryOut() {
            argument(TEXT.matcher(buffer).matches());
            State before = now.copy();
            ArrayDeque<State> savesBefore = new ArrayDeque<>(saves);
            int carriedOut = 0;
            try {
                for (String deed : buffer.split(";")) {
                    obey(deed);
                    carriedOut++;
                }
            } catch (IllegalArgumentException | IllegalStateException e) {
                // The deeds end here.
            }
            saves.clear();
            saves.addAll(savesBefore);
            State after = now;
            now = before;
            save();
            now = after;
            buffer = "";
            return carriedOut;
        }

        private void obey(String deed) {
            char[] c = deed.toCharArray();
            if (c[0] == 't') {
                collectTaxes();
            } else if (c[0] == 'f') {
                flood(c[1] - '0');
            } else if (c[0] == 'b') {
                buyPlot(c[1] - '0', c[2] - 'a', c[3] - 'a');
            } else {
                int size = Integer.parseInt(deed.replaceAll("^...|.{2}$", ""));
                int digit = c[c.length - 1] - '0';
                if (c[0] == 'g') {
                    grant(c[1] - 'a', c[2] - 'a', size, digit);
                } else {
                    raise(c[1] - 'a', c[2] - 'a', size, deed.contains("-") ? -digit : digit);
                }
            }
        }

        public int undo() {
            state(!saves.isEmpty());
            now = saves.removeLast();
            return saves.size();
        }

        public int savedStates() {
            return saves.size();
        }

        public int keep(int slot) {
            index(in(0, slot, 1));
            slots[slot] = now.copy();
            return plots();
        }

        public int goBack(int slot) {
            index(in(0, slot, 1));
            state(slots[slot] != null);
            save();
            now = slots[slot].copy();
            return plots();
        }

        public int ownerAt(int x, int y) {
            index(cell(x, y));
            return now.owners[y][x];
        }

        public int heightAt(int x, int y) {
            index(cell(x, y));
            return now.heights[y][x];
        }

        public int plotSizeAt(int x, int y) {
            return plotSize(plotRankAt(x, y));
        }

        public int plotRankAt(int x, int y) {
            index(cell(x, y));
            int rank = 0;
            for (int[] plot : now.plots()) {
                if (in(plot[0], x, plot[0] + plot[2] - 1) && in(plot[1], y, plot[1] + plot[2] - 1)) {
                    return rank;
                }
                rank++;
            }
            throw new AssertionError();
        }

        public int plotPriceAt(int x, int y) {
            int size = plotSizeAt(x, y);
            return size * size * now.price;
        }

        public int plots() {
            return now.plots().size();
        }

        private int[] plot(int rank) {
            List<int[]> plots = now.plots();
            index(in(0, rank, plots.size() - 1));
            return plots.get(rank);
        }

        public int plotOwner(int rank) {
            return plot(rank)[3];
        }

        public int plotX(int rank) {
            return plot(rank)[0];
        }

        public int plotY(int rank) {
            return plot(rank)[1];
        }

        public int plotSize(int rank) {
            return plot(rank)[2];
        }

        public int plotsOf(int owner) {
            index(in(0, owner, 7));
            return now.count(owner);
        }

        public int areaByPlots(int owner) {
            return areaByCells(owner);
        }

        public int areaByCells(int owner) {
            return lowCells(owner, 10);
        }

        public int fenceByPlots(int owner) {
            return fenceByCells(owner);
        }

        public int fenceByCells(int owner) {
            index(in(0, owner, 7));
            int length = 0;
            for (int other = 0; other < 8; other++) {
                length += fenceBetween(owner, other);
            }
            return length;
        }

        public int fenceBetween(int owner, int other) {
            index(in(0, owner, 7) && in(0, other, 7));
            int length = 0;
            for (int y = 0; y < 16; y++) {
                for (int x = 0; x < 16; x++) {
                    length += x < 15 && fence(owner, other, now.owners[y][x], now.owners[y][x + 1]) ? 1 : 0;
                    length += y < 15 && fence(owner, other, now.owners[y][x], now.owners[y + 1][x]) ? 1 : 0;
                }
            }
            return length;
        }

        private static boolean fence(int owner, int other, int here, int there) {
            return here != there && (here == owner && there == other || here == other && there == owner);
        }

        public int largestPlotOf(int owner) {
            index(in(0, owner, 7));
            List<int[]> plots = now.plots();
            for (int size = 16; size >= 1; size /= 2) {
                for (int rank = 0; rank < plots.size(); rank++) {
                    if (plots.get(rank)[3] == owner && plots.get(rank)[2] == size) {
                        return rank;
                    }
                }
            }
            return -1;
        }

        public int firstToLose(int person) {
            index(in(1, person, 7));
            return now.firstToLose(person);
        }

        public int coinsOf(int owner) {
            index(in(0, owner, 7));
            return now.coins[owner];
        }

        public int price() {
            return now.price;
        }

        public int tax() {
            return now.tax;
        }

        public int sales() {
            return now.sales;
        }

        public int floods() {
            return now.floods;
        }

        public int plotsLost() {
            return now.lost;
        }

        public int lowCells(int owner, int level) {
            index(in(0, owner, 7));
            argument(in(1, level, 10));
            int count = 0;
            for (int y = 0; y < 16; y++) {
                for (int x = 0; x < 16; x++) {
                    count += now.owners[y][x] == owner && now.heights[y][x] < level ? 1 : 0;
                }
            }
            return count;
        }

        public int plotsIfFlooded(int level) {
            argument(in(1, level, 10));
            State then = now.copy();
            then.flood(level);
            return then.plots().size();
        }

        public int lossesIfTaxed(int person) {
            index(in(1, person, 7));
            State then = now.copy();
            int before = then.count(person);
            then.collect();
            return before - then.count(person);
        }

        public int nearestNeighbour(int owner) {
            index(in(0, owner, 7));
            int best = -1;
            for (int other = 7; other >= 0; other--) {
                int length = fenceBetween(owner, other);
                if (length > 0 && (best == -1 || length >= fenceBetween(owner, best))) {
                    best = other;
                }
            }
            return best;
        }

        public double meanHeight() {
            int sum = 0;
            for (int[] row : now.heights) {
                for (int height : row) {
                    sum += height;
                }
            }
            return sum / 256.0;
        }
    }

    /** The same numbers in each run of this test: no random source. */
    private static final class Numbers {
        private long seed;

        Numbers(long seed) {
            this.seed = seed * 7919 + 17;
        }

        int below(int bound) {
            seed = seed * 6364136223846793005L + 1442695040888963407L;
            return (int) ((seed >>> 33) % bound);
        }
    }

    private static Map<String, Method> methodsOf(Class<?> kind) {
        Map<String, Method> methods = new HashMap<>();
        for (Method method : kind.getDeclaredMethods()) {
            if (java.lang.reflect.Modifier.isPublic(method.getModifiers())) {
                methods.put(method.getName(), method);
            }
        }
        return methods;
    }

    private final LandQuarters real = new LandQuarters();
    private final Model model = new Model();
    private final Numbers numbers;
    private final int run;
    private final int texts;
    private final int largestSize;
    private final List<String> told = new ArrayList<>();
    private boolean wrong = false;

    private ModelTest(int run) {
        this.run = run;
        numbers = new Numbers(run);
        texts = numbers.below(4);
        largestSize = 1 + numbers.below(5);
    }

    private static Object answer(Object object, Method method, Object[] arguments) {
        try {
            return method.invoke(object, arguments);
        } catch (InvocationTargetException e) {
            return e.getCause().getClass();
        } catch (IllegalAccessException e) {
            throw new IllegalStateException(e);
        }
    }

    private void call(String name, Object... arguments) {
        if (wrong || told.size() >= CALLS) {
            return;
        }
        Object want = answer(model, WANTED.get(name), arguments);
        Object got = answer(real, REAL.get(name), arguments);
        told.add(name + Arrays.toString(arguments) + " -> " + got);
        if (!want.equals(got)) {
            wrong = true;
            System.out.println("run " + run + ": " + String.join("\n  ", told) + ", due is " + want);
        }
    }

    private int size() {
        return numbers.below(60) == 0 ? numbers.below(34) - 1 : 1 << numbers.below(largestSize);
    }

    private int coordinate(int size) {
        if (numbers.below(60) == 0) {
            return numbers.below(20) - 2;
        }
        int step = size >= 1 && size <= 16 && numbers.below(40) != 0 ? size : 1;
        return numbers.below(16) / step * step;
    }

    private int owner(int least) {
        return numbers.below(80) == 0 ? numbers.below(12) - 2 : least + numbers.below(8 - least);
    }

    private int between(int low, int high) {
        return numbers.below(25) == 0 ? low - 1 + numbers.below(high - low + 3) : low + numbers.below(high - low + 1);
    }

    private void change() {
        String name = DEEDS[numbers.below(DEEDS.length)];
        int size = size();
        switch (name) {
            case "grant" -> call(name, coordinate(size), coordinate(size), size, owner(0));
            case "raise" -> call(name, coordinate(size), coordinate(size), size, between(-9, 9));
            case "flood" -> call(name, numbers.below(3) == 0 ? between(1, 10) : 1);
            case "buyPlot" -> call(name, owner(1), coordinate(1), coordinate(1));
            case "buySquare" -> call(name, owner(1), coordinate(size), coordinate(size), size);
            case "setPrice" -> call(name, between(1, numbers.below(3) == 0 ? 9 : 2));
            case "setTax" -> call(name, between(0, 9));
            case "keep", "goBack" -> call(name, between(0, 1));
            case "text" -> writeText();
            default -> call(name);
        }
    }

    private void writeText() {
        if (numbers.below(4) >= texts) {
            return;
        }
        call("clearBuffer");
        String text = deed();
        for (int more = numbers.below(8); more > 0; more--) {
            text += ";" + deed();
        }
        if (numbers.below(4) == 0) {
            int at = numbers.below(text.length());
            char other = CANDIDATES.charAt(numbers.below(CANDIDATES.length()));
            text = text.substring(0, at) + other + text.substring(at + numbers.below(2));
        }
        if (numbers.below(6) == 0) {
            text = text.substring(0, numbers.below(text.length()));
        }
        for (char c : text.toCharArray()) {
            call("append", (int) c);
        }
        if (numbers.below(6) == 0) {
            call("append", numbers.below(140));
        }
        call("firstError");
        call("carryOut");
    }

    private String deed() {
        int size = 1 << numbers.below(largestSize);
        int step = numbers.below(25) == 0 ? 1 : size;
        String x = "" + (char) ('a' + numbers.below(16) / step * step);
        String y = "" + (char) ('a' + numbers.below(16) / step * step);
        return switch (numbers.below(6)) {
            case 0, 1 -> "g" + x + y + size + "=" + numbers.below(8);
            case 2 -> "r" + x + y + size + (numbers.below(2) == 0 ? "+" : "-") + (1 + numbers.below(9));
            case 3 -> "b" + (1 + numbers.below(7)) + x + y;
            case 4 -> "f" + (numbers.below(3) == 0 ? 1 + numbers.below(9) : 1);
            default -> "t";
        };
    }

    private void ask() {
        String name = QUERIES[numbers.below(QUERIES.length)];
        int count = WANTED.get(name).getParameterCount();
        switch (name) {
            case "plotOwner", "plotX", "plotY", "plotSize" -> call(name, numbers.below(model.plots() + 2) - 1);
            case "lowCells" -> call(name, owner(0), between(1, 10));
            case "plotsIfFlooded" -> call(name, between(1, 10));
            case "fenceBetween" -> call(name, owner(0), owner(0));
            case "firstToLose", "lossesIfTaxed" -> call(name, between(1, 7));
            default -> {
                if (count == 2) {
                    call(name, coordinate(1), coordinate(1));
                } else if (count == 1) {
                    call(name, owner(0));
                } else {
                    call(name);
                }
            }
        }
    }

    private boolean holds() {
        while (!wrong && told.size() < CALLS) {
            change();
            for (int i = numbers.below(5); i > 0; i--) {
                ask();
            }
        }
        return !wrong;
    }

    public static void main(String[] args) {
        int failed = 0;
        for (int run = 0; run < RUNS && failed < 3; run++) {
            failed += new ModelTest(run).holds() ? 0 : 1;
        }
        System.out.println(failed == 0 ? "all answers are as the model's" : failed + " runs are not as the model's");
        if (failed != 0) {
            System.exit(1);
        }
    }
}
