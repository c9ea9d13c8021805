/** The edges of the deed text: the buffer, the first error at each place, and what is carried out. */
public final class TextEdgesTest {
    private static final String LETTERS = "abcdefghijklmnop";
    private static final String LONGEST = "f9" + ";t".repeat(29);

    private static void emptyBuffer() {
        Checks.sentence("It is empty at first.");
        LandQuarters land = new LandQuarters();
        Checks.due("bufferLength", 0, land.bufferLength());
        Checks.due("clearBuffer", 0, land.clearBuffer());
        Checks.due("firstError", 0, land.firstError());
        Checks.sentence("A deed text is one or more deeds");
        Checks.refused("carryOut of an empty buffer", Checks.NEW, Checks.ARGUMENT, LandQuarters::carryOut);
    }

    private static LandQuarters withCharacters(int number) {
        LandQuarters land = new LandQuarters();
        for (int i = 0; i < number; i++) {
            land.append(LONGEST.charAt(i));
        }
        return land;
    }

    private static void fullBuffer() {
        Checks.sentence("The buffer holds at most 60 characters.");
        LandQuarters land = new LandQuarters();
        for (int i = 1; i <= 60; i++) {
            Checks.due("append", i, land.append(LONGEST.charAt(i - 1)));
            Checks.due("bufferLength", i, land.bufferLength());
        }
        Checks.due("append of one more", Checks.STATE, Checks.answer(land, l -> l.append('t')));
        Checks.due("firstError of 60 characters", 60, land.firstError());
        Checks.due("carryOut of 60 characters", 30, land.carryOut());
        Checks.due("bufferLength then", 0, land.bufferLength());
        Checks.due("append then", 1, land.append('t'));
        Checks.due("clearBuffer", 1, land.clearBuffer());
        for (int code : new int[] {33, 't', ';', 126}) {
            Checks.refused("append to a full buffer", () -> withCharacters(60), Checks.STATE, full -> full.append(code));
            Checks.answered("append to a buffer of 59 characters", withCharacters(59), almost -> almost.append(code));
        }
        LandQuarters cleared = withCharacters(60);
        Checks.due("clearBuffer of 60 characters", 60, cleared.clearBuffer());
        Checks.due("clearBuffer of none", 0, cleared.clearBuffer());
        Checks.due("append to a cleared buffer", 1, cleared.append('f'));
    }

    private static void errorsAtTheEndOfTheBuffer() {
        Checks.sentence("Returns its index; the length of the buffer if there is no error (also if the text is not complete).");
        LandQuarters wrong = withCharacters(59);
        wrong.append('x');
        Checks.due("firstError at the last place", 59, wrong.firstError());
        Checks.due("carryOut with an error at the last place", Checks.ARGUMENT, Checks.answer(wrong, LandQuarters::carryOut));
        LandQuarters open = withCharacters(59);
        Checks.due("firstError of 59 characters", 59, open.firstError());
        open.append('g');
        Checks.due("firstError of a text that is not complete", 60, open.firstError());
        Checks.due("carryOut of it", Checks.ARGUMENT, Checks.answer(open, LandQuarters::carryOut));
        LandQuarters semicolon = new LandQuarters();
        Checks.write(semicolon, "t;".repeat(30));
        Checks.due("firstError of a last \";\"", 60, semicolon.firstError());
        Checks.due("carryOut of it", Checks.ARGUMENT, Checks.answer(semicolon, LandQuarters::carryOut));
        Checks.due("the buffer stays", 60, semicolon.bufferLength());
        LandQuarters first = new LandQuarters();
        Checks.write(first, "!" + LONGEST.substring(1));
        Checks.due("firstError at the first place", 0, first.firstError());
    }

    /** A start of a text, the characters that leave it incomplete, and those that complete it; there are no others. */
    private static final String[][] PLACES = {
        {"", "grbf", "t"}, {"t;", "grbf", "t"}, {"gpp16=7;", "grbf", "t"}, {"raa1-9;", "grbf", "t"}, {"b7pp;", "grbf", "t"},
        {"f9;", "grbf", "t"}, {"t;t;", "grbf", "t"}, {"gaa1=0;raa16+1;b1aa;f1;", "grbf", "t"},
        {"g", LETTERS, ""}, {"gp", LETTERS, ""}, {"gpa", "1248", ""}, {"gap1", "6=", ""}, {"gaa2", "=", ""}, {"gbb4", "=", ""},
        {"gcc8", "=", ""}, {"gaa16", "=", ""}, {"gaa1=", "", "01234567"}, {"gaa16=", "", "01234567"}, {"gaa8=", "", "01234567"},
        {"gaa1=7", ";", ""}, {"gaa1=0", ";", ""},
        {"r", LETTERS, ""}, {"rp", LETTERS, ""}, {"rpa", "1248", ""}, {"rap1", "6+-", ""}, {"raa2", "+-", ""}, {"rbb4", "+-", ""},
        {"rcc8", "+-", ""}, {"raa16", "+-", ""}, {"raa1+", "", "123456789"}, {"raa16-", "", "123456789"}, {"raa4+1", ";", ""},
        {"raa4-9", ";", ""},
        {"b", "1234567", ""}, {"b1", LETTERS, ""}, {"b7p", "", LETTERS}, {"b1aa", ";", ""},
        {"f", "", "123456789"}, {"f1", ";", ""}, {"f9", ";", ""}, {"t", ";", ""},
        {"gaa1=0;r", LETTERS, ""}, {"raa1-1;gaa1", "6=", ""}, {"raa1-1;gaa16", "=", ""}, {"gaa16=1;raa1", "6+-", ""},
        {"gaa1=0;raa1+", "", "123456789"}, {"raa1-1;gaa1=", "", "01234567"}, {"b1aa;g", LETTERS, ""}, {"gaa1=0;b", "1234567", ""},
        {"b1aa;gaa", "1248", ""}, {"gaa1=0;b1a", "", LETTERS}};

    private static void everyCharacterAtEveryPlace() {
        Checks.sentence("The first error of the buffer is the index of the first character that no deed text can have after"
            + " the characters before it.");
        for (String[] place : PLACES) {
            for (char c = 33; c <= 126; c++) {
                String text = place[0] + c;
                LandQuarters land = Checks.written(text);
                boolean completes = place[2].indexOf(c) >= 0;
                boolean canBe = completes || place[1].indexOf(c) >= 0;
                Checks.due("firstError of " + text, canBe ? text.length() : place[0].length(), land.firstError());
                Object got = Checks.answer(land, LandQuarters::carryOut);
                Checks.due("carryOut of " + text + " is refused", !completes, got.equals(Checks.ARGUMENT));
                if (!canBe) {
                    errorStays(land, text, place[0].length());
                }
            }
        }
    }

    /** What comes after the first error, be it another error or what could have stood there before, does not matter. */
    private static void errorStays(LandQuarters land, String text, int error) {
        Checks.due("carryOut of " + text, Checks.ARGUMENT, Checks.answer(land, LandQuarters::carryOut));
        Checks.due("bufferLength of " + text + " then", text.length(), land.bufferLength());
        Checks.write(land, "1=0;t;!x");
        Checks.due("firstError of more than " + text, error, land.firstError());
        Checks.due("firstError again", error, land.firstError());
        Checks.due("carryOut of more than " + text, Checks.ARGUMENT, Checks.answer(land, LandQuarters::carryOut));
    }

    private static void codesThatAreNoText() {
        Checks.sentence("Appends a character to the buffer.");
        for (int code = 33; code <= 126; code++) {
            LandQuarters land = Checks.written("t");
            Checks.due("append(" + code + ")", 2, land.append(code));
            Checks.due("bufferLength", 2, land.bufferLength());
        }
    }

    private static void lettersAndDigitsOfGrants() {
        Checks.sentence("A cell is told as two letters from \"a\" to \"p\", for x and y from 0 to 15;");
        for (int cell = 0; cell < 256; cell++) {
            int x = cell % 16;
            int y = cell / 16;
            LandQuarters land = Checks.written("g" + LETTERS.charAt(x) + LETTERS.charAt(y) + "1=" + cell % 7);
            Checks.due("carryOut", 1, land.carryOut());
            Checks.due("ownerAt(" + x + ", " + y + ")", cell % 7, land.ownerAt(x, y));
            Checks.due("areaByCells", cell % 7 == 0 ? 256 : 1, land.areaByCells(cell % 7));
        }
        Checks.sentence("a size as \"1\", \"2\", \"4\", \"8\" or \"16\"; an owner as a digit from 0 to 7.");
        for (int size = 1; size <= 16; size *= 2) {
            for (int owner = 1; owner <= 7; owner++) {
                LandQuarters land = Checks.written("gaa" + size + "=" + owner);
                Checks.due("carryOut", 1, land.carryOut());
                Checks.due("areaByCells(" + owner + ") of size " + size, size * size, land.areaByCells(owner));
                Checks.write(land, "gaa" + size + "=0");
                Checks.due("carryOut", 1, land.carryOut());
                Checks.due("areaByCells(0) of size " + size, 256, land.areaByCells(0));
            }
        }
    }

    private static void digitsOfRaises() {
        Checks.sentence("\"+\" or \"-\", and a digit from 1 to 9 (as raise(), by so much, or by so much less)");
        for (int by = 1; by <= 9; by++) {
            for (int size = 1; size <= 16; size *= 2) {
                LandQuarters land = Checks.written("raa16-9;raa" + size + "+" + by);
                Checks.due("carryOut", 2, land.carryOut());
                Checks.due("meanHeight of size " + size + " by " + by, by * size * size / 256.0, land.meanHeight());
                Checks.write(land, "raa16+9;raa" + size + "-" + by);
                Checks.due("carryOut", 2, land.carryOut());
                Checks.due("heightAt less " + by, 9 - by, land.heightAt(size - 1, size - 1));
                Checks.due("meanHeight less " + by, 9.0 - by * size * size / 256.0, land.meanHeight());
            }
        }
        LandQuarters land = Checks.written("rpa1+1;rap1-1;rpp1+2;rab1-2");
        Checks.due("carryOut", 4, land.carryOut());
        Checks.due("heightAt(15, 0)", 6, land.heightAt(15, 0));
        Checks.due("heightAt(0, 15)", 4, land.heightAt(0, 15));
        Checks.due("heightAt(15, 15)", 7, land.heightAt(15, 15));
        Checks.due("heightAt(0, 1)", 3, land.heightAt(0, 1));
    }

    private static void digitsOfSalesAndFloods() {
        Checks.sentence("\"b\", an owner from 1 to 7, and a cell (as buyPlot())");
        for (int person = 1; person <= 7; person++) {
            LandQuarters land = Checks.written("gph1=" + (person % 7 + 1) + ";b" + person + "ph");
            Checks.due("carryOut", 2, land.carryOut());
            Checks.due("ownerAt(15, 7)", person, land.ownerAt(15, 7));
            Checks.due("coinsOf", 98, land.coinsOf(person));
            Checks.due("coinsOf the seller", 102, land.coinsOf(person % 7 + 1));
        }
        LandQuarters mirrored = Checks.written("gjc1=1;gcj1=5;b5jc");
        Checks.due("carryOut, x and y being told apart", 3, mirrored.carryOut());
        Checks.due("ownerAt(9, 2)", 5, mirrored.ownerAt(9, 2));
        Checks.due("ownerAt(2, 9)", 5, mirrored.ownerAt(2, 9));
        Checks.sentence("\"f\" and a digit from 1 to 9 (as flood())");
        for (int level = 1; level <= 9; level++) {
            LandQuarters land = new LandQuarters();
            for (int x = 0; x < 10; x++) {
                land.grant(x, 0, 1, 3);
                land.raise(x, 0, 1, x - 5);
            }
            Checks.write(land, "f" + level);
            Checks.due("carryOut", 1, land.carryOut());
            Checks.due("areaByCells after level " + level, 10 - level, land.areaByCells(3));
            Checks.due("floods", 1, land.floods());
        }
        Checks.sentence("\"t\" (as collectTaxes())");
        LandQuarters land = new LandQuarters();
        land.grant(8, 8, 8, 3);
        Checks.write(land, "t;t;t");
        Checks.due("carryOut", 3, land.carryOut());
        Checks.due("coinsOf(3)", 97, land.coinsOf(3));
        Checks.due("coinsOf(0)", 3, land.coinsOf(0));
    }

    private static void asTheMethods() {
        Checks.sentence("Carries out the deeds in the buffer, one after the other");
        String[] texts = {"t", "f6", "b5ep", "raa16-5", "gee4=7"};
        Checks.Call[] calls = {LandQuarters::collectTaxes, land -> land.flood(6), land -> land.buyPlot(5, 4, 15),
            land -> land.raise(0, 0, 16, -5), land -> land.grant(4, 4, 4, 7)};
        for (int i = 0; i < texts.length; i++) {
            String text = texts[i];
            Checks.Call call = calls[i];
            Checks.same("after " + text, () -> {
                LandQuarters land = manyPlots();
                call.on(land);
                return land;
            }, () -> {
                LandQuarters land = manyPlots();
                Checks.write(land, text);
                Checks.due("carryOut of " + text, 1, land.carryOut());
                return land;
            });
        }
    }

    /** Person 1 has more plots than can be paid, and some cells are low. */
    private static LandQuarters manyPlots() {
        LandQuarters land = Checks.quartered();
        land.setTax(9);
        for (int i = 0; i < 12; i++) {
            land.grant(i, 15 - i, 1, 1);
        }
        land.raise(0, 8, 4, -3);
        return land;
    }

    private static LandQuarters carriedOut(String text, int due) {
        LandQuarters land = Checks.written(text);
        Checks.due("carryOut of " + text, due, land.carryOut());
        return land;
    }

    private static void upToADeedThatThrows() {
        Checks.sentence("up to the first one whose method would throw an exception, and clears the buffer.");
        String[] deeds = {"gba2=1", "gab16=1", "rac4+1", "ria16-9", "b1aa", "b2aa"};
        for (String deed : deeds) {
            for (String more : new String[] {"", ";f9", ";t;gaa1=3"}) {
                LandQuarters none = carriedOut(deed + more, 0);
                Checks.due("bufferLength after " + deed, 0, none.bufferLength());
                Checks.due("savedStates after " + deed, 1, none.savedStates());
                Checks.due("floods after " + deed, 0, none.floods());
                Checks.due("the land after " + deed, Checks.accounts(new LandQuarters()), Checks.accounts(none));
                LandQuarters one = carriedOut("rpp1+1;" + deed + more, 1);
                Checks.due("bufferLength after a deed and " + deed, 0, one.bufferLength());
                Checks.due("the deed before stands", 6, one.heightAt(15, 15));
                Checks.due("savedStates", 1, one.savedStates());
                Checks.due("the deed after does not", 0, one.floods());
                Checks.due("nor does another one", 256, one.areaByCells(0));
            }
        }
        LandQuarters own = carriedOut("gaa1=1;b1aa;f9", 1);
        Checks.due("one's own plot is not sold", 100, own.coinsOf(1));
        Checks.due("and no flood comes then", 0, own.floods());
        carriedOut("gaa4=3;b2aa;b3aa;b2aa;b3aa", 5);
        carriedOut("gaa4=3;b2aa;b2dd;b3aa;b2aa", 2);
    }

    private static void deedsAfterDeeds() {
        Checks.sentence("Carries out the deeds in the buffer, one after the other");
        LandQuarters plot = carriedOut("gaa4=3;gbb1=4;b5aa;b6bb", 4);
        Checks.due("the plot is as large as it is then", 1, plot.areaByCells(5));
        Checks.due("the other plot", 1, plot.areaByCells(6));
        Checks.due("the rest", 14, plot.areaByCells(3));
        LandQuarters grown = carriedOut("gaa4=3;gbb1=4;gbb1=3;b5aa", 4);
        Checks.due("the plot has grown together", 16, grown.areaByCells(5));
        LandQuarters flooded = carriedOut("gaa8=3;raa1-9;f1;b5bb", 4);
        Checks.due("the flood divides the plot", 1, flooded.areaByCells(5));
        LandQuarters taxed = new LandQuarters();
        taxed.setTax(9);
        for (int i = 0; i < 12; i++) {
            taxed.grant(i, i, 1, 1);
        }
        Checks.write(taxed, "t;b5ii;t");
        Checks.due("carryOut", 3, taxed.carryOut());
        Checks.due("twelve and then eleven plots are too many", 12, taxed.plotsLost() + taxed.plotsOf(5));
        Checks.due("the buyer's purse", 89, taxed.coinsOf(5));
    }

    private static void cornersInTexts() {
        Checks.sentence("(Whether a corner fits a size does not matter for the text.)");
        for (String text : new String[] {"gbb16=0", "gpp16=7", "gpa2=1", "gap8=1", "rbb16+1", "rpp4-9", "rcb2+1"}) {
            LandQuarters land = Checks.written(text);
            Checks.due("firstError of " + text, text.length(), land.firstError());
            Checks.due("carryOut of " + text, 0, land.carryOut());
        }
    }

    private static void refusedTexts() {
        Checks.sentence("if the buffer is not a complete deed text");
        for (String text : new String[] {"", "g", "gp", "gpp", "gpp1", "gpp16", "gpp16=", "gpp16=8", "gpp16==7", "r", "raa1", "raa16",
            "raa16+", "raa16-0", "b", "b1", "b1a", "b0aa", "b8aa", "f", "f0", "f10", "T", "t;", ";", ";t", "t;;t", "tt", "t;f", "t,t"}) {
            Checks.refused("carryOut of " + text, () -> {
                LandQuarters land = Checks.worked();
                land.clearBuffer();
                Checks.write(land, text);
                return land;
            }, Checks.ARGUMENT, LandQuarters::carryOut);
        }
        LandQuarters land = Checks.written("gpp1");
        Checks.due("carryOut", Checks.ARGUMENT, Checks.answer(land, LandQuarters::carryOut));
        Checks.write(land, "=7;t");
        Checks.due("the text that was refused is still there", 2, land.carryOut());
        Checks.due("and is carried out", 7, land.ownerAt(15, 15));
    }

    private static void shorterTextAfterALongerOne() {
        Checks.sentence("Clears the buffer.");
        LandQuarters land = withCharacters(60);
        land.clearBuffer();
        Checks.due("firstError of none", 0, land.firstError());
        Checks.due("carryOut of none", Checks.ARGUMENT, Checks.answer(land, LandQuarters::carryOut));
        Checks.write(land, "gaa1=1");
        Checks.due("firstError", 6, land.firstError());
        Checks.due("carryOut", 1, land.carryOut());
        Checks.due("nothing of the text before", 0, land.floods());
        Checks.due("carryOut of none then", Checks.ARGUMENT, Checks.answer(land, LandQuarters::carryOut));
        Checks.write(land, "f");
        Checks.due("firstError of a start", 1, land.firstError());
        Checks.due("carryOut of a start", Checks.ARGUMENT, Checks.answer(land, LandQuarters::carryOut));
        Checks.due("clearBuffer", 1, land.clearBuffer());
        Checks.due("savedStates", 1, land.savedStates());
    }

    public static void main(String[] args) {
        emptyBuffer();
        fullBuffer();
        errorsAtTheEndOfTheBuffer();
        everyCharacterAtEveryPlace();
        codesThatAreNoText();
        lettersAndDigitsOfGrants();
        digitsOfRaises();
        digitsOfSalesAndFloods();
        asTheMethods();
        upToADeedThatThrows();
        deedsAfterDeeds();
        cornersInTexts();
        refusedTexts();
        shorterTextAfterALongerOne();
        Checks.end();
    }
}
