import java.io.IOException;
import java.lang.reflect.Constructor;
import java.lang.reflect.Field;
import java.lang.reflect.Method;
import java.lang.reflect.Modifier;
import java.nio.charset.StandardCharsets;
import java.nio.file.Files;
import java.nio.file.Path;
import java.util.List;
import java.util.TreeSet;
import java.util.regex.Pattern;

/** The face of the class is the document's, and its source keeps to LANGUAGE.md as far as a short test can tell. */
public final class RulesTest {
    private static final String INDEX = " IndexOutOfBoundsException";
    private static final String ARGUMENT = " IllegalArgumentException";
    private static final String STATE = " IllegalStateException";
    private static final String[] FACE = {
        "grant 4" + INDEX + ARGUMENT, "raise 4" + INDEX + ARGUMENT, "flood 1" + ARGUMENT, "buyPlot 3" + INDEX + STATE,
        "buySquare 4" + INDEX + ARGUMENT + STATE, "collectTaxes 0", "setPrice 1" + ARGUMENT, "setTax 1" + ARGUMENT,
        "append 1" + ARGUMENT + STATE, "clearBuffer 0", "bufferLength 0", "firstError 0", "carryOut 0" + ARGUMENT,
        "undo 0" + STATE, "savedStates 0", "keep 1" + INDEX, "goBack 1" + INDEX + STATE, "ownerAt 2" + INDEX,
        "heightAt 2" + INDEX, "plotSizeAt 2" + INDEX, "plotRankAt 2" + INDEX, "plotPriceAt 2" + INDEX, "plots 0",
        "plotOwner 1" + INDEX, "plotX 1" + INDEX, "plotY 1" + INDEX, "plotSize 1" + INDEX, "plotsOf 1" + INDEX,
        "areaByPlots 1" + INDEX, "areaByCells 1" + INDEX, "fenceByPlots 1" + INDEX, "fenceByCells 1" + INDEX,
        "fenceBetween 2" + INDEX, "largestPlotOf 1" + INDEX, "firstToLose 1" + INDEX, "coinsOf 1" + INDEX, "price 0", "tax 0",
        "sales 0", "floods 0", "plotsLost 0", "lowCells 2" + INDEX + ARGUMENT, "plotsIfFlooded 1" + ARGUMENT,
        "lossesIfTaxed 1" + INDEX, "nearestNeighbour 1" + INDEX, "meanHeight 0"};
    private static final String THROWN = "(IllegalState|IllegalArgument|IndexOutOfBounds|Arithmetic|UnsupportedOperation"
        + "|NoSuchElement|Runtime)Exception";
    private static final String[] UNWANTED = {"(?m)^package\\b", "(?m)^(?!\\s*(case|default)\\b).*->", "::", "\\bfinally\\b",
        "\\bsynchronized\\b", "\\bassert\\b", "\\bThread\\b", "\\bSystem\\.(?!arraycopy)", "Exact\\(",
        "\\bMath\\.(sqrt|pow|random|round|floor|ceil|rint)\\(", "\"\\s*\\+", "\\+\\s*\"", "\"[^\"\\n]*[^\\x01-\\x7e][^\"\\n]*\"",
        "(?m)^import (?!java\\.util\\.(Arrays|ArrayList|List|Iterator|NoSuchElementException);)",
        "\\bthrow (?!new " + THROWN + "\\((\"[^\"]*\")?\\);)",
        "\\bcatch\\s*\\([^)]*\\b(ArrayIndexOutOfBounds|NullPointer|ClassCast|NegativeArraySize|ArrayStore|Throwable|Error)"};

    private static int wrong = 0;

    private static void due(String what, Object want, Object got) {
        if (!want.equals(got)) {
            wrong++;
            System.out.println(what + " is " + got + ", due is " + want);
        }
    }

    private static void face() {
        TreeSet<String> told = new TreeSet<>();
        for (Method method : LandQuarters.class.getDeclaredMethods()) {
            if (!Modifier.isPrivate(method.getModifiers())) {
                told.add(faceOf(method));
            }
        }
        due("the face", new TreeSet<>(List.of(FACE)), told);
        Constructor<?>[] constructors = LandQuarters.class.getDeclaredConstructors();
        due("constructors", 1, constructors.length);
        due("the constructor", Modifier.PUBLIC, constructors[0].getModifiers());
        due("its parameters", 0, constructors[0].getParameterCount());
        due("the class", Modifier.PUBLIC | Modifier.FINAL, LandQuarters.class.getModifiers());
        for (Field field : LandQuarters.class.getDeclaredFields()) {
            boolean isNone = field.getName().equals("NONE");
            due(field.getName() + " is private", !isNone, Modifier.isPrivate(field.getModifiers()));
            due(field.getName() + " is public", isNone, Modifier.isPublic(field.getModifiers()));
        }
    }

    private static String faceOf(Method method) {
        due("the modifiers of " + method.getName(), Modifier.PUBLIC, method.getModifiers());
        Class<?> type = method.getName().equals("meanHeight") ? double.class : int.class;
        due("the type of " + method.getName(), type, method.getReturnType());
        for (Class<?> parameter : method.getParameterTypes()) {
            due("a parameter of " + method.getName(), int.class, parameter);
        }
        StringBuilder row = new StringBuilder(method.getName() + " " + method.getParameterCount());
        for (Class<?> exception : method.getExceptionTypes()) {
            row.append(' ').append(exception.getSimpleName());
        }
        return row.toString();
    }

    private static void classes() {
        Class<?>[] inside = LandQuarters.class.getDeclaredClasses();
        due("the file has at most some twelve classes", true, inside.length < 14);
        members(LandQuarters.class);
        for (Class<?> kind : inside) {
            due(kind.getName() + " is public", false, Modifier.isPublic(kind.getModifiers()));
            due(kind.getName() + " is protected", false, Modifier.isProtected(kind.getModifiers()));
            members(kind);
        }
    }

    private static void members(Class<?> kind) {
        TreeSet<String> publicNames = new TreeSet<>();
        for (String row : FACE) {
            publicNames.add(row.substring(0, row.indexOf(' ')));
        }
        for (Method method : kind.getDeclaredMethods()) {
            boolean isPrivate = Modifier.isPrivate(method.getModifiers());
            due(method + " is private with a public name", false, isPrivate && publicNames.contains(method.getName()));
            due(method + " has at most seven parameters", true, method.getParameterCount() <= 7);
        }
        int own = 0;
        for (Field field : kind.getDeclaredFields()) {
            boolean isStatic = Modifier.isStatic(field.getModifiers());
            due(field + " is final if it is static", true, !isStatic || Modifier.isFinal(field.getModifiers()));
            own += isStatic ? 0 : 1;
        }
        due(kind.getName() + " has at most some twenty fields", true, own <= 22);
    }

    private static void source(String text) {
        for (String unwanted : UNWANTED) {
            due("the source has " + unwanted, false, Pattern.compile(unwanted).matcher(text).find());
        }
    }

    public static void main(String[] args) throws IOException {
        face();
        classes();
        due("the first argument is the path of LandQuarters.java", true, args.length > 0);
        if (args.length > 0) {
            source(new String(Files.readAllBytes(Path.of(args[0])), StandardCharsets.ISO_8859_1));
        }
        System.out.println(wrong == 0 ? "all rules are kept" : wrong + " rules are not kept");
        if (wrong != 0) {
            System.exit(1);
        }
    }
}
