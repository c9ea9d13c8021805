import java.io.IOException;
import java.lang.reflect.Constructor;
import java.lang.reflect.Field;
import java.lang.reflect.Method;
import java.lang.reflect.Modifier;
import java.nio.charset.StandardCharsets;
import java.nio.file.Files;
import java.nio.file.Path;
import java.util.ArrayList;
import java.util.List;
import java.util.TreeSet;
import java.util.regex.Matcher;
import java.util.regex.Pattern;

/** The face of the class is the document's, and its source keeps to LANGUAGE.md as far as a short test can tell. */
public final class RulesTest {
    private static final String INDEX = " IndexOutOfBoundsException";
    private static final String ARGUMENT = " IllegalArgumentException";
    private static final String STATE = " IllegalStateException";
    private static final String[] FACE = {
        "grant 4" + INDEX + ARGUMENT, "raise 4" + INDEX + ARGUMENT, "flood 1" + ARGUMENT, "buyPlot 3" + INDEX + STATE,
        "buySquare 4" + INDEX + ARGUMENT + STATE, "collectTaxes 0", "setPrice 1" + ARGUMENT, "setTax 1" + ARGUMENT,
        "append 1" + ARGUMENT + STATE, "clearBuffer 0", "bufferLength 0", "firstError 0", "carryOut 0" + ARGUMENT,
        "undo 0" + STATE, "savedStates 0", "keep 1" + INDEX, "goBack 1" + INDEX + STATE, "ownerAt 2" + INDEX,
        "heightAt 2" + INDEX, "plotSizeAt 2" + INDEX, "plotRankAt 2" + INDEX, "plotPriceAt 2" + INDEX, "plots 0",
        "plotOwner 1" + INDEX, "plotX 1" + INDEX, "plotY 1" + INDEX, "plotSize 1" + INDEX, "plotsOf 1" + INDEX,
        "areaByPlots 1" + INDEX, "areaByCells 1" + INDEX, "fenceByPlots 1" + INDEX, "fenceByCells 1" + INDEX,
        "fenceBetween 2" + INDEX, "largestPlotOf 1" + INDEX, "firstToLose 1" + INDEX, "coinsOf 1" + INDEX, "price 0", "tax 0",
        "sales 0", "floods 0", "plotsLost 0", "lowCells 2" + INDEX + ARGUMENT, "plotsIfFlooded 1" + ARGUMENT,
        "lossesIfTaxed 1" + INDEX, "nearestNeighbour 1" + INDEX, "meanHeight 0"};
    private static final String[] UNWANTED = {"->", "::", "\\btry\\b", "\\bcatch\\b", "\\bfinally\\b", "\\bsynchronized\\b",
        "\\bassert\\b", "\\binstanceof\\b", "\\bpackage\\b", "\\bSystem\\.(?!arraycopy)", "\\bprotected\\b", "\\bfloat\\b",
        "\"\\s*\\+", "\\+\\s*\"", "Exact\\(", "\\bMath\\.(?!max|min)", "\\bArrays\\.(?!fill)", "new \\w+\\[\\]", "Thread", "[^\\x00-\\x7e]"};

    private static int wrong = 0;

    private static void due(String what, Object want, Object got) {
        if (!want.equals(got)) {
            wrong++;
            System.out.println(what + " is " + got + ", due is " + want);
        }
    }

    private static void face() {
        TreeSet<String> told = new TreeSet<>();
        TreeSet<String> publicNames = new TreeSet<>();
        for (Method method : LandQuarters.class.getDeclaredMethods()) {
            if (Modifier.isPrivate(method.getModifiers())) {
                continue;
            }
            due("the modifiers of " + method.getName(), Modifier.PUBLIC, method.getModifiers());
            due("the type of " + method.getName(), method.getName().equals("meanHeight") ? double.class : int.class,
                method.getReturnType());
            for (Class<?> parameter : method.getParameterTypes()) {
                due("a parameter of " + method.getName(), int.class, parameter);
            }
            StringBuilder row = new StringBuilder(method.getName() + " " + method.getParameterCount());
            for (Class<?> exception : method.getExceptionTypes()) {
                row.append(' ').append(exception.getSimpleName());
            }
            told.add(row.toString());
            publicNames.add(method.getName());
        }
        due("the face", new TreeSet<>(List.of(FACE)), told);
        noPrivateNamesake(LandQuarters.class, publicNames);
        for (Class<?> inside : LandQuarters.class.getDeclaredClasses()) {
            due(inside.getName() + " is static", true, Modifier.isStatic(inside.getModifiers()));
            due(inside.getName() + " is public", false, Modifier.isPublic(inside.getModifiers()));
            for (Method method : inside.getDeclaredMethods()) {
                due(inside.getName() + " has a method of the face", false, publicNames.contains(method.getName()));
            }
            fields(inside);
        }
        fields(LandQuarters.class);
        Constructor<?>[] constructors = LandQuarters.class.getDeclaredConstructors();
        due("constructors", 1, constructors.length);
        due("the constructor", Modifier.PUBLIC, constructors[0].getModifiers());
        due("its parameters", 0, constructors[0].getParameterCount());
        due("the class", Modifier.PUBLIC | Modifier.FINAL, LandQuarters.class.getModifiers());
    }

    private static void noPrivateNamesake(Class<?> kind, TreeSet<String> publicNames) {
        for (Method method : kind.getDeclaredMethods()) {
            if (Modifier.isPrivate(method.getModifiers())) {
                due(method.getName() + " is private with a public name", false, publicNames.contains(method.getName()));
            }
        }
    }

    private static void fields(Class<?> kind) {
        int own = 0;
        for (Field field : kind.getDeclaredFields()) {
            if (Modifier.isStatic(field.getModifiers())) {
                due(field + " is final", true, Modifier.isFinal(field.getModifiers()));
            } else {
                own++;
            }
            if (!Modifier.isPrivate(field.getModifiers())) {
                due("a field that is not private", "NONE", field.getName());
            }
        }
        due(kind.getName() + " has at most 20 fields", true, own <= 20);
    }

    private static void source(String text) {
        for (String unwanted : UNWANTED) {
            Matcher found = Pattern.compile(unwanted).matcher(text);
            due("the source has " + unwanted, false, found.find());
        }
        List<String> imports = new ArrayList<>();
        Matcher found = Pattern.compile("(?m)^import (.*);$").matcher(text);
        while (found.find()) {
            imports.add(found.group(1));
        }
        due("the imports", List.of("java.util.Arrays"), imports);
        Matcher thrown = Pattern.compile("throw (?!new (IndexOutOfBounds|IllegalArgument|IllegalState)Exception\\(\"[^\"]*\"\\);)")
            .matcher(text);
        due("another throw", false, thrown.find());
    }

    public static void main(String[] args) throws IOException {
        face();
        if (args.length == 1) {
            source(new String(Files.readAllBytes(Path.of(args[0])), StandardCharsets.ISO_8859_1));
        } else {
            due("the arguments: the path of LandQuarters.java", 1, args.length);
        }
        System.out.println(wrong == 0 ? "all rules are kept" : wrong + " rules are not kept");
        if (wrong != 0) {
            System.exit(1);
        }
    }
}
