/** Promises 27, 29 and 30: the ranks and grades, and the answers of resolving, each sentence with what is just beside it. */
public final class RankEdgesTest {
    private static final String MODES = "vrcm";
    private static final String CATEGORIES = "lkr";
    private static final Object NO = Due.STATE;

    private final Checks c = new Checks();
    private boolean isAnewNext;

    public static void main(String[] args) {
        RankEdgesTest test = new RankEdgesTest();
        test.sameType();
        test.parameterAlone();
        test.patternThatIsNotAlone();
        test.basesByDistance();
        test.basesOfInstances();
        test.severalParts();
        test.values();
        test.valuesForAllCategories();
        test.noValueOfTheSameType();
        test.pointersToBases();
        test.pointersOfInstances();
        test.pointersToTruths();
        test.noOtherPointers();
        test.conversions();
        test.conversionsByValues();
        test.noConversionTwice();
        test.severalConversions();
        test.directAheadOfValues();
        test.noneIsViable();
        test.noneIsBetter();
        test.deletedIsChosen();
        test.comingNotSure();
        test.onlyTheChosenOneCounts();
        test.rankAheadOfGrade();
        test.gradesOfTheSameRank();
        test.eachArgumentCounts();
        test.templates();
        test.manyCandidates();
        test.c.finish("RankEdgesTest");
    }

    /** One function for each mode; answers the number of the first one. */
    private static int forModes(Overloadery x, int type) {
        int first = Lives.function(x, 0, 0, MODES.charAt(0), type);
        for (int i = 1; i < 4; i++) {
            Lives.function(x, 0, 0, MODES.charAt(i), type);
        }
        return first;
    }

    /** How an argument of each category comes to each mode, the modes in their order. */
    private void comes(String name, Overloadery x, int type, int first, Object... want) {
        for (int i = 0; i < want.length; i++) {
            char category = CATEGORIES.charAt(i / 4);
            int function = first + i % 4;
            Lives.argument(x, type, category);
            Object due = want[i];
            c.due(name + ", '" + category + "' to '" + MODES.charAt(i % 4) + "'", () -> x.coming(function, 0), due);
        }
    }

    /** Both ways, now the one first and now the other one. */
    private void resolves(String name, Overloadery x, Object want) {
        for (int i = 0; i < 3; i++) {
            boolean isAnew = isAnewNext;
            isAnewNext = !isAnew;
            c.due(name + (isAnew ? ", anew" : ""), () -> isAnew ? x.resolveAnew(0, 0) : x.resolve(0, 0), want);
        }
    }

    /** "Of the same type: rank 0."; "The grade gets 1 more for 'v' and 'c' if the argument is not a 'k'" */
    private void sameType() {
        for (String told : new String[] {"2", "*2", "a", "P2"}) {
            Overloadery x = Lives.withClasses(1);
            x.addTemplate(1);
            int type = new Notation(x, 1).type(told);
            comes("the same " + told, x, type, forModes(x, type), 1, 0, 1, NO, 0, NO, 0, NO, 1, NO, 1, 0);
        }
    }

    /** "one of the mode 'm' an 'r', or any, if its type as told is a parameter alone" */
    private void parameterAlone() {
        for (int parameter = 0; parameter <= 2; parameter++) {
            Overloadery x = new Overloadery();
            int first = forModes(x, x.parameter(parameter));
            comes("a parameter alone", x, 2, first, 1, 0, 1, 1, 0, NO, 0, 1, 1, NO, 1, 0);
        }
    }

    private void patternThatIsNotAlone() {
        Overloadery x = new Overloadery();
        x.addTemplate(1);
        Notation all = new Notation(x, 1);
        int ofPointer = forModes(x, all.type("*x"));
        int ofInstance = forModes(x, all.type("Px"));
        comes("a pointer to a parameter", x, all.type("*2"), ofPointer, 1, 0, 1, NO, 0, NO, 0, NO, 1, NO, 1, 0);
        comes("an instance of a parameter", x, all.type("P2"), ofInstance, 1, 0, 1, NO, 0, NO, 0, NO, 1, NO, 1, 0);
    }

    /** "If the argument's type leads to that of the parameter as a base: rank 2, .. the grade being twice the distance." */
    private void basesByDistance() {
        Overloadery x = Lives.withClasses(12);
        for (int i = 1; i < 12; i++) {
            x.addBase(i, i - 1, i % 2 == 0);
        }
        int first = forModes(x, x.classType(0));
        for (int i = 1; i < 12; i++) {
            int way = 2000 + 2 * i;
            int type = x.classType(i);
            comes("a base by " + i, x, type, first, way + 1, way, way + 1, NO, way, NO, way, NO, way + 1, NO, way + 1, way);
        }
    }

    private void basesOfInstances() {
        for (int i = 1; i <= 7; i++) {
            Overloadery x = Lives.withClasses(1);
            x.addTemplate(1);
            Notation all = new Notation(x, 1);
            x.specialise(0, all.type("*x"), -1);
            x.setBase(0, 0, all.type("Px"));
            x.setBase(0, -1, all.type("a"));
            int toClass = forModes(x, all.type("a"));
            int toInstance = forModes(x, all.type("P2"));
            String pointers = "*".repeat(i - 1);
            comesBySteps("a class by " + i, x, all.type("P" + pointers + "2"), toClass, i);
            comesBySteps("an instance by " + i, x, all.type("P*" + pointers + "2"), toInstance, i);
        }
    }

    private void comesBySteps(String name, Overloadery x, int type, int first, int steps) {
        boolean isBase = steps <= 6;
        Object even = isBase ? 2000 + 2 * steps : NO;
        Object odd = isBase ? 2001 + 2 * steps : NO;
        comes(name, x, type, first, odd, even, odd, NO, even, NO, even, NO, odd, NO, odd, even);
    }

    /** "A class leads to another one if it is this one, or has just one part of it." */
    private void severalParts() {
        Overloadery x = Lives.withClasses(4);
        x.addTemplate(1);
        x.addBase(1, 0, false);
        x.addBase(2, 0, false);
        x.addBase(3, 1, false);
        x.addBase(3, 2, false);
        Notation all = new Notation(x, 1);
        x.setBase(0, -1, all.type("d"));
        int value = Lives.function(x, 0, 0, 'v', all.type("a"));
        int pointer = Lives.function(x, 0, 0, 'v', all.type("*a"));
        Lives.argument(x, all.type("d"), 'k');
        c.due("several parts", () -> x.coming(value, 0), NO);
        Lives.argument(x, all.type("*d"), 'k');
        c.due("a pointer to several parts", () -> x.coming(pointer, 0), NO);
        Lives.argument(x, all.type("P2"), 'k');
        c.due("an instance leads to it all the same", () -> x.coming(value, 0), 2006);
        Lives.argument(x, all.type("*P2"), 'k');
        c.due("a pointer to one, too", () -> x.coming(pointer, 0), 2006);
        Lives.argument(x, all.type("b"), 'k');
        c.due("one part", () -> x.coming(value, 0), 2002);
    }

    /** "from 0 or 1 to 2, rank 1; from one of 0 to 4 to another one of these otherwise, rank 2" */
    private void values() {
        Overloadery x = new Overloadery();
        int[] to = new int[5];
        for (int i = 0; i < 5; i++) {
            to[i] = Lives.function(x, 0, 0, 'v', i);
        }
        for (int i = 0; i < 25; i++) {
            int from = i / 5;
            int target = i % 5;
            boolean isGrowing = from <= 1 && target == 2;
            Lives.argument(x, from, 'k');
            Object want = from == target ? 0 : isGrowing ? 1000 : 2000;
            c.due("from " + from + " to " + target, () -> x.coming(to[target], 0), want);
        }
    }

    /** "by a value that is made, whether it is 'l', 'k' or 'r', with the grade 0 unless told" */
    private void valuesForAllCategories() {
        Overloadery x = new Overloadery();
        int toTwo = forModes(x, 2);
        int toThree = forModes(x, 3);
        comes("rank 1", x, 1, toTwo, 1000, NO, 1000, 1000, 1000, NO, 1000, 1000, 1000, NO, 1000, 1000);
        comes("rank 2", x, 1, toThree, 2000, NO, 2000, 2000, 2000, NO, 2000, 2000, 2000, NO, 2000, 2000);
    }

    private void noValueOfTheSameType() {
        Overloadery x = Lives.withClasses(2);
        x.addBase(1, 0, false);
        int pointer = x.pointerTo(2);
        int zero = x.classType(0);
        int one = x.classType(1);
        int moving = Lives.function(x, 0, 0, 'm', 2);
        int movingPointer = Lives.function(x, 0, 0, 'm', pointer);
        int movingClass = Lives.function(x, 0, 0, 'm', zero);
        for (char category : "lk".toCharArray()) {
            Lives.argument(x, 2, category);
            c.due("a basic type", () -> x.isViable(moving), false);
            Lives.argument(x, pointer, category);
            c.due("a pointer", () -> x.isViable(movingPointer), false);
            Lives.argument(x, zero, category);
            c.due("a class", () -> x.isViable(movingClass), false);
            Lives.argument(x, one, category);
            c.due("a class with that base", () -> x.isViable(movingClass), false);
        }
    }

    /** "from a pointer to a class or an instance to one to a base to which that leads, rank 2, .. twice the distance" */
    private void pointersToBases() {
        Overloadery x = Lives.withClasses(12);
        for (int i = 1; i < 12; i++) {
            x.addBase(i, i - 1, i % 2 == 0);
        }
        int first = forModes(x, x.pointerTo(x.classType(0)));
        for (int i = 1; i < 12; i++) {
            int way = 2000 + 2 * i;
            int type = x.pointerTo(x.classType(i));
            comes("a pointer by " + i, x, type, first, way, NO, way, way, way, NO, way, way, way, NO, way, way);
        }
    }

    private void pointersOfInstances() {
        Overloadery x = Lives.withClasses(1);
        x.addTemplate(1);
        Notation all = new Notation(x, 1);
        x.specialise(0, all.type("*x"), -1);
        x.setBase(0, 0, all.type("Px"));
        x.setBase(0, -1, all.type("a"));
        int toClass = Lives.function(x, 0, 0, 'c', all.type("*a"));
        int toInstance = Lives.function(x, 0, 0, 'c', all.type("*P2"));
        for (int i = 1; i <= 7; i++) {
            Object want = i <= 6 ? 2000 + 2 * i : NO;
            Lives.argument(x, all.type("*P" + "*".repeat(i - 1) + "2"), 'l');
            c.due("to a class by " + i, () -> x.coming(toClass, 0), want);
            Lives.argument(x, all.type("*P" + "*".repeat(i) + "2"), 'r');
            c.due("to an instance by " + i, () -> x.coming(toInstance, 0), want);
        }
    }

    /** "from a pointer to 0, rank 2, the grade 99" */
    private void pointersToTruths() {
        Overloadery x = Lives.withClasses(1);
        x.addTemplate(1);
        Notation all = new Notation(x, 1);
        int first = forModes(x, 0);
        for (String told : new String[] {"*0", "**2", "*a", "*P3"}) {
            int type = all.type(told);
            comes("from " + told, x, type, first, 2099, NO, 2099, 2099, 2099, NO, 2099, 2099, 2099, NO, 2099, 2099);
        }
        for (String told : new String[] {"a", "P3"}) {
            Lives.argument(x, all.type(told), 'k');
            c.due("no truth from " + told, () -> x.isViable(first), false);
        }
    }

    private void noOtherPointers() {
        Overloadery x = Lives.withClasses(2);
        x.addBase(1, 0, false);
        x.addTemplate(1);
        Notation all = new Notation(x, 1);
        String[][] pairs = {
            {"*2", "1"}, {"*2", "2"}, {"*2", "3"}, {"*2", "4"}, {"0", "*0"}, {"2", "*2"}, {"*0", "*2"}, {"*2", "*3"},
            {"**b", "**a"}, {"*a", "*b"}, {"*b", "a"}, {"b", "*a"}, {"*b", "**b"}, {"**b", "*b"}, {"*Pb", "*Pa"},
        };
        for (int i = 0; i < pairs.length; i++) {
            int function = Lives.function(x, 0, i % 6, 'v', all.type(pairs[i][1]));
            Lives.argument(x, all.type(pairs[i][0]), 'r');
            c.due("from " + pairs[i][0] + " to " + pairs[i][1], () -> x.isViable(function), false);
        }
    }

    /** "or by a conversion of a class, rank 3: the parameter's type is a class that can be made from a type, or .." */
    private void conversions() {
        Overloadery x = Lives.withClasses(2);
        int zero = x.classType(0);
        x.addConversion(0, 4, true);
        x.addConversion(0, 3, false);
        int toClass = forModes(x, zero);
        int fromClass = forModes(x, 3);
        comes("made from a type", x, 4, toClass, 3000, NO, 3000, 3000, 3000, NO, 3000, 3000, 3000, NO, 3000, 3000);
        comes("become a type", x, zero, fromClass, 3000, NO, 3000, 3000, 3000, NO, 3000, 3000, 3000, NO, 3000, 3000);
        int other = Lives.function(x, 0, 0, 'v', x.classType(1));
        Lives.argument(x, 4, 'k');
        c.due("another class", () -> x.isViable(other), false);
        Lives.argument(x, x.classType(1), 'k');
        c.due("from another class", () -> x.isViable(fromClass), false);
    }

    /** "to which, or from which on, it is the same type or a way of rank 1 or 2 of a value that is made" */
    private void conversionsByValues() {
        String[][] rows = {
            {"2", "2", "y"}, {"1", "2", "y"}, {"4", "0", "y"}, {"*2", "0", "y"}, {"*c", "*b", "y"}, {"*2", "2", "n"},
            {"2", "*2", "n"}, {"*b", "*c", "n"}, {"*2", "*3", "n"}, {"**c", "**b", "n"}, {"*2", "*2", "y"}, {"*Pd", "*c", "y"},
            {"c", "b", "n"}, {"b", "b", "y"}, {"Pd", "c", "n"}, {"Pd", "Pd", "y"},
        };
        for (String[] row : rows) {
            Overloadery x = Lives.withClasses(4);
            x.addBase(2, 1, false);
            x.addTemplate(1);
            Notation all = new Notation(x, 1);
            x.setBase(0, -1, all.type("c"));
            Object want = row[2].equals("y") ? 3000 : NO;
            x.addConversion(0, all.type(row[1]), true);
            int toClass = Lives.function(x, 0, 0, 'v', all.type("a"));
            Lives.argument(x, all.type(row[0]), 'l');
            c.due("from " + row[0] + " by " + row[1], () -> x.coming(toClass, 0), want);
            x.addConversion(3, all.type(row[0]), false);
            int fromClass = Lives.function(x, 0, 0, 'v', all.type(row[1]));
            Lives.argument(x, all.type("d"), 'l');
            c.due("by " + row[0] + " to " + row[1], () -> x.coming(fromClass, 0), want);
        }
    }

    private void noConversionTwice() {
        Overloadery x = Lives.withClasses(3);
        int zero = x.classType(0);
        int one = x.classType(1);
        x.addConversion(0, one, true);
        x.addConversion(1, 2, true);
        x.addConversion(2, zero, false);
        x.addConversion(0, 3, false);
        int toZero = Lives.function(x, 0, 0, 'v', zero);
        int toThree = Lives.function(x, 0, 0, 'v', 3);
        Lives.argument(x, 2, 'k');
        c.due("from 2 by class 1 to class 0", () -> x.isViable(toZero), false);
        Lives.argument(x, x.classType(2), 'k');
        c.due("class 2 to class 0", () -> x.coming(toZero, 0), 3000);
        c.due("and on to 3", () -> x.isViable(toThree), false);
    }

    /** "If there are several such ways, counting each type that is told, the coming is not sure." */
    private void severalConversions() {
        // From which type to which, from what class 0 can be made, what class 1 can become, and how many ways there are.
        String[][] rows = {
            {"b", "a", "*2 *3", "*2 *3", "0"}, {"b", "a", "b *2", "*2 *3", "1"}, {"b", "a", "*2 b", "*2 *3", "1"},
            {"b", "a", "*2 *3", "a *2", "1"}, {"b", "a", "*2 *3", "*2 a", "1"}, {"b", "a", "b *2", "*3 a", "2"},
            {"2", "a", "*2 *3", "2 a", "0"}, {"2", "a", "2 *3", "2 a", "1"}, {"2", "a", "*2 0", "2 a", "1"},
            {"2", "a", "2 3", "2 a", "2"}, {"2", "a", "0 4", "2 a", "2"}, {"*b", "a", "*b 0", "2 a", "2"},
            {"b", "3", "3 b", "*2 *3", "0"}, {"b", "3", "3 b", "3 *3", "1"}, {"b", "3", "3 b", "a 4", "1"},
            {"b", "3", "3 b", "3 2", "2"}, {"b", "3", "3 b", "0 1", "2"}, {"b", "0", "0 b", "*2 *3", "2"},
        };
        Object[] want = {NO, 3000, -1 - 3000};
        for (String[] row : rows) {
            Overloadery x = Lives.withClasses(2);
            Notation all = new Notation(x);
            for (int i = 0; i < 2; i++) {
                x.addConversion(0, all.type(row[2].split(" ")[i]), true);
                x.addConversion(1, all.type(row[3].split(" ")[i]), false);
            }
            int function = Lives.function(x, 0, 0, 'v', all.type(row[1]));
            Lives.argument(x, all.type(row[0]), 'k');
            c.due(String.join(", ", row), () -> x.coming(function, 0), want[Integer.parseInt(row[4])]);
            boolean isSole = row[4].equals("1");
            resolves(String.join(", ", row), x, row[4].equals("0") ? -1 : isSole ? function : -4);
        }
    }

    /** "If it does not come so" */
    private void directAheadOfValues() {
        Overloadery x = Lives.withClasses(2);
        x.addBase(1, 0, false);
        int zero = x.classType(0);
        int one = x.classType(1);
        x.addConversion(0, one, true);
        x.addConversion(1, zero, false);
        int first = forModes(x, zero);
        comes("a base ahead of conversions", x, one, first, 2003, 2002, 2003, -3001, 2002, NO, 2002, -3001, 2003, NO, 2003,
                2002);
    }

    /** "-1 if none is viable" */
    private void noneIsViable() {
        Overloadery x = new Overloadery();
        resolves("none is there", x, -1);
        Lives.function(x, 0, 1, 'v', 2);
        x.addArgument(2, 'l');
        resolves("one of another name", x, -1);
        Lives.function(x, 0, 0, 'v', x.pointerTo(2));
        resolves("one that is not viable", x, -1);
        int deleted = x.addFunction(0, 0, true);
        x.addParameter(deleted, 'r', 3);
        resolves("a deleted one that is not viable", x, -1);
        int viable = Lives.function(x, 0, 0, 'v', 4);
        resolves("one that is viable", x, viable);
        x.clearArguments();
        resolves("without arguments", x, -1);
    }

    /** "-2 if none is better than all others" */
    private void noneIsBetter() {
        Overloadery x = new Overloadery();
        int none = x.addFunction(0, 0, false);
        resolves("one alone", x, none);
        x.addFunction(0, 0, false);
        resolves("two alike", x, -2);
        int deleted = x.addFunction(0, 0, true);
        resolves("a deleted one among them", x, -2);
        c.due("deleted ones are candidates", () -> x.candidates(0, 0), deleted + 1);
        Overloadery y = new Overloadery();
        Lives.function(y, 0, 0, 'v', 3);
        Lives.function(y, 0, 0, 'v', 4);
        y.addArgument(2, 'l');
        resolves("two of the same rank", y, -2);
        int better = Lives.function(y, 0, 0, 'v', 2);
        resolves("one behind them is better", y, better);
        Lives.function(y, 0, 0, 'c', 2);
        resolves("another one is as good", y, -2);
        int best = Lives.function(y, 0, 0, 'r', 2);
        resolves("the last one is better", y, best);
    }

    /** "-3 if the chosen one is deleted" */
    private void deletedIsChosen() {
        Overloadery x = new Overloadery();
        int deleted = x.addFunction(0, 0, true);
        x.addParameter(deleted, 'v', 2);
        int worse = Lives.function(x, 0, 0, 'v', 3);
        x.addArgument(2, 'l');
        resolves("the better one is deleted", x, -3);
        Lives.argument(x, 3, 'l');
        resolves("the worse one is deleted", x, worse);
        Lives.argument(x, 4, 'l');
        resolves("neither is better", x, -2);
        c.due("a deleted one is viable", () -> x.isViable(deleted), true);
    }

    /** "-4 if one of its comings is not sure" */
    private void comingNotSure() {
        for (int at = 0; at < 3; at++) {
            Overloadery x = Lives.withClasses(1);
            int cls = x.classType(0);
            x.addConversion(0, 2, true);
            int function = x.addFunction(0, 0, false);
            int deleted = x.addFunction(0, 1, true);
            for (int i = 0; i < 3; i++) {
                x.addParameter(function, 'v', i == at ? cls : 4);
                x.addParameter(deleted, 'v', i == at ? cls : 4);
                x.addArgument(2, 'l');
            }
            resolves("one way for argument " + at, x, function);
            x.addConversion(0, 3, true);
            resolves("two ways for argument " + at, x, -4);
            c.due("deleted, too", () -> x.resolve(0, 1), -3);
            c.due("deleted, too, anew", () -> x.resolveAnew(0, 1), -3);
            c.due("viable all the same", () -> x.isViable(function), true);
        }
    }

    private void onlyTheChosenOneCounts() {
        Overloadery x = Lives.withClasses(2);
        for (int i = 0; i < 2; i++) {
            x.addConversion(i, 2, true);
            x.addConversion(i, 3, true);
            Lives.function(x, 0, 0, 'v', x.classType(i));
        }
        x.addArgument(2, 'l');
        resolves("two of rank 3, neither of them sure", x, -2);
        int sure = Lives.function(x, 0, 0, 'v', 4);
        resolves("one of rank 2", x, sure);
        int deleted = x.addFunction(0, 0, true);
        x.addParameter(deleted, 'v', 2);
        resolves("a deleted one of rank 0", x, -3);
    }

    /** "if for no argument its rank is greater, or its grade for the same rank, and for some less" */
    private void rankAheadOfGrade() {
        Overloadery x = Lives.withClasses(2);
        x.addBase(1, 0, false);
        x.addConversion(1, 2, false);
        int zero = x.classType(0);
        int one = x.classType(1);
        int conversion = Lives.function(x, 0, 0, 'v', 2);
        Lives.argument(x, one, 'l');
        resolves("rank 3 alone", x, conversion);
        int base = Lives.function(x, 0, 0, 'v', zero);
        resolves("rank 2 and a grade ahead of rank 3", x, base);
        int same = Lives.function(x, 0, 0, 'v', one);
        resolves("rank 0 and a grade ahead of rank 2", x, same);
        Overloadery y = new Overloadery();
        int[] to = {Lives.function(y, 0, 0, 'v', 3), Lives.function(y, 0, 0, 'v', 2), Lives.function(y, 0, 0, 'v', 1)};
        y.addArgument(1, 'l');
        resolves("rank 0 and the grade 1 ahead of rank 1 and 0", y, to[2]);
        Lives.argument(y, 0, 'l');
        resolves("rank 1 ahead of rank 2", y, to[1]);
    }

    private void gradesOfTheSameRank() {
        Overloadery x = Lives.withClasses(4);
        for (int i = 1; i < 4; i++) {
            x.addBase(i, i - 1, false);
        }
        int[] to = new int[3];
        for (int i = 0; i < 3; i++) {
            to[i] = Lives.function(x, 0, 0, i == 1 ? 'r' : 'v', x.classType(i));
            Lives.argument(x, x.classType(3), 'l');
            resolves("the nearer one of " + i, x, to[i]);
        }
        Lives.argument(x, x.pointerTo(x.classType(3)), 'l');
        int truth = Lives.function(x, 0, 0, 'v', 0);
        resolves("the grade 99 alone", x, truth);
        int far = Lives.function(x, 0, 0, 'v', x.pointerTo(x.classType(0)));
        resolves("a base ahead of the grade 99", x, far);
        Lives.argument(x, 2, 'r');
        int value = Lives.function(x, 0, 0, 'v', 2);
        resolves("the grade 1", x, value);
        int moving = Lives.function(x, 0, 0, 'm', 2);
        resolves("the grade 0 ahead of the grade 1", x, moving);
    }

    private void eachArgumentCounts() {
        int[][] own = {{2, 2, 2}, {2, 2, 4}, {2, 4, 4}, {4, 2, 2}, {2, 2, 2}, {2, 4, 2}};
        int[][] other = {{4, 4, 4}, {2, 2, 2}, {4, 2, 4}, {2, 2, 2}, {2, 2, 2}, {2, 4, 4}};
        int[] want = {0, 1, -2, 1, -2, 0};
        for (int i = 0; i < want.length; i++) {
            Overloadery x = new Overloadery();
            x.addFunction(0, 0, false);
            x.addFunction(0, 0, false);
            for (int j = 0; j < 3; j++) {
                x.addParameter(0, 'v', own[i][j]);
                x.addParameter(1, 'v', other[i][j]);
                x.addArgument(2, 'l');
            }
            resolves("three arguments, row " + i, x, want[i]);
        }
    }

    /** "or, if all are alike, if it is no template, and the other one is; or, if both are, if its types are more special" */
    private void templates() {
        Object[][] rows = {
            {"*2", "x", 0}, {"x", "*2", 1}, {"*x", "x", 0}, {"x", "*x", 1}, {"x", "y", -2}, {"*x", "*y", -2}, {"**x", "*x", 0},
        };
        for (Object[] row : rows) {
            Overloadery x = new Overloadery();
            Notation all = new Notation(x);
            for (int i = 0; i < 2; i++) {
                Lives.function(x, 0, 0, 'v', all.type((String) row[i]));
            }
            boolean isDeep = row[0].equals("**x");
            x.addArgument(all.type(isDeep ? "**2" : "*2"), 'l');
            resolves(row[0] + " and " + row[1], x, row[2]);
        }
        Overloadery x = new Overloadery();
        Notation all = new Notation(x);
        int special = Lives.function(x, 0, 0, 'v', all.type("*x"));
        int better = Lives.function(x, 0, 0, 'r', all.type("x"));
        Lives.function(x, 0, 0, 'v', 0);
        x.addArgument(all.type("*2"), 'l');
        resolves("the grade goes ahead of what is more special", x, better);
        Lives.argument(x, all.type("*2"), 'k');
        resolves("what is more special goes ahead for the same grade", x, special);
        noTemplateWhateverItsTypes();
        moreConstraints();
    }

    private void noTemplateWhateverItsTypes() {
        Overloadery x = new Overloadery();
        Notation all = new Notation(x);
        String[] own = {"*2", "3"};
        String[] other = {"x", "4"};
        x.addFunction(0, 0, false);
        x.addFunction(0, 0, false);
        for (int i = 0; i < 2; i++) {
            x.addParameter(0, 'v', all.type(other[i]));
            x.addParameter(1, 'v', all.type(own[i]));
            x.addArgument(all.type(i == 0 ? "*2" : "2"), 'l');
        }
        resolves("no template, though neither row matches the other one", x, 1);
        x.addParameter(0, 'v', 2);
        resolves("the template has a parameter more", x, 1);
    }

    private void moreConstraints() {
        Overloadery x = new Overloadery();
        int t0 = x.parameter(0);
        int[] functions = {Lives.function(x, 0, 0, 'v', t0), Lives.function(x, 0, 0, 'v', t0)};
        x.addArgument(2, 'l');
        resolves("as special", x, -2);
        x.require(functions[1], 0, 'b', 0);
        resolves("with more constraints", x, functions[1]);
        x.require(functions[0], 0, 'b', 0);
        resolves("with the same constraints", x, -2);
        int third = Lives.function(x, 0, 0, 'v', t0);
        x.require(third, 0, 'p', 0);
        resolves("one that is not viable does not count", x, -2);
    }

    private void manyCandidates() {
        Overloadery x = new Overloadery();
        for (int i = 0; i < 24; i++) {
            Lives.function(x, 0, 0, 'v', i == 23 ? 2 : 4);
        }
        x.addArgument(2, 'l');
        resolves("the last of 24", x, 23);
        Lives.argument(x, 4, 'l');
        resolves("none of 23", x, -2);
        Overloadery y = new Overloadery();
        for (int i = 0; i < 24; i++) {
            Lives.function(y, 0, 0, 'v', i == 0 ? 2 : 4);
        }
        y.addArgument(2, 'l');
        resolves("the first of 24", y, 0);
    }
}
