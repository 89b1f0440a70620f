/** Promises 20 to 30 and 47: functions, arguments, looking up, deducing, coming to parameters, choosing. */
public final class CallsTest {
    private static final Class<?> INDEX = IndexOutOfBoundsException.class;
    private static final Class<?> ARGUMENT = IllegalArgumentException.class;
    private static final Class<?> STATE = IllegalStateException.class;
    private static final Class<?> NO_ELEMENT = java.util.NoSuchElementException.class;
    private static final Class<?> UNSUPPORTED = UnsupportedOperationException.class;

    private final Checks c = new Checks();

    public static void main(String[] args) {
        CallsTest test = new CallsTest();
        test.functions();
        test.parameters();
        test.requirements();
        test.arguments();
        test.questionsAmiss();
        test.lookUp();
        test.lookUpByTypes();
        test.viability();
        test.directComings();
        test.movingParameterAlone();
        test.valueComings();
        test.pointerComings();
        test.conversions();
        test.deducing();
        test.deducingByBases();
        test.deducedNumbers();
        test.requirementsOfTypes();
        test.choosing();
        test.choosingTemplates();
        test.refusals();
        test.viableShare();
        test.c.finish("CallsTest");
    }

    /** A function with one parameter. */
    private static int function(Overloadery x, int namespace, int name, char mode, int type) {
        int function = x.addFunction(namespace, name, false);
        x.addParameter(function, mode, type);
        return function;
    }

    private static void argument(Overloadery x, int type, char category) {
        x.clearArguments();
        x.addArgument(type, category);
    }

    private void resolves(Overloadery x, String name, int namespace, int called, Object want) {
        c.due(name, () -> x.resolve(namespace, called), want);
        c.due(name + ", anew", () -> x.resolveAnew(namespace, called), want);
    }

    private void functions() {
        Overloadery x = new Overloadery();
        c.due("no namespace", () -> x.addFunction(1, 0, false), INDEX);
        c.due("namespace -1", () -> x.addFunction(-1, 0, false), INDEX);
        c.due("no name", () -> x.addFunction(0, 6, false), ARGUMENT);
        c.due("name -1", () -> x.addFunction(0, -1, false), ARGUMENT);
        c.due("no namespace ahead of no name", () -> x.addFunction(1, 6, false), INDEX);
        for (int i = 0; i < 24; i++) {
            int name = i % 6;
            c.due("function " + i, () -> x.addFunction(0, name, false), i);
        }
        c.due("a 25th", () -> x.addFunction(0, 0, false), STATE);
        c.due("a 25th without a name", () -> x.addFunction(0, 6, false), ARGUMENT);
        c.due("the last one of its name", () -> x.candidates(0, 5), 4);
    }

    private void parameters() {
        Overloadery x = new Overloadery();
        x.addFunction(0, 0, false);
        c.due("no function", () -> x.addParameter(1, 'v', 0), INDEX);
        c.due("function -1", () -> x.addParameter(-1, 'v', 0), INDEX);
        c.due("no type", () -> x.addParameter(0, 'v', 5), INDEX);
        c.due("type -1", () -> x.addParameter(0, 'v', -1), INDEX);
        c.due("no mode", () -> x.addParameter(0, 'l', 0), ARGUMENT);
        c.due("no type ahead of no mode", () -> x.addParameter(0, 'l', 5), INDEX);
        c.due("by value", () -> x.addParameter(0, 'v', 0), 1);
        c.due("by reference", () -> x.addParameter(0, 'r', 1), 2);
        c.due("by moving reference", () -> x.addParameter(0, 'm', 0), 3);
        c.due("a fourth", () -> x.addParameter(0, 'c', 0), STATE);
        c.due("no mode ahead of a fourth", () -> x.addParameter(0, 'x', 0), ARGUMENT);
        x.addFunction(0, 0, false);
        c.due("of another one", () -> x.addParameter(1, 'c', 0), 1);
    }

    private void requirements() {
        Overloadery x = new Overloadery();
        x.addClass(0);
        x.addFunction(0, 0, false);
        c.due("no function", () -> x.require(1, 0, 'p', 0), INDEX);
        c.due("function -1", () -> x.require(-1, 0, 'p', 0), INDEX);
        c.due("no class", () -> x.require(0, 0, 'd', 1), INDEX);
        c.due("class -1", () -> x.require(0, 0, 'd', -1), INDEX);
        c.due("no class ahead of no parameter", () -> x.require(0, 3, 'd', 1), INDEX);
        c.due("no parameter", () -> x.require(0, 3, 'p', 0), ARGUMENT);
        c.due("parameter -1", () -> x.require(0, -1, 'p', 0), ARGUMENT);
        c.due("no letter", () -> x.require(0, 0, 'v', 0), ARGUMENT);
        c.due("the first", () -> x.require(0, 0, 'p', 77), 1);
        c.due("the second", () -> x.require(0, 0, 'd', 0), 2);
        c.due("the third", () -> x.require(0, 1, 'b', 0), 3);
        c.due("the fourth", () -> x.require(0, 2, 'c', 0), 4);
        c.due("a fifth", () -> x.require(0, 0, 'p', 0), STATE);
        c.due("no letter ahead of a fifth", () -> x.require(0, 0, 'v', 0), ARGUMENT);
    }

    private void arguments() {
        Overloadery x = new Overloadery();
        int open = x.parameter(0);
        int openPointer = x.pointerTo(open);
        c.due("nothing to clear", x::clearArguments, 0);
        c.due("no type", () -> x.addArgument(7, 'l'), INDEX);
        c.due("type -1", () -> x.addArgument(-1, 'l'), INDEX);
        c.due("no type ahead of no category", () -> x.addArgument(7, 'v'), INDEX);
        c.due("an open type", () -> x.addArgument(open, 'l'), ARGUMENT);
        c.due("a pointer to one", () -> x.addArgument(openPointer, 'l'), ARGUMENT);
        c.due("no category", () -> x.addArgument(0, 'c'), ARGUMENT);
        c.due("the first", () -> x.addArgument(0, 'l'), 1);
        c.due("the second", () -> x.addArgument(0, 'k'), 2);
        c.due("the third", () -> x.addArgument(0, 'r'), 3);
        c.due("a fourth", () -> x.addArgument(0, 'l'), STATE);
        c.due("no category ahead of a fourth", () -> x.addArgument(0, 'x'), ARGUMENT);
        c.due("three cleared", x::clearArguments, 3);
        c.due("nothing left", x::clearArguments, 0);
        c.due("the first again", () -> x.addArgument(0, 'l'), 1);
    }

    private void questionsAmiss() {
        Overloadery x = new Overloadery();
        function(x, 0, 0, 'v', 2);
        x.addArgument(x.pointerTo(0), 'l');
        c.due("candidates in no namespace", () -> x.candidates(1, 0), INDEX);
        c.due("candidates in namespace -1", () -> x.candidates(-1, 0), INDEX);
        c.due("candidates of no name", () -> x.candidates(0, 6), ARGUMENT);
        c.due("candidates of name -1", () -> x.candidates(0, -1), ARGUMENT);
        c.due("candidates of none in none", () -> x.candidates(1, 6), INDEX);
        resolves(x, "resolving in no namespace", 1, 0, INDEX);
        resolves(x, "resolving in namespace -1", -1, 9, INDEX);
        resolves(x, "resolving no name", 0, 6, ARGUMENT);
        resolves(x, "resolving name -1", 0, -1, ARGUMENT);
        c.due("whether no function is viable", () -> x.isViable(1), INDEX);
        c.due("whether function -1 is viable", () -> x.isViable(-1), INDEX);
        c.due("not viable", () -> x.isViable(0), false);
        c.due("coming to no function", () -> x.coming(1, 0), INDEX);
        c.due("coming to function -1", () -> x.coming(-1, 0), INDEX);
        c.due("coming of no argument", () -> x.coming(0, 1), INDEX);
        c.due("coming of argument -1", () -> x.coming(0, -1), INDEX);
        c.due("coming, not viable", () -> x.coming(0, 0), STATE);
        c.due("deduced in no function", () -> x.deduced(1, 0), INDEX);
        c.due("deduced for no parameter", () -> x.deduced(0, 3), INDEX);
        c.due("deduced for parameter -1", () -> x.deduced(0, -1), INDEX);
        c.due("deduced, not viable", () -> x.deduced(0, 0), STATE);
        argument(x, 2, 'l');
        c.due("deduced, stands for nothing", () -> x.deduced(0, 0), NO_ELEMENT);
        x.clearArguments();
        c.due("coming without arguments", () -> x.coming(0, 0), INDEX);
    }

    private void lookUp() {
        Overloadery x = new Overloadery();
        int inner = x.addNamespace(0);
        int innermost = x.addNamespace(inner);
        int beside = x.addNamespace(0);
        c.due("none", () -> x.candidates(innermost, 0), 0);
        x.addFunction(0, 0, false);
        x.addFunction(0, 0, true);
        x.addFunction(0, 1, false);
        c.due("two levels up, deleted ones too", () -> x.candidates(innermost, 0), 2);
        c.due("in it", () -> x.candidates(0, 0), 2);
        c.due("another name", () -> x.candidates(0, 1), 1);
        x.addFunction(inner, 0, false);
        c.due("one level up hides the others", () -> x.candidates(innermost, 0), 1);
        c.due("from beside", () -> x.candidates(beside, 0), 2);
        x.addFunction(beside, 0, false);
        c.due("in its own", () -> x.candidates(beside, 0), 1);
        c.due("not found from the outer one", () -> x.candidates(0, 0), 2);
        x.addFunction(innermost, 1, false);
        c.due("another name does not hide", () -> x.candidates(innermost, 0), 1);
    }

    /** Class i is of namespace i; the functions of name 0 are one in each namespace. */
    private void lookUpByTypes() {
        Overloadery x = new Overloadery();
        for (int i = 0; i < 6; i++) {
            if (i > 0) x.addNamespace(0);
            x.addFunction(i, 0, false);
            x.addClass(i);
        }
        x.addBase(3, 2, false);
        x.addBase(4, 3, true);
        x.addTemplate(1);
        x.addTemplate(2);
        int[] classes = new int[6];
        for (int i = 0; i < 6; i++) {
            classes[i] = x.classType(i);
        }
        int byBase = x.instance(0, 2, -1);
        int two = x.instance(1, x.pointerTo(classes[1]), x.instance(0, classes[2], -1));
        argument(x, classes[1], 'l');
        c.due("of a class", () -> x.candidates(0, 0), 2);
        c.due("each once", () -> x.candidates(1, 0), 1);
        argument(x, classes[4], 'l');
        c.due("of its bases", () -> x.candidates(0, 0), 4);
        argument(x, x.pointerTo(x.pointerTo(classes[3])), 'l');
        c.due("of a pointer's type", () -> x.candidates(0, 0), 3);
        argument(x, 2, 'l');
        c.due("of a basic type", () -> x.candidates(0, 0), 1);
        argument(x, two, 'l');
        c.due("of the types of an instance", () -> x.candidates(0, 0), 3);
        argument(x, byBase, 'l');
        c.due("of an instance without a base", () -> x.candidates(0, 0), 1);
        x.setBase(0, -1, classes[4]);
        c.due("of the bases of an instance", () -> x.candidates(0, 0), 4);
        argument(x, two, 'l');
        c.due("of the bases of an instance in an instance", () -> x.candidates(0, 0), 5);
        x.setBase(0, -1, x.instance(1, x.parameter(0), classes[5]));
        argument(x, byBase, 'l');
        c.due("of the types of a base", () -> x.candidates(0, 0), 2);
        x.addArgument(classes[1], 'r');
        c.due("of two arguments", () -> x.candidates(0, 0), 3);
        c.due("a name without functions", () -> x.candidates(0, 1), 0);
        x.addFunction(1, 1, false);
        c.due("none in the namespace, one by an argument", () -> x.candidates(0, 1), 1);
    }

    private void viability() {
        Overloadery x = new Overloadery();
        int none = x.addFunction(0, 0, false);
        int one = function(x, 0, 0, 'v', 2);
        int two = function(x, 0, 0, 'v', 2);
        x.addParameter(two, 'v', 3);
        c.due("no parameters, no arguments", () -> x.isViable(none), true);
        c.due("one parameter, no arguments", () -> x.isViable(one), false);
        resolves(x, "without arguments", 0, 0, none);
        x.addArgument(2, 'l');
        c.due("no parameters, one argument", () -> x.isViable(none), false);
        c.due("one of each", () -> x.isViable(one), true);
        c.due("two parameters, one argument", () -> x.isViable(two), false);
        x.addArgument(2, 'l');
        c.due("two of each", () -> x.isViable(two), true);
        c.due("the first one's coming", () -> x.coming(two, 0), 1);
        c.due("the second one's coming", () -> x.coming(two, 1), 2000);
    }

    private void directComings() {
        Overloadery x = new Overloadery();
        for (int i = 0; i < 4; i++) {
            x.addClass(0);
            if (i == 1 || i == 2) x.addBase(i, i - 1, false);
        }
        x.addBase(3, 0, false);
        x.addBase(3, 1, false);
        int base = x.classType(0);
        int derived = x.classType(2);
        int twice = x.classType(3);
        int open = x.pointerTo(x.parameter(0));
        int[] same = new int[4];
        int[] toBase = new int[4];
        int[] toOpen = new int[4];
        for (int i = 0; i < 4; i++) {
            same[i] = function(x, 0, 0, "vrcm".charAt(i), derived);
            toBase[i] = function(x, 0, 1, "vrcm".charAt(i), base);
            toOpen[i] = function(x, 0, 2, "vrcm".charAt(i), open);
        }
        int pointer = x.pointerTo(2);
        Object[][] grades = {{1, 0, 1, STATE}, {0, STATE, 0, STATE}, {1, STATE, 1, 0}};
        for (int category = 0; category < 3; category++) {
            char letter = "lkr".charAt(category);
            for (int i = 0; i < 4; i++) {
                int mode = i;
                Object grade = grades[category][i];
                String name = letter + " to " + "vrcm".charAt(i);
                argument(x, derived, letter);
                c.due(name, () -> x.coming(same[mode], 0), grade);
                Object further = grade instanceof Integer ? 2004 + (Integer) grade : grade;
                c.due(name + " of a base", () -> x.coming(toBase[mode], 0), further);
                argument(x, twice, letter);
                c.due(name + " of a base with several parts", () -> x.isViable(toBase[mode]), false);
                argument(x, pointer, letter);
                c.due(name + " of an open type", () -> x.coming(toOpen[mode], 0), grade);
            }
        }
    }

    private void movingParameterAlone() {
        Overloadery x = new Overloadery();
        int any = function(x, 0, 0, 'm', x.parameter(1));
        argument(x, 2, 'l');
        c.due("an 'l' to any", () -> x.coming(any, 0), 1);
        argument(x, 2, 'k');
        c.due("a 'k' to any", () -> x.coming(any, 0), 1);
        argument(x, 2, 'r');
        c.due("an 'r' to any", () -> x.coming(any, 0), 0);
    }

    private void valueComings() {
        Overloadery x = new Overloadery();
        int[] to = new int[5];
        int[] byReference = new int[5];
        for (int i = 0; i < 5; i++) {
            to[i] = function(x, 0, 0, "vcmvc".charAt(i), i);
            byReference[i] = function(x, 0, 1, 'r', i);
        }
        for (int from = 0; from < 5; from++) {
            for (int i = 0; i < 5; i++) {
                if (i == from) continue;
                int target = i;
                int rank = from < 2 && i == 2 ? 1000 : 2000;
                argument(x, from, from % 2 == 0 ? 'l' : 'r');
                c.due("from " + from + " to " + i, () -> x.coming(to[target], 0), rank);
                c.due("from " + from + " to " + i + " by reference", () -> x.isViable(byReference[target]), false);
            }
        }
        int moving = function(x, 0, 2, 'm', 2);
        argument(x, 2, 'l');
        c.due("no value is made of the same type", () -> x.isViable(moving), false);
        argument(x, x.pointerTo(0), 'l');
        c.due("a pointer is no number", () -> x.isViable(to[2]), false);
        argument(x, 0, 'k');
        int pointer = function(x, 0, 3, 'v', x.pointerTo(0));
        c.due("a truth is no pointer", () -> x.isViable(pointer), false);
    }

    private void pointerComings() {
        Overloadery x = new Overloadery();
        for (int i = 0; i < 4; i++) {
            x.addClass(0);
        }
        x.addBase(1, 0, false);
        x.addBase(2, 1, false);
        x.addBase(3, 2, false);
        x.addBase(3, 0, false);
        x.addTemplate(1);
        x.setBase(0, -1, x.classType(3));
        int zero = x.pointerTo(x.classType(0));
        int two = x.pointerTo(x.classType(2));
        int three = x.pointerTo(x.classType(3));
        int instance = x.pointerTo(x.instance(0, 2, -1));
        int toZero = function(x, 0, 0, 'v', zero);
        int toTruth = function(x, 0, 0, 'm', 0);
        int toTwo = function(x, 0, 0, 'r', two);
        argument(x, two, 'l');
        c.due("to a base", () -> x.coming(toZero, 0), 2004);
        c.due("to a truth", () -> x.coming(toTruth, 0), 2099);
        c.due("itself by reference", () -> x.coming(toTwo, 0), 0);
        argument(x, three, 'r');
        c.due("to a base with several parts", () -> x.isViable(toZero), false);
        c.due("to a base by reference", () -> x.isViable(toTwo), false);
        argument(x, instance, 'k');
        c.due("an instance leads to it", () -> x.coming(toZero, 0), 2004);
        argument(x, zero, 'l');
        int back = function(x, 0, 0, 'v', two);
        c.due("not to what it is a base of", () -> x.isViable(back), false);
        argument(x, x.pointerTo(two), 'l');
        int pointers = function(x, 0, 0, 'v', x.pointerTo(zero));
        c.due("a pointer to a pointer has no bases", () -> x.isViable(pointers), false);
        argument(x, x.pointerTo(2), 'r');
        c.due("any pointer to a truth", () -> x.coming(toTruth, 0), 2099);
    }

    private void conversions() {
        Overloadery x = new Overloadery();
        for (int i = 0; i < 4; i++) {
            x.addClass(0);
        }
        x.addBase(1, 0, false);
        int zero = x.classType(0);
        int one = x.classType(1);
        int two = x.classType(2);
        int three = x.classType(3);
        x.addConversion(2, x.pointerTo(zero), true);
        x.addConversion(2, 2, true);
        x.addConversion(3, 1, false);
        int[] toTwo = new int[4];
        for (int i = 0; i < 4; i++) {
            toTwo[i] = function(x, 0, 0, "vrcm".charAt(i), two);
        }
        argument(x, 2, 'l');
        c.due("the same type", () -> x.coming(toTwo[0], 0), 3000);
        c.due("by reference", () -> x.isViable(toTwo[1]), false);
        c.due("by constant reference", () -> x.coming(toTwo[2], 0), 3000);
        c.due("by moving reference", () -> x.coming(toTwo[3], 0), 3000);
        argument(x, 1, 'k');
        c.due("a value first", () -> x.coming(toTwo[0], 0), 3000);
        argument(x, x.pointerTo(one), 'k');
        c.due("a pointer to a base first", () -> x.coming(toTwo[0], 0), 3000);
        argument(x, zero, 'l');
        c.due("no way", () -> x.isViable(toTwo[0]), false);
        argument(x, three, 'l');
        c.due("from 3 to a letter, and no conversion more", () -> x.isViable(toTwo[0]), false);
        int letter = function(x, 0, 1, 'm', 1);
        int fraction = function(x, 0, 1, 'c', 4);
        int pointer = function(x, 0, 1, 'c', x.pointerTo(1));
        c.due("to a letter", () -> x.coming(letter, 0), 3000);
        c.due("to a letter, and a value behind", () -> x.coming(fraction, 0), 3000);
        c.due("not to a pointer", () -> x.isViable(pointer), false);
        x.addConversion(3, 2, false);
        c.due("two are told, one the same", () -> x.coming(letter, 0), -3001);
        severalConversions();
        byBaseOfClass();
    }

    private void severalConversions() {
        Overloadery x = new Overloadery();
        x.addClass(0);
        x.addClass(0);
        int zero = x.classType(0);
        int one = x.classType(1);
        x.addConversion(0, one, true);
        x.addConversion(1, zero, false);
        int function = function(x, 0, 0, 'v', zero);
        argument(x, one, 'r');
        c.due("one of either class", () -> x.coming(function, 0), -3001);
        resolves(x, "not sure", 0, 0, -4);
        int better = function(x, 0, 0, 'r', one);
        resolves(x, "not sure all the same, as the other one takes no 'r'", 0, 0, -4);
        argument(x, one, 'l');
        resolves(x, "a better one is sure", 0, 0, better);
    }

    private void byBaseOfClass() {
        Overloadery x = new Overloadery();
        x.addClass(0);
        x.addClass(0);
        x.addClass(0);
        x.addBase(1, 0, false);
        x.addConversion(0, 2, false);
        x.addConversion(2, x.classType(0), true);
        int whole = function(x, 0, 0, 'v', 2);
        int two = function(x, 0, 1, 'v', x.classType(2));
        argument(x, x.classType(1), 'l');
        c.due("what a base can become", () -> x.isViable(whole), false);
        c.due("from a base is no value that is made", () -> x.isViable(two), false);
    }

    private void deducing() {
        Overloadery x = new Overloadery();
        x.addTemplate(2);
        int t0 = x.parameter(0);
        int t1 = x.parameter(1);
        int p0 = x.pointerTo(t0);
        int same = function(x, 0, 0, 'v', t0);
        x.addParameter(same, 'v', t0);
        int two = function(x, 0, 0, 'v', x.instance(0, t0, t1));
        x.addParameter(two, 'v', p0);
        int mixed = function(x, 0, 0, 'v', t1);
        x.addParameter(mixed, 'v', 4);
        int pointer = x.pointerTo(2);
        x.addArgument(2, 'l');
        x.addArgument(2, 'l');
        c.due("the same twice", () -> x.deduced(same, 0), 2);
        c.due("nothing for parameter 1", () -> x.deduced(same, 1), NO_ELEMENT);
        c.due("an instance does not match", () -> x.isViable(two), false);
        c.due("one open, one not", () -> x.deduced(mixed, 1), 2);
        c.due("a type that is not open may be made", () -> x.coming(mixed, 1), 2000);
        x.clearArguments();
        x.addArgument(2, 'l');
        x.addArgument(3, 'l');
        c.due("not the same twice", () -> x.isViable(same), false);
        x.clearArguments();
        x.addArgument(x.instance(0, 2, 3), 'l');
        x.addArgument(pointer, 'l');
        c.due("from both, 0", () -> x.deduced(two, 0), 2);
        c.due("from both, 1", () -> x.deduced(two, 1), 3);
        x.clearArguments();
        x.addArgument(x.instance(0, 3, 2), 'l');
        x.addArgument(pointer, 'l');
        c.due("what is matched goes on", () -> x.isViable(two), false);
    }

    private void deducingByBases() {
        Overloadery x = new Overloadery();
        x.addTemplate(1);
        x.addTemplate(1);
        x.addTemplate(1);
        int t0 = x.parameter(0);
        x.setBase(1, -1, x.instance(0, x.pointerTo(t0), -1));
        int toBase = function(x, 0, 0, 'c', x.instance(0, t0, -1));
        int pointers = function(x, 0, 0, 'c', x.pointerTo(x.instance(0, t0, -1)));
        int reference = function(x, 0, 0, 'r', x.instance(0, t0, -1));
        int derived = x.instance(1, 2, -1);
        argument(x, derived, 'l');
        c.due("a base's rank and grade", () -> x.coming(toBase, 0), 2003);
        c.due("a base's grade by reference", () -> x.coming(reference, 0), 2002);
        int types = x.types();
        c.due("a type without a number", () -> x.deduced(toBase, 0), types);
        c.due("that is a pointer", () -> x.pointerTo(2), types);
        argument(x, x.pointerTo(derived), 'l');
        c.due("no bases through a pointer", () -> x.isViable(pointers), false);
        x.setBase(2, -1, x.instance(1, t0, -1));
        argument(x, x.instance(2, 2, -1), 'k');
        c.due("two steps", () -> x.coming(toBase, 0), 2004);
        x.specialise(0, x.pointerTo(t0), -1);
        x.setBase(0, 0, x.instance(0, t0, -1));
        c.due("two bases match", () -> x.isViable(toBase), false);
        argument(x, x.instance(0, x.pointerTo(2), -1), 'k');
        c.due("its own type goes ahead of its bases", () -> x.coming(toBase, 0), 0);
        int both = function(x, 0, 1, 'c', t0);
        x.addParameter(both, 'c', x.instance(0, t0, -1));
        x.clearArguments();
        x.addArgument(2, 'k');
        x.addArgument(x.instance(2, 2, -1), 'k');
        c.due("one base, as the parameter stands for something", () -> x.coming(both, 1), 2006);
    }

    private void deducedNumbers() {
        Overloadery x = new Overloadery();
        x.addTemplate(1);
        x.addTemplate(1);
        int t0 = x.parameter(0);
        x.setBase(0, -1, x.instance(1, x.instance(1, t0, -1), -1));
        int function = function(x, 0, 0, 'v', x.instance(1, t0, -1));
        x.addArgument(x.instance(0, 2, -1), 'l');
        x.addArgument(0, 'l');
        c.due("not viable", () -> x.deduced(function, 0), STATE);
        argument(x, x.instance(0, 2, -1), 'l');
        for (int basic = 0; basic < 5; basic++) {
            int type = basic;
            for (int size = 2; size <= 30 && x.types() < 150; size++) {
                type = x.pointerTo(type);
            }
        }
        c.due("150 types", x::types, 150);
        c.due("viable all the same", () -> x.isViable(function), true);
        c.due("one type too many", () -> x.deduced(function, 0), UNSUPPORTED);
        c.due("nothing ahead of too many", () -> x.deduced(function, 1), NO_ELEMENT);
    }

    private void requirementsOfTypes() {
        Overloadery x = new Overloadery();
        x.addClass(0);
        x.addClass(0);
        x.addBase(1, 0, false);
        int t0 = x.parameter(0);
        int derived = function(x, 0, 0, 'c', t0);
        x.require(derived, 0, 'd', 0);
        int basic = function(x, 0, 0, 'c', t0);
        x.require(basic, 0, 'b', 0);
        int plain = function(x, 0, 0, 'c', 4);
        x.require(plain, 0, 'b', 0);
        int other = function(x, 0, 0, 'c', t0);
        x.require(other, 1, 'b', 0);
        argument(x, x.classType(1), 'k');
        c.due("a class that leads to it", () -> x.isViable(derived), true);
        c.due("no basic type", () -> x.isViable(basic), false);
        argument(x, 4, 'k');
        c.due("no class", () -> x.isViable(derived), false);
        c.due("a basic type", () -> x.isViable(basic), true);
        c.due("no parameter stands for anything", () -> x.isViable(plain), false);
        c.due("that parameter stands for nothing", () -> x.isViable(other), false);
    }

    private void choosing() {
        Overloadery x = new Overloadery();
        int whole = function(x, 0, 0, 'v', 2);
        int fraction = function(x, 0, 0, 'v', 4);
        argument(x, 1, 'l');
        resolves(x, "the better rank", 0, 0, whole);
        argument(x, 3, 'l');
        resolves(x, "neither is better", 0, 0, -2);
        argument(x, 4, 'l');
        resolves(x, "the same type", 0, 0, fraction);
        argument(x, x.pointerTo(0), 'l');
        resolves(x, "none is viable", 0, 0, -1);
        resolves(x, "none is there", 0, 1, -1);
        int reference = function(x, 0, 0, 'r', 4);
        int constant = function(x, 0, 0, 'c', 4);
        argument(x, 4, 'l');
        resolves(x, "the better grade", 0, 0, reference);
        argument(x, 4, 'k');
        resolves(x, "by value and by constant reference", 0, 0, -2);
        argument(x, 4, 'r');
        int moving = function(x, 0, 0, 'm', 4);
        resolves(x, "a moving reference", 0, 0, moving);
        c.due("constant reference is viable", () -> x.isViable(constant), true);
        twoArguments();
    }

    private void twoArguments() {
        Overloadery x = new Overloadery();
        int[] functions = new int[3];
        int[][] types = {{2, 4}, {4, 2}, {2, 2}};
        for (int i = 0; i < 2; i++) {
            functions[i] = function(x, 0, 0, 'v', types[i][0]);
            x.addParameter(functions[i], 'v', types[i][1]);
        }
        x.addArgument(2, 'l');
        x.addArgument(2, 'l');
        resolves(x, "each is better for one", 0, 0, -2);
        functions[2] = function(x, 0, 0, 'v', types[2][0]);
        x.addParameter(functions[2], 'v', types[2][1]);
        resolves(x, "one is better for all", 0, 0, functions[2]);
        x.clearArguments();
        x.addArgument(3, 'l');
        x.addArgument(4, 'l');
        resolves(x, "not worse for one, better for another", 0, 0, functions[0]);
    }

    private void choosingTemplates() {
        Overloadery x = new Overloadery();
        int t0 = x.parameter(0);
        int t1 = x.parameter(1);
        int p0 = x.pointerTo(t0);
        int any = function(x, 0, 0, 'v', t0);
        int pointer = x.pointerTo(2);
        int deep = x.pointerTo(pointer);
        argument(x, pointer, 'l');
        resolves(x, "the only one", 0, 0, any);
        int pointers = function(x, 0, 0, 'v', p0);
        resolves(x, "more special", 0, 0, pointers);
        int again = function(x, 0, 0, 'c', x.pointerTo(t1));
        resolves(x, "as special", 0, 0, -2);
        x.require(again, 1, 'b', 0);
        resolves(x, "with more constraints", 0, 0, again);
        x.require(pointers, 0, 'b', 0);
        resolves(x, "with others, by another parameter", 0, 0, -2);
        int plain = function(x, 0, 0, 'v', pointer);
        resolves(x, "no template", 0, 0, plain);
        argument(x, deep, 'l');
        resolves(x, "a pointer to a pointer", 0, 0, any);
        int worse = function(x, 0, 0, 'v', 0);
        c.due("a value that is made", () -> x.coming(worse, 0), 2099);
        resolves(x, "a template with a better rank", 0, 0, any);
        rowsOfTypes();
    }

    private void rowsOfTypes() {
        Overloadery x = new Overloadery();
        int t0 = x.parameter(0);
        int t1 = x.parameter(1);
        int p0 = x.pointerTo(t0);
        int apart = function(x, 0, 0, 'v', t0);
        x.addParameter(apart, 'v', t1);
        int same = function(x, 0, 0, 'v', t0);
        x.addParameter(same, 'v', t0);
        int pointer = x.pointerTo(2);
        x.addArgument(pointer, 'l');
        x.addArgument(pointer, 'l');
        resolves(x, "the same twice is more special", 0, 0, same);
        int first = function(x, 0, 0, 'v', p0);
        x.addParameter(first, 'v', t1);
        resolves(x, "neither row matches the other one", 0, 0, -2);
        c.due("the row with two parameters is viable", () -> x.isViable(apart), true);
    }

    private void refusals() {
        Overloadery x = new Overloadery();
        x.addClass(0);
        int cls = x.classType(0);
        x.addConversion(0, 2, true);
        x.addConversion(0, 3, true);
        int deleted = x.addFunction(0, 0, true);
        x.addParameter(deleted, 'v', 2);
        function(x, 0, 0, 'v', 4);
        int unsure = function(x, 0, 1, 'v', cls);
        argument(x, 2, 'l');
        resolves(x, "deleted", 0, 0, -3);
        resolves(x, "not sure", 0, 1, -4);
        c.due("not sure as a coming", () -> x.coming(unsure, 0), -3001);
        int both = x.addFunction(0, 2, true);
        x.addParameter(both, 'v', cls);
        resolves(x, "deleted ahead of not sure", 0, 2, -3);
    }

    private void viableShare() {
        Overloadery x = new Overloadery();
        c.due("no functions", x::viableShare, ArithmeticException.class);
        x.addFunction(0, 0, false);
        c.due("all", x::viableShare, 1.0f);
        function(x, 0, 1, 'v', 2);
        x.addNamespace(0);
        function(x, 1, 2, 'c', 3);
        c.due("one of three", x::viableShare, 1.0f / 3.0f);
        argument(x, 2, 'l');
        c.due("two of three, wherever they are", x::viableShare, 2.0f / 3.0f);
        argument(x, x.pointerTo(2), 'l');
        c.due("none", x::viableShare, 0.0f);
    }
}
