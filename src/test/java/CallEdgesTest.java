/** Promises 20 to 28 and 47: each sentence that names a bound, at the last value that is taken and the first refused. */
public final class CallEdgesTest {
    private final Checks c = new Checks();
    private final Range range = new Range(c);

    public static void main(String[] args) {
        CallEdgesTest test = new CallEdgesTest();
        test.functionOfNothing();
        test.twentyFourFunctions();
        test.parameterOfNothing();
        test.modes();
        test.threeParameters();
        test.requirementOfNothing();
        test.fourRequirements();
        test.argumentOfNothing();
        test.argumentOfWhat();
        test.threeArguments();
        test.clearing();
        test.candidatesOfNothing();
        test.candidatesUpToTheFirst();
        test.candidatesCounted();
        test.candidatesByArguments();
        test.candidatesByBases();
        test.viableOfNothing();
        test.asManyParameters();
        test.comingOfNothing();
        test.comingOfNotViable();
        test.deducedOfNothing();
        test.deducedOfNotViable();
        test.deducedBasicTypes();
        test.deducedByOneOfMoreBases();
        test.deducedAsLastType();
        test.deducedTypeAlone();
        test.deducing();
        test.deducingToSixthStep();
        test.constraintsOfFunctions();
        test.toldBetweenCalls();
        test.shareOfNone();
        test.shares();
        test.c.finish("CallEdgesTest");
    }

    private static int function(Overloadery x, char mode, int type) {
        return Lives.function(x, 0, 0, mode, type);
    }

    private static void arguments(Overloadery x, int... types) {
        x.clearArguments();
        for (int type : types) {
            x.addArgument(type, 'k');
        }
    }

    private void functionOfNothing() {
        Overloadery x = new Overloadery();
        range.refused("of no namespace", 0, 0, v -> x.addFunction(v, 0, false), Due.INDEX);
        for (int i = 0; i < 5; i++) {
            x.addNamespace(0);
        }
        range.refused("of no namespace of six", 0, 5, v -> x.addFunction(v, 0, true), Due.INDEX);
        range.refused("of no name", 0, 5, v -> x.addFunction(0, v, false), Due.ARGUMENT);
        range.refused("of neither", 0, 5, v -> x.addFunction(v, v, false), Due.INDEX);
        c.due("the last namespace, the last name", () -> x.addFunction(5, 5, false), 0);
        c.due("the first namespace, the first name", () -> x.addFunction(0, 0, true), 1);
    }

    /** "At most 24 functions are numbered from 0, each with a name from 0 to 5" */
    private void twentyFourFunctions() {
        Overloadery x = new Overloadery();
        for (int i = 0; i < 24; i++) {
            int name = i % 6;
            c.due("function " + i, () -> x.addFunction(0, name, false), i);
        }
        c.due("a 25th", () -> x.addFunction(0, 0, false), Due.STATE);
        c.due("a deleted 25th", () -> x.addFunction(0, 5, true), Due.STATE);
        range.refused("a 25th of no namespace", 0, 0, v -> x.addFunction(v, 0, false), Due.INDEX);
        range.refused("a 25th of no name", 0, 5, v -> x.addFunction(0, v, false), Due.ARGUMENT);
        for (int i = 0; i < 6; i++) {
            int name = i;
            c.due("four of each name", () -> x.candidates(0, name), 4);
        }
        c.due("the last one", () -> x.isViable(23), true);
        c.due("no 25th", () -> x.isViable(24), Due.INDEX);
    }

    private void parameterOfNothing() {
        Overloadery x = new Overloadery();
        c.due("no function at all", () -> x.addParameter(0, 'v', 0), Due.INDEX);
        x.addFunction(0, 0, false);
        x.addFunction(0, 0, false);
        range.refused("of no function", 0, 1, v -> x.addParameter(v, 'v', 0), Due.INDEX);
        range.refused("of no type", 0, 4, v -> x.addParameter(0, 'v', v), Due.INDEX);
        c.due("of no function ahead of no mode", () -> x.addParameter(2, 'x', 0), Due.INDEX);
        c.due("of no type ahead of no mode", () -> x.addParameter(1, 'x', 5), Due.INDEX);
        c.due("the last type", () -> x.addParameter(1, 'v', 4), 1);
        c.due("the first type", () -> x.addParameter(0, 'v', 0), 1);
    }

    /** "'v' by value, 'r' by reference, 'c' by constant reference, 'm' by moving reference" */
    private void modes() {
        Overloadery x = new Overloadery();
        x.addFunction(0, 0, false);
        range.refusedBut("vrcm", "no mode", v -> x.addParameter(0, v, 0), Due.ARGUMENT);
        for (char mode : "vrcm".toCharArray()) {
            int function = x.addFunction(0, 0, false);
            c.due("the mode " + mode, () -> x.addParameter(function, mode, 0), 1);
        }
    }

    /** "with at most 3 parameters" */
    private void threeParameters() {
        Overloadery x = new Overloadery();
        x.addFunction(0, 0, false);
        x.addFunction(0, 0, false);
        for (int i = 1; i <= 3; i++) {
            c.due("parameter " + i, () -> x.addParameter(0, 'v', 2), i);
        }
        c.due("a fourth", () -> x.addParameter(0, 'v', 2), Due.STATE);
        c.due("no function ahead of a fourth", () -> x.addParameter(2, 'v', 2), Due.INDEX);
        c.due("no type ahead of a fourth", () -> x.addParameter(0, 'v', 5), Due.INDEX);
        c.due("no mode ahead of a fourth", () -> x.addParameter(0, 'k', 2), Due.ARGUMENT);
        c.due("another one has its own", () -> x.addParameter(1, 'v', 2), 1);
        arguments(x, 2, 2, 2);
        c.due("three it has", () -> x.isViable(0), true);
    }

    private void requirementOfNothing() {
        Overloadery x = Lives.withClasses(1);
        c.due("no function at all", () -> x.require(0, 0, 'b', 0), Due.INDEX);
        x.addFunction(0, 0, false);
        x.addFunction(0, 0, false);
        range.refused("of no function", 0, 1, v -> x.require(v, 0, 'b', 0), Due.INDEX);
        range.refused("of no parameter", 0, 2, v -> x.require(0, v, 'b', 0), Due.ARGUMENT);
        range.refused("of no class", 0, 0, v -> x.require(0, 0, 'd', v), Due.INDEX);
        range.refusedBut("pcbd", "of no letter", v -> x.require(0, 0, v, 0), Due.ARGUMENT);
        c.due("of no function ahead of no letter", () -> x.require(2, 0, 'x', 0), Due.INDEX);
        c.due("of no class ahead of no parameter", () -> x.require(0, 3, 'd', 1), Due.INDEX);
        c.due("of no parameter, with a class", () -> x.require(0, 3, 'd', 0), Due.ARGUMENT);
        c.due("the last function", () -> x.require(1, 0, 'b', 0), 1);
        c.due("the last parameter", () -> x.require(1, 2, 'd', 0), 2);
    }

    private void fourRequirements() {
        Overloadery x = Lives.withClasses(1);
        int t0 = x.parameter(0);
        for (int last = 0; last < 4; last++) {
            int function = function(x, 'v', t0);
            for (int i = 0; i < 4; i++) {
                boolean isLast = i == last;
                c.due("one more", () -> x.require(function, 0, isLast ? 'c' : 'b', 0), i + 1);
            }
            c.due("a fifth", () -> x.require(function, 0, 'b', 0), Due.STATE);
            c.due("a fifth with a class", () -> x.require(function, 0, 'd', 0), Due.STATE);
            c.due("no function ahead of a fifth", () -> x.require(9, 0, 'b', 0), Due.INDEX);
            c.due("no class ahead of a fifth", () -> x.require(function, 0, 'd', 1), Due.INDEX);
            range.refused("no parameter ahead of a fifth", 0, 2, v -> x.require(function, v, 'b', 0), Due.ARGUMENT);
            c.due("no letter ahead of a fifth", () -> x.require(function, 0, 'a', 0), Due.ARGUMENT);
        }
        int all = function(x, 'v', t0);
        for (int i = 0; i < 4; i++) {
            x.require(all, 0, 'b', 0);
        }
        arguments(x, 2);
        c.due("all four hold", () -> x.isViable(all), true);
        for (int i = 0; i < 4; i++) {
            int function = i;
            c.due("one of four does not hold", () -> x.isViable(function), false);
        }
    }

    private void argumentOfNothing() {
        Overloadery x = new Overloadery();
        range.refused("of no type", 0, 4, v -> x.addArgument(v, 'l'), Due.INDEX);
        range.refused("of no type and no category", 0, 4, v -> x.addArgument(v, 'x'), Due.INDEX);
        range.refusedBut("lkr", "of no category", v -> x.addArgument(0, v), Due.ARGUMENT);
        c.due("the last type", () -> x.addArgument(4, 'l'), 1);
        c.due("the first type", () -> x.addArgument(0, 'k'), 2);
        c.due("the third category", () -> x.addArgument(0, 'r'), 3);
    }

    /** "each has a type that is not open" */
    private void argumentOfWhat() {
        Overloadery x = Lives.withClasses(1);
        x.addTemplate(1);
        x.addTemplate(2);
        Notation all = new Notation(x, 1, 2);
        for (String open : new String[] {"x", "z", "*y", "**x", "Px", "P*x", "Q2x", "Qx2", "*Q2P*z"}) {
            int type = all.type(open);
            c.due("open, " + open, () -> x.addArgument(type, 'l'), Due.ARGUMENT);
        }
        for (String closed : new String[] {"2", "*2", "a", "P*2", "Q2a", "*Q2P*3"}) {
            int type = all.type(closed);
            c.due("not open, " + closed, () -> x.addArgument(type, 'l'), 1);
            x.clearArguments();
        }
    }

    /** "A call has at most 3 arguments" */
    private void threeArguments() {
        Overloadery x = new Overloadery();
        int open = x.parameter(0);
        for (int i = 1; i <= 3; i++) {
            c.due("argument " + i, () -> x.addArgument(2, 'r'), i);
        }
        c.due("a fourth", () -> x.addArgument(2, 'l'), Due.STATE);
        range.refused("a fourth of no type", 0, open, v -> x.addArgument(v, 'l'), Due.INDEX);
        c.due("a fourth of an open type", () -> x.addArgument(open, 'l'), Due.ARGUMENT);
        c.due("a fourth of no category", () -> x.addArgument(2, 'v'), Due.ARGUMENT);
        c.due("three there were", x::clearArguments, 3);
    }

    private void clearing() {
        Overloadery x = new Overloadery();
        int none = x.addFunction(0, 0, false);
        for (int i = 0; i <= 3; i++) {
            for (int j = 0; j < i; j++) {
                x.addArgument(0, 'l');
            }
            c.due("with " + i, () -> x.isViable(none), i == 0);
            c.due("cleared " + i, x::clearArguments, i);
            c.due("nothing left", x::clearArguments, 0);
            c.due("without arguments", () -> x.isViable(none), true);
        }
    }

    private void candidatesOfNothing() {
        Overloadery x = new Overloadery();
        x.addNamespace(0);
        x.addFunction(1, 5, false);
        Checks.Call none = () -> x.candidates(2, 6);
        c.due("of no namespace ahead of no name", none, Due.INDEX);
        c.due("resolving likewise", () -> x.resolve(-1, -1), Due.INDEX);
        c.due("and anew", () -> x.resolveAnew(2, 6), Due.INDEX);
        range.refused("of no namespace", 0, 1, v -> x.candidates(v, 0), Due.INDEX);
        range.refused("resolving in no namespace", 0, 1, v -> x.resolve(v, 0), Due.INDEX);
        range.refused("resolving in no namespace anew", 0, 1, v -> x.resolveAnew(v, 0), Due.INDEX);
        range.refused("of no name", 0, 5, v -> x.candidates(0, v), Due.ARGUMENT);
        range.refused("resolving no name", 0, 5, v -> x.resolve(1, v), Due.ARGUMENT);
        range.refused("resolving no name anew", 0, 5, v -> x.resolveAnew(1, v), Due.ARGUMENT);
        c.due("the last namespace and name", () -> x.candidates(1, 5), 1);
        c.due("to resolve", () -> x.resolve(1, 5), 0);
        c.due("to resolve anew", () -> x.resolveAnew(1, 5), 0);
        c.due("none by another name", () -> x.candidates(1, 0), 0);
    }

    /** "or, if there are none, in the one in which that is, and so on up to the first one that has some" */
    private void candidatesUpToTheFirst() {
        Overloadery x = new Overloadery();
        for (int i = 0; i < 5; i++) {
            x.addNamespace(i);
        }
        c.due("none up to the outermost", () -> x.candidates(5, 2), 0);
        for (int i = 0; i < 6; i++) {
            for (int j = 0; j <= i; j++) {
                x.addFunction(i, 2, j == 0);
            }
            int has = i;
            for (int j = 0; j < 6; j++) {
                int from = j;
                c.due("from " + j + " up to " + Math.min(i, j), () -> x.candidates(from, 2), Math.min(has, from) + 1);
            }
        }
        c.due("no other name", () -> x.candidates(5, 1), 0);
    }

    private void candidatesCounted() {
        Overloadery x = Lives.withClasses(1);
        x.addArgument(x.classType(0), 'l');
        for (int i = 0; i <= 24; i++) {
            c.due(i + " of them", () -> x.candidates(0, 3), i);
            if (i < 24) x.addFunction(0, 3, i % 2 == 0);
        }
        c.due("each once, though the class is of the same namespace", () -> x.candidates(0, 3), 24);
    }

    /** "of a class, its own one and those of its bases; of a pointer, those of its type; of an instance, those of its types" */
    private void candidatesByArguments() {
        Overloadery x = new Overloadery();
        for (int i = 1; i < 6; i++) {
            x.addNamespace(0);
            x.addFunction(i, 0, false);
            x.addClass(i);
        }
        x.addBase(2, 1, true);
        x.addBase(3, 2, false);
        x.addMember(3, 0);
        x.addTemplate(1);
        x.addTemplate(2);
        Notation all = new Notation(x, 1, 2);
        String[] types = {"2", "*2", "a", "b", "c", "d", "*d", "***c", "Pd", "P*d", "Qac", "Qa2", "Q2e", "QPaPb", "Q*dPe"};
        int[] counts = {0, 0, 1, 1, 2, 3, 3, 2, 3, 3, 3, 1, 1, 2, 4};
        for (int i = 0; i < types.length; i++) {
            arguments(x, all.type(types[i]));
            c.due("by " + types[i], () -> x.candidates(0, 0), counts[i]);
        }
        arguments(x, all.type("a"), all.type("*b"), all.type("e"));
        c.due("by each of three", () -> x.candidates(0, 0), 3);
        arguments(x, all.type("d"), all.type("d"), all.type("c"));
        c.due("each function once", () -> x.candidates(0, 0), 3);
        c.due("one is of the namespace itself", () -> x.candidates(2, 0), 3);
        c.due("one more is of the namespace itself", () -> x.candidates(1, 0), 4);
        c.due("none by another name", () -> x.candidates(1, 1), 0);
    }

    /** ".. and of its bases, in the same way" */
    private void candidatesByBases() {
        Overloadery x = new Overloadery();
        for (int i = 1; i < 6; i++) {
            x.addNamespace(0);
            x.addFunction(i, 0, false);
            x.addClass(i);
        }
        x.addBase(4, 3, false);
        x.addTemplate(1);
        x.addTemplate(1);
        Notation all = new Notation(x, 1, 1);
        int of = all.type("P*2");
        arguments(x, of);
        c.due("without a base", () -> x.candidates(0, 0), 0);
        x.setBase(0, -1, all.type("a"));
        c.due("a class", () -> x.candidates(0, 0), 1);
        x.setBase(0, -1, all.type("e"));
        c.due("a class with a base", () -> x.candidates(0, 0), 2);
        x.setBase(0, -1, all.type("Qb"));
        c.due("an instance with a class", () -> x.candidates(0, 0), 1);
        x.setBase(1, -1, all.type("e"));
        c.due("and that with a base", () -> x.candidates(0, 0), 3);
        x.setBase(0, -1, -1);
        x.specialise(0, all.type("*x"), -1);
        x.setBase(0, 0, all.type("Px"));
        for (int i = 1; i <= 5; i++) {
            of = all.type("P" + "*".repeat(i) + "c");
            arguments(x, of);
            c.due("the class in it", () -> x.candidates(0, 0), 1);
            arguments(x, all.type("P" + "*".repeat(i) + "2"));
            c.due("none in it", () -> x.candidates(0, 0), 0);
        }
        x.setBase(0, -1, all.type("a"));
        arguments(x, all.type("P*****2"));
        c.due("a class at the sixth step", () -> x.candidates(0, 0), 1);
    }

    private void viableOfNothing() {
        Overloadery x = new Overloadery();
        c.due("no function at all", () -> x.isViable(0), Due.INDEX);
        for (int i = 0; i < 24; i++) {
            range.refused("no function of " + i, 0, i - 1, x::isViable, Due.INDEX);
            x.addFunction(0, 0, false);
        }
        range.refused("no function of 24", 0, 23, x::isViable, Due.INDEX);
        c.due("the first one", () -> x.isViable(0), true);
        c.due("the last one", () -> x.isViable(23), true);
    }

    /** "A candidate is viable if it has as many parameters" */
    private void asManyParameters() {
        Overloadery x = new Overloadery();
        for (int i = 0; i <= 3; i++) {
            x.addFunction(0, 0, false);
            for (int j = 0; j < i; j++) {
                x.addParameter(i, 'v', 2);
            }
        }
        for (int i = 0; i <= 3; i++) {
            int count = i;
            for (int j = 0; j <= 3; j++) {
                int function = j;
                c.due(j + " parameters, " + i + " arguments", () -> x.isViable(function), count == function);
            }
            c.due("the one that is chosen", () -> x.resolve(0, 0), i);
            if (i < 3) x.addArgument(2, 'l');
        }
    }

    private void comingOfNothing() {
        Overloadery x = new Overloadery();
        c.due("to no function at all", () -> x.coming(0, 0), Due.INDEX);
        function(x, 'v', 2);
        c.due("without arguments", () -> x.coming(0, 0), Due.INDEX);
        arguments(x, 2);
        range.refused("to no function", 0, 0, v -> x.coming(v, 0), Due.INDEX);
        range.refused("of no argument", 0, 0, v -> x.coming(0, v), Due.INDEX);
        c.due("of the only argument", () -> x.coming(0, 0), 0);
        x.addFunction(0, 0, false);
        for (int i = 0; i < 3; i++) {
            x.addParameter(1, 'c', i);
        }
        arguments(x, 0, 1, 2);
        range.refused("of no argument of three", 0, 2, v -> x.coming(1, v), Due.INDEX);
        c.due("of the last argument", () -> x.coming(1, 2), 0);
        c.due("to the last function", () -> x.coming(1, 0), 0);
        range.refused("to no function of two", 0, 1, v -> x.coming(v, 0), Due.INDEX);
    }

    private void comingOfNotViable() {
        Overloadery x = new Overloadery();
        int pointer = x.pointerTo(2);
        function(x, 'v', pointer);
        arguments(x, 2);
        c.due("not viable", () -> x.coming(0, 0), Due.STATE);
        c.due("no argument ahead of not viable", () -> x.coming(0, 1), Due.INDEX);
        c.due("no function ahead of not viable", () -> x.coming(1, 0), Due.INDEX);
        arguments(x, pointer, pointer);
        c.due("too many arguments", () -> x.coming(0, 0), Due.STATE);
        c.due("the second of them", () -> x.coming(0, 1), Due.STATE);
        c.due("the third of them", () -> x.coming(0, 2), Due.INDEX);
        x.addParameter(0, 'r', pointer);
        c.due("the first would come, the second does not", () -> x.coming(0, 0), Due.STATE);
    }

    private void deducedOfNothing() {
        Overloadery x = new Overloadery();
        c.due("in no function at all", () -> x.deduced(0, 0), Due.INDEX);
        int t2 = x.parameter(2);
        int t0 = x.parameter(0);
        function(x, 'v', t2);
        x.addParameter(0, 'v', t0);
        arguments(x, 3, 4);
        range.refused("in no function", 0, 0, v -> x.deduced(v, 0), Due.INDEX);
        range.refused("for no parameter", 0, 2, v -> x.deduced(0, v), Due.INDEX);
        range.refused("for no parameter of no function", 0, 2, v -> x.deduced(1, v), Due.INDEX);
        c.due("for the first one", () -> x.deduced(0, 0), 4);
        c.due("for the last one", () -> x.deduced(0, 2), 3);
        c.due("for one that stands for nothing", () -> x.deduced(0, 1), Due.NO_ELEMENT);
    }

    private void deducedOfNotViable() {
        Overloadery x = new Overloadery();
        int t0 = x.parameter(0);
        function(x, 'v', t0);
        c.due("no argument", () -> x.deduced(0, 0), Due.STATE);
        arguments(x, 2, 2);
        c.due("two arguments", () -> x.deduced(0, 0), Due.STATE);
        c.due("for one that stands for nothing", () -> x.deduced(0, 1), Due.STATE);
        range.refused("for no parameter ahead of not viable", 0, 2, v -> x.deduced(0, v), Due.INDEX);
        range.refused("in no function ahead of not viable", 0, 0, v -> x.deduced(v, 0), Due.INDEX);
        arguments(x, 2);
        c.due("viable", () -> x.deduced(0, 0), 2);
        x.require(0, 0, 'p', 0);
        c.due("a constraint does not hold", () -> x.deduced(0, 0), Due.STATE);
        int plain = function(x, 'v', 2);
        c.due("no template", () -> x.deduced(plain, 0), Due.NO_ELEMENT);
    }

    private void deducedBasicTypes() {
        Overloadery x = new Overloadery();
        int alone = function(x, 'v', x.parameter(1));
        int pointer = function(x, 'v', x.pointerTo(x.parameter(2)));
        for (int i = 0; i < 5; i++) {
            int type = i;
            arguments(x, i);
            c.due("the basic type " + i, () -> x.deduced(alone, 1), type);
            arguments(x, x.pointerTo(i));
            c.due("what a pointer points to, " + i, () -> x.deduced(pointer, 2), type);
        }
        c.due("no type by those", x::types, 5 + 3 + 5);
    }

    /** Template 0 leads to 1, 1 to 2, 2 to a class; a pattern takes just one of these. */
    private void deducedByOneOfMoreBases() {
        Overloadery x = Lives.withClasses(1);
        for (int i = 0; i < 3; i++) {
            x.addTemplate(1);
        }
        Notation all = new Notation(x, 1, 1, 1);
        x.setBase(0, -1, all.type("Q*x"));
        x.setBase(1, -1, all.type("R*x"));
        x.setBase(2, -1, all.type("a"));
        String[] patterns = {"Px", "Qy", "Rz", "Q*x", "Ry"};
        Object[] want = {2, all.type("*2"), all.type("**2"), 2, all.type("**2")};
        for (int i = 0; i < patterns.length; i++) {
            int function = function(x, 'c', all.type(patterns[i]));
            arguments(x, all.type("P2"));
            for (int j = 0; j < 3; j++) {
                int parameter = j;
                boolean isIts = patterns[i].indexOf("xyz".charAt(j)) >= 0;
                c.due(patterns[i] + " and " + j, () -> x.deduced(function, parameter), isIts ? want[i] : Due.NO_ELEMENT);
            }
        }
        int none = function(x, 'c', all.type("R***x"));
        c.due("none of these", () -> x.isViable(none), false);
    }

    /** "if there would be more than 150 types" */
    private void deducedAsLastType() {
        for (int room = 0; room <= 2; room++) {
            Overloadery x = new Overloadery();
            x.addTemplate(1);
            x.addTemplate(1);
            x.addTemplate(2);
            Notation all = new Notation(x, 1, 1, 2);
            x.setBase(0, -1, all.type("QPx"));
            int base = function(x, 'v', all.type("Qx"));
            int two = function(x, 'v', all.type("Qx"));
            x.addParameter(two, 'v', all.type("Qy"));
            int known = function(x, 'v', all.type("x"));
            int first = all.type("R23");
            int second = all.type("R32");
            int ofFirst = x.instance(0, x.instance(0, first, -1), -1);
            int ofSecond = x.instance(0, x.instance(0, second, -1), -1);
            x.setBase(0, -1, all.type("QQx"));
            int count = 150 - room;
            Lives.fillTypes(x, count);
            arguments(x, ofFirst, ofSecond);
            c.due("the first, " + room + " free", () -> x.deduced(two, 0), room > 0 ? count : Due.UNSUPPORTED);
            c.due("the second, " + room + " free", () -> x.deduced(two, 1), room > 1 ? count + 1 : Due.UNSUPPORTED);
            c.due("stands for nothing ahead of too many", () -> x.deduced(two, 2), Due.NO_ELEMENT);
            c.due("not viable ahead of too many", () -> x.deduced(base, 0), Due.STATE);
            c.due("no parameter ahead of too many", () -> x.deduced(two, 3), Due.INDEX);
            c.due("no function ahead of too many", () -> x.deduced(3, 0), Due.INDEX);
            c.due("the first again", () -> x.deduced(two, 0), room > 0 ? count : Due.UNSUPPORTED);
            c.due("viable all the same", () -> x.isViable(two), true);
            arguments(x, 149);
            c.due("the last type has a number", () -> x.deduced(known, 0), 149);
            c.due("150 types", x::types, 150);
        }
    }

    /** "one that comes about otherwise gets its number when a call first returns it, while the types in it do not by this" */
    private void deducedTypeAlone() {
        Overloadery x = new Overloadery();
        x.addTemplate(1);
        x.addTemplate(1);
        Notation all = new Notation(x, 1, 1);
        x.setBase(0, -1, all.type("Q**x"));
        int function = function(x, 'c', all.type("Qx"));
        arguments(x, all.type("P2"));
        int types = x.types();
        c.due("viable", () -> x.isViable(function), true);
        c.due("coming", () -> x.coming(function, 0), 2002);
        c.due("resolved", () -> x.resolve(0, 0), function);
        c.due("no type by those", x::types, types);
        c.due("deduced", () -> x.deduced(function, 0), types);
        c.due("one type by that", x::types, types + 1);
        c.due("the pointer in it is new", () -> x.pointerTo(2), types + 1);
        c.due("the pointer to that is known", () -> x.pointerTo(types + 1), types);
    }

    /** "from left to right"; "What is matched goes on from one parameter to the next one." */
    private void deducing() {
        Overloadery x = Lives.withClasses(2);
        x.addTemplate(1);
        x.addTemplate(1);
        Notation all = new Notation(x, 1, 1);
        x.setBase(1, -1, all.type("P*x"));
        int same = x.addFunction(0, 0, false);
        int apart = x.addFunction(0, 0, false);
        int mixed = x.addFunction(0, 0, false);
        for (int i = 0; i < 3; i++) {
            x.addParameter(same, 'v', all.type("x"));
            x.addParameter(apart, 'v', all.type(i == 0 ? "x" : i == 1 ? "y" : "z"));
            x.addParameter(mixed, 'v', all.type(i == 0 ? "Px" : i == 1 ? "*x" : "4"));
        }
        arguments(x, 2, 2, 2);
        c.due("the same three times", () -> x.isViable(same), true);
        arguments(x, 2, 2, 3);
        c.due("another one at last", () -> x.isViable(same), false);
        arguments(x, 3, 2, 2);
        c.due("another one at first", () -> x.isViable(same), false);
        for (int i = 0; i < 3; i++) {
            int parameter = i;
            c.due("each its own " + i, () -> x.deduced(apart, parameter), i == 0 ? 3 : 2);
        }
        arguments(x, all.type("P2"), all.type("*2"), 0);
        c.due("what is not open needs no match", () -> x.coming(mixed, 2), 2000);
        arguments(x, all.type("P2"), all.type("*3"), 4);
        c.due("what was matched goes on", () -> x.isViable(mixed), false);
        arguments(x, all.type("Q2"), all.type("**2"), 4);
        c.due("what a base gave goes on", () -> x.coming(mixed, 1), 0);
        arguments(x, all.type("Q2"), all.type("*2"), 4);
        c.due("and nothing else", () -> x.isViable(mixed), false);
        arguments(x, all.type("*Q2"), all.type("*2"), 4);
        c.due("no bases of a pointer's type", () -> x.isViable(mixed), false);
    }

    /** "just one of the bases of the argument's type" */
    private void deducingToSixthStep() {
        Overloadery x = new Overloadery();
        x.addTemplate(1);
        x.addTemplate(1);
        Notation all = new Notation(x, 1, 1);
        x.specialise(0, all.type("*x"), -1);
        x.setBase(0, 0, all.type("Px"));
        x.setBase(0, -1, all.type("Qx"));
        int function = function(x, 'c', all.type("Qx"));
        for (int i = 0; i < 8; i++) {
            arguments(x, all.type("P" + "*".repeat(i) + "2"));
            Object want = i + 1 <= 6 ? 2002 + 2 * i : Due.STATE;
            c.due("a base by " + (i + 1), () -> x.coming(function, 0), want);
        }
        x.setBase(1, -1, all.type("Q*x"));
        arguments(x, all.type("P2"));
        c.due("several bases", () -> x.isViable(function), false);
        x.specialise(1, all.type("x"), -1);
        x.setBase(1, 0, all.type("Qx"));
        c.due("one base that is its own base", () -> x.coming(function, 0), 2002);
        arguments(x, all.type("Q2"));
        c.due("its own type ahead of bases", () -> x.coming(function, 0), 0);
    }

    /** "its constraints hold" */
    private void constraintsOfFunctions() {
        Overloadery x = Lives.withClasses(3);
        x.addBase(1, 0, false);
        x.addTemplate(1);
        Notation all = new Notation(x, 1);
        x.setBase(0, -1, all.type("b"));
        String letters = "pcbd";
        for (int i = 0; i < 4; i++) {
            int function = function(x, 'c', all.type("x"));
            x.require(function, 0, letters.charAt(i), 0);
        }
        String[] types = {"0", "4", "*0", "*a", "a", "b", "c", "P0", "Pc"};
        String[] want = {"b", "b", "p", "p", "cd", "cd", "c", "cd", "cd"};
        for (int i = 0; i < types.length; i++) {
            arguments(x, all.type(types[i]));
            for (int j = 0; j < 4; j++) {
                int function = j;
                boolean does = want[i].indexOf(letters.charAt(j)) >= 0;
                c.due(letters.charAt(j) + " for " + types[i], () -> x.isViable(function), does);
            }
        }
        for (int i = 0; i < 4; i++) {
            int function = function(x, 'c', all.type("x"));
            x.require(function, 1, letters.charAt(i), 0);
            c.due("for one that stands for nothing", () -> x.isViable(function), false);
        }
    }

    /** What is told later counts from then on, whatever was asked before. */
    private void toldBetweenCalls() {
        Overloadery x = Lives.withClasses(1);
        x.addNamespace(0);
        x.addTemplate(1);
        Notation all = new Notation(x, 1);
        int cls = all.type("a");
        int function = function(x, 'c', cls);
        int open = Lives.function(x, 1, 0, 'c', all.type("Px"));
        arguments(x, all.type("P2"));
        Object[][] rows = {{false, true}, {Due.STATE, 2002}, {-1, function}, {-1, function}, {0.5f, 1.0f}};
        for (int i = 0; i < rows.length; i++) {
            int question = i;
            for (int j = 0; j < 4; j++) {
                Object want = rows[i][j % 2];
                c.due("question " + i + ", time " + j, () -> ask(x, question, function), want);
                x.setBase(0, -1, j % 2 == 0 ? cls : -1);
            }
        }
        for (int type : new int[] {3, 4}) {
            arguments(x, x.instance(0, type, -1));
            c.due("deduced from another argument", () -> x.deduced(open, 0), type);
        }
    }

    private static Object ask(Overloadery x, int question, int function) {
        switch (question) {
            case 0: return x.isViable(function);
            case 1: return x.coming(function, 0);
            case 2: return x.resolve(0, 0);
            case 3: return x.resolveAnew(0, 0);
            default: return x.viableShare();
        }
    }

    private void shareOfNone() {
        Overloadery x = new Overloadery();
        c.due("no functions", x::viableShare, Due.ARITHMETIC);
        x.addClass(0);
        x.addTemplate(1);
        c.due("still none", x::viableShare, Due.ARITHMETIC);
        x.addArgument(0, 'l');
        c.due("still none with an argument", x::viableShare, Due.ARITHMETIC);
        x.addFunction(0, 0, false);
        c.due("none of one", x::viableShare, 0.0f);
        x.clearArguments();
        c.due("one of one", x::viableShare, 1.0f);
    }

    /** "Their number divided by that of all functions, both converted to float." */
    private void shares() {
        Overloadery x = new Overloadery();
        x.addNamespace(0);
        x.addArgument(2, 'l');
        for (int all = 1; all <= 24; all++) {
            int function = x.addFunction(all % 2, all % 6, all % 5 == 0);
            if (all % 3 == 0) x.addParameter(function, 'v', 2);
            float want = (float) (all / 3) / (float) all;
            c.due((all / 3) + " of " + all, x::viableShare, want);
        }
    }
}
