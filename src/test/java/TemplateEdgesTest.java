/** Promises 15 to 18 and what the terms say of templates: each sentence that names a bound, on both sides of it. */
public final class TemplateEdgesTest {
    private final Checks c = new Checks();
    private final Range range = new Range(c);

    public static void main(String[] args) {
        TemplateEdgesTest test = new TemplateEdgesTest();
        test.oneOrTwoParameters();
        test.fiveTemplates();
        test.specialisationOfNothing();
        test.specialisationOfOneOrTwo();
        test.fourSpecialisations();
        test.baseOfNothing();
        test.baseOfWhat();
        test.baseBefore();
        test.noBasesAtFirst();
        test.constraintOfNothing();
        test.constraintOfNoClass();
        test.constraintOfNoParameter();
        test.constraintOfNoLetter();
        test.classOfNoMeaning();
        test.fourConstraints();
        test.letters();
        test.parameterThatStandsForNothing();
        test.leadsToClass();
        test.leadsToSixthStep();
        test.moreConstraints();
        test.matching();
        test.moreSpecial();
        test.ownTypesOfTemplate();
        test.noneMatches();
        test.c.finish("TemplateEdgesTest");
    }

    /** A template with one specialisation that takes any type. */
    private static Overloadery withAny(int classes) {
        Overloadery x = Lives.withClasses(classes);
        x.addTemplate(1);
        x.specialise(0, x.parameter(0), -1);
        return x;
    }

    /** "the number of its parameters, 1 or 2" */
    private void oneOrTwoParameters() {
        Overloadery x = new Overloadery();
        range.refused("parameters", 1, 2, x::addTemplate, Due.ARGUMENT);
        c.due("one parameter", () -> x.addTemplate(1), 0);
        c.due("two parameters", () -> x.addTemplate(2), 1);
        c.due("one type for one", () -> x.instance(0, 0, -1), 5);
        c.due("two types for one", () -> x.instance(0, 0, 0), Due.ARGUMENT);
        c.due("one type for two", () -> x.instance(1, 0, -1), Due.ARGUMENT);
        c.due("two types for two", () -> x.instance(1, 0, 0), 6);
    }

    /** "At most 5 templates are numbered from 0" */
    private void fiveTemplates() {
        Overloadery x = new Overloadery();
        for (int i = 0; i < 5; i++) {
            int parameters = 1 + i % 2;
            c.due("template " + i, () -> x.addTemplate(parameters), i);
        }
        c.due("a sixth", () -> x.addTemplate(1), Due.STATE);
        c.due("a sixth with two parameters", () -> x.addTemplate(2), Due.STATE);
        range.refused("a sixth with no parameters", 1, 2, x::addTemplate, Due.ARGUMENT);
        c.due("the last one", () -> x.instance(4, 0, -1), 5);
        range.refused("no template", 0, 4, v -> x.instance(v, 0, -1), Due.INDEX);
    }

    private void specialisationOfNothing() {
        Overloadery x = new Overloadery();
        c.due("no template at all", () -> x.specialise(0, 0, -1), Due.INDEX);
        x.addTemplate(1);
        x.addTemplate(2);
        range.refused("no template", 0, 1, v -> x.specialise(v, 0, -1), Due.INDEX);
        range.refused("no template for two", 0, 1, v -> x.specialise(v, 0, 0), Due.INDEX);
        range.refused("no first type", 0, 4, v -> x.specialise(0, v, -1), Due.INDEX);
        range.refused("no first type of two", 0, 4, v -> x.specialise(1, v, 0), Due.INDEX);
        range.refused("no second type", -1, 4, v -> x.specialise(1, 0, v), Due.INDEX);
        range.refused("no second type of one", -1, 4, v -> x.specialise(0, 0, v), Due.INDEX);
        c.due("the last types", () -> x.specialise(1, 4, 4), 0);
        c.due("the first types", () -> x.specialise(1, 0, 0), 1);
    }

    /** "if a second pattern is told for one parameter, or is -1 for two" */
    private void specialisationOfOneOrTwo() {
        Overloadery x = new Overloadery();
        x.addTemplate(1);
        x.addTemplate(2);
        c.due("two for one", () -> x.specialise(0, 0, 0), Due.ARGUMENT);
        c.due("one for two", () -> x.specialise(1, 0, -1), Due.ARGUMENT);
        c.due("no template ahead of it", () -> x.specialise(2, 0, 0), Due.INDEX);
        c.due("no first type ahead of two for one", () -> x.specialise(0, 5, 0), Due.INDEX);
        c.due("no first type ahead of one for two", () -> x.specialise(1, 5, -1), Due.INDEX);
        c.due("no second type ahead of two for one", () -> x.specialise(0, 0, 5), Due.INDEX);
        c.due("one for one", () -> x.specialise(0, 0, -1), 0);
        c.due("two for two", () -> x.specialise(1, 0, 0), 0);
    }

    /** "A template can have at most 4 specialisations, numbered from 0 in it" */
    private void fourSpecialisations() {
        Overloadery x = new Overloadery();
        x.addTemplate(1);
        x.addTemplate(2);
        int of = x.instance(0, 4, -1);
        for (int i = 0; i < 4; i++) {
            int type = i;
            c.due("specialisation " + i, () -> x.specialise(0, type, -1), i);
            c.due("of the other template " + i, () -> x.specialise(1, type, 0), i);
        }
        c.due("a fifth", () -> x.specialise(0, 4, -1), Due.STATE);
        c.due("a fifth of two", () -> x.specialise(1, 4, 4), Due.STATE);
        c.due("two for one ahead of a fifth", () -> x.specialise(0, 4, 4), Due.ARGUMENT);
        c.due("one for two ahead of a fifth", () -> x.specialise(1, 4, -1), Due.ARGUMENT);
        range.refused("no template ahead of a fifth", 0, 1, v -> x.specialise(v, 0, -1), Due.INDEX);
        range.refused("no type ahead of a fifth", 0, 5, v -> x.specialise(0, v, -1), Due.INDEX);
        c.due("a fifth is not there", () -> x.chosenFor(of), -1);
        c.due("nor its constraints", () -> x.constrain(0, 4, 0, 'b', 0), Due.INDEX);
    }

    private void baseOfNothing() {
        Overloadery x = Lives.withClasses(1);
        int cls = x.classType(0);
        c.due("no template at all", () -> x.setBase(0, -1, cls), Due.INDEX);
        x.addTemplate(1);
        range.refused("no template", 0, 0, v -> x.setBase(v, -1, cls), Due.INDEX);
        range.refused("no specialisation of none", -1, -1, v -> x.setBase(0, v, cls), Due.INDEX);
        for (int i = 0; i < 4; i++) {
            x.specialise(0, i, -1);
            range.refused("no specialisation", -1, i, v -> x.setBase(0, v, cls), Due.INDEX);
        }
        range.refused("no type", -1, cls, v -> x.setBase(0, -1, v), Due.INDEX);
        range.refused("no type for a specialisation", -1, cls, v -> x.setBase(0, 3, v), Due.INDEX);
        c.due("no template ahead of a basic type", () -> x.setBase(1, -1, 0), Due.INDEX);
        c.due("no specialisation ahead of a basic type", () -> x.setBase(0, 4, 0), Due.INDEX);
        c.due("the first specialisation", () -> x.setBase(0, 0, cls), -1);
        c.due("the last specialisation", () -> x.setBase(0, 3, cls), -1);
        c.due("the template itself", () -> x.setBase(0, -1, cls), -1);
    }

    /** "a class or an instance, or -1 for none" */
    private void baseOfWhat() {
        Overloadery x = withAny(1);
        int cls = x.classType(0);
        int t0 = 5;
        int[] others = {0, 4, t0, x.pointerTo(cls), x.pointerTo(t0)};
        int instance = x.instance(0, 2, -1);
        int open = x.instance(0, t0, -1);
        for (int other : others) {
            c.due("of the template, " + other, () -> x.setBase(0, -1, other), Due.ARGUMENT);
            c.due("of a specialisation, " + other, () -> x.setBase(0, 0, other), Due.ARGUMENT);
        }
        c.due("none was told before", () -> x.setBase(0, 0, cls), -1);
        c.due("an instance", () -> x.setBase(0, 0, instance), cls);
        c.due("an open one", () -> x.setBase(0, 0, open), instance);
        c.due("none", () -> x.setBase(0, 0, -1), open);
        c.due("none again", () -> x.setBase(0, 0, -1), -1);
    }

    /** "Returns the base before, or -1." */
    private void baseBefore() {
        Overloadery x = withAny(3);
        x.specialise(0, 2, -1);
        int[] classes = {x.classType(0), x.classType(1), x.classType(2)};
        for (int i = -1; i < 2; i++) {
            int body = i;
            c.due("none before of " + i, () -> x.setBase(0, body, classes[body + 1]), -1);
        }
        for (int i = -1; i < 2; i++) {
            int body = i;
            c.due("refused for " + i, () -> x.setBase(0, body, 0), Due.ARGUMENT);
            c.due("each has its own, " + i, () -> x.setBase(0, body, -1), classes[i + 1]);
            c.due("none behind that, " + i, () -> x.setBase(0, body, classes[0]), -1);
        }
    }

    private void noBasesAtFirst() {
        Overloadery x = Lives.withClasses(1);
        int cls = x.classType(0);
        for (int i = 0; i < 5; i++) {
            int template = x.addTemplate(1);
            int of = x.instance(template, 4, -1);
            c.due("template " + i, () -> x.baseOf(of), Due.NO_ELEMENT);
            c.due("none before", () -> x.setBase(template, -1, cls), -1);
            for (int j = 0; j < 4; j++) {
                int body = x.specialise(template, j, -1);
                int its = x.instance(template, j, -1);
                c.due("specialisation " + j, () -> x.baseOf(its), Due.NO_ELEMENT);
                c.due("none before " + j, () -> x.setBase(template, body, cls), -1);
                c.due("one by then " + j, () -> x.baseOf(its), cls);
            }
        }
    }

    private void constraintOfNothing() {
        Overloadery x = Lives.withClasses(1);
        int t0 = x.parameter(0);
        c.due("no template at all", () -> x.constrain(0, 0, 0, 'b', 0), Due.INDEX);
        x.addTemplate(1);
        c.due("no specialisation at all", () -> x.constrain(0, 0, 0, 'b', 0), Due.INDEX);
        c.due("none is of the template itself", () -> x.constrain(0, -1, 0, 'b', 0), Due.INDEX);
        x.specialise(0, t0, -1);
        x.specialise(0, t0, -1);
        range.refused("no template", 0, 0, v -> x.constrain(v, 0, 0, 'b', 0), Due.INDEX);
        range.refused("no specialisation", 0, 1, v -> x.constrain(0, v, 0, 'b', 0), Due.INDEX);
        c.due("no template ahead of no letter", () -> x.constrain(1, 0, 0, 'x', 0), Due.INDEX);
        c.due("no specialisation ahead of no parameter", () -> x.constrain(0, 2, 3, 'b', 0), Due.INDEX);
        c.due("the last specialisation", () -> x.constrain(0, 1, 0, 'b', 0), 1);
        c.due("the first one has its own", () -> x.constrain(0, 0, 0, 'b', 0), 1);
    }

    /** "or no such class for 'd'" */
    private void constraintOfNoClass() {
        Overloadery x = withAny(0);
        x.addFunction(0, 0, false);
        c.due("no class at all", () -> x.constrain(0, 0, 0, 'd', 0), Due.INDEX);
        c.due("no class at all for a function", () -> x.require(0, 0, 'd', 0), Due.INDEX);
        Lives.addClasses(x, 12);
        range.refused("no class", 0, 11, v -> x.constrain(0, 0, 0, 'd', v), Due.INDEX);
        range.refused("no class for a function", 0, 11, v -> x.require(0, 0, 'd', v), Due.INDEX);
        range.refused("no class ahead of no parameter", 0, 11, v -> x.constrain(0, 0, 3, 'd', v), Due.INDEX);
        range.refused("the same for a function", 0, 11, v -> x.require(0, -1, 'd', v), Due.INDEX);
        c.due("no parameter ahead of a class", () -> x.constrain(0, 0, 3, 'd', 0), Due.ARGUMENT);
        c.due("the last class", () -> x.constrain(0, 0, 0, 'd', 11), 1);
        c.due("the first class", () -> x.constrain(0, 0, 0, 'd', 0), 2);
        c.due("the last class for a function", () -> x.require(0, 0, 'd', 11), 1);
    }

    /** "the parameter, 0 to 2" */
    private void constraintOfNoParameter() {
        Overloadery x = withAny(1);
        range.refused("no parameter", 0, 2, v -> x.constrain(0, 0, v, 'b', 0), Due.ARGUMENT);
        range.refused("no parameter for 'd'", 0, 2, v -> x.constrain(0, 0, v, 'd', 0), Due.ARGUMENT);
        for (int i = 0; i <= 2; i++) {
            int parameter = i;
            c.due("parameter " + i, () -> x.constrain(0, 0, parameter, 'b', 0), i + 1);
        }
    }

    private void constraintOfNoLetter() {
        Overloadery x = withAny(1);
        range.refusedBut("pcbd", "no letter", v -> x.constrain(0, 0, 0, v, 0), Due.ARGUMENT);
        String letters = "pcbd";
        for (int i = 0; i < 4; i++) {
            char letter = letters.charAt(i);
            c.due("letter " + letter, () -> x.constrain(0, 0, 0, letter, 0), i + 1);
        }
    }

    /** "the class, of no meaning but for 'd'" */
    private void classOfNoMeaning() {
        for (int cls : new int[] {Integer.MIN_VALUE, -1, 0, 1, 12, Integer.MAX_VALUE}) {
            Overloadery x = withAny(1);
            x.addFunction(0, 0, false);
            int of = x.instance(0, 2, -1);
            c.due("'b' and " + cls, () -> x.constrain(0, 0, 0, 'b', cls), 1);
            c.due("it holds", () -> x.chosenFor(of), 0);
            c.due("'c' and " + cls, () -> x.constrain(0, 0, 0, 'c', cls), 2);
            c.due("it does not hold", () -> x.chosenFor(of), -1);
            c.due("'p' and " + cls, () -> x.constrain(0, 0, 0, 'p', cls), 3);
            c.due("'b' of a function and " + cls, () -> x.require(0, 0, 'b', cls), 1);
            c.due("'c' of a function and " + cls, () -> x.require(0, 0, 'c', cls), 2);
            c.due("'p' of a function and " + cls, () -> x.require(0, 0, 'p', cls), 3);
        }
    }

    /** "At most 4 are of a function or a specialisation" */
    private void fourConstraints() {
        Overloadery x = withAny(1);
        x.specialise(0, 2, -1);
        int fits = x.instance(0, 3, -1);
        int pointer = x.instance(0, x.pointerTo(3), -1);
        for (int i = 1; i <= 4; i++) {
            c.due("constraint " + i, () -> x.constrain(0, 0, 0, 'b', 0), i);
        }
        c.due("a fifth", () -> x.constrain(0, 0, 0, 'b', 0), Due.STATE);
        c.due("a fifth with a class", () -> x.constrain(0, 0, 0, 'd', 0), Due.STATE);
        c.due("no template ahead of a fifth", () -> x.constrain(1, 0, 0, 'b', 0), Due.INDEX);
        c.due("no specialisation ahead of a fifth", () -> x.constrain(0, 2, 0, 'b', 0), Due.INDEX);
        c.due("no class ahead of a fifth", () -> x.constrain(0, 0, 0, 'd', 1), Due.INDEX);
        range.refused("no parameter ahead of a fifth", 0, 2, v -> x.constrain(0, 0, v, 'b', 0), Due.ARGUMENT);
        c.due("no letter ahead of a fifth", () -> x.constrain(0, 0, 0, 'e', 0), Due.ARGUMENT);
        c.due("the four hold", () -> x.chosenFor(fits), 0);
        c.due("the four do not hold", () -> x.chosenFor(pointer), -1);
        c.due("another one has its own four", () -> x.constrain(0, 1, 0, 'b', 0), 1);
        eachOfFourCounts();
    }

    private void eachOfFourCounts() {
        for (int last = 0; last < 4; last++) {
            Overloadery x = withAny(1);
            int of = x.instance(0, 3, -1);
            for (int i = 0; i < 4; i++) {
                c.due("holds with " + i, () -> x.chosenFor(of), i <= last ? 0 : -1);
                x.constrain(0, 0, 0, i == last ? 'p' : 'b', 0);
            }
            c.due("constraint " + last + " does not hold", () -> x.chosenFor(of), -1);
        }
    }

    /** "'p', what it stands for is a pointer; 'c', a class or an instance; 'b', one of the types 0 to 4" */
    private void letters() {
        for (char letter : "pcb".toCharArray()) {
            Overloadery x = withAny(1);
            x.constrain(0, 0, 0, letter, 0);
            for (int i = 0; i < 5; i++) {
                int of = x.instance(0, i, -1);
                c.due(letter + " and the basic type " + i, () -> x.chosenFor(of), letter == 'b' ? 0 : -1);
            }
            int pointer = x.instance(0, x.pointerTo(0), -1);
            int deep = x.instance(0, x.pointerTo(x.classType(0)), -1);
            int cls = x.instance(0, x.classType(0), -1);
            int instance = x.instance(0, deep, -1);
            c.due(letter + " and a pointer", () -> x.chosenFor(pointer), letter == 'p' ? 0 : -1);
            c.due(letter + " and a pointer to a class", () -> x.chosenFor(deep), letter == 'p' ? 0 : -1);
            c.due(letter + " and a class", () -> x.chosenFor(cls), letter == 'c' ? 0 : -1);
            c.due(letter + " and an instance", () -> x.chosenFor(instance), letter == 'c' ? 0 : -1);
        }
    }

    /** "For a parameter that stands for nothing, none holds." */
    private void parameterThatStandsForNothing() {
        for (char letter : "pcbd".toCharArray()) {
            for (int parameter = 0; parameter <= 2; parameter++) {
                Overloadery x = Lives.withClasses(1);
                x.addTemplate(1);
                x.specialise(0, x.parameter(1), -1);
                int[] types = {2, x.pointerTo(2), x.classType(0), x.instance(0, 2, -1)};
                x.constrain(0, 0, parameter, letter, 0);
                boolean doesHold = false;
                for (int type : types) {
                    doesHold |= x.chosenFor(x.instance(0, type, -1)) == 0;
                }
                boolean does = doesHold;
                c.due(letter + " for parameter " + parameter, () -> does, parameter == 1);
            }
        }
    }

    /** "'d', a class or an instance that leads to this class" */
    private void leadsToClass() {
        Overloadery x = withAny(6);
        x.addTemplate(1);
        x.addBase(1, 0, false);
        x.addBase(2, 0, false);
        x.addBase(3, 1, false);
        x.addBase(3, 2, false);
        x.constrain(0, 0, 0, 'd', 0);
        int zero = x.classType(0);
        int three = x.classType(3);
        int[] of = {zero, x.classType(1), three, x.classType(4), x.pointerTo(zero), 2, x.instance(1, 2, -1)};
        int[] want = {0, 0, -1, -1, -1, -1, -1};
        for (int i = 0; i < of.length; i++) {
            int type = x.instance(0, of[i], -1);
            c.due("leads to it or not, " + i, () -> x.chosenFor(type), want[i]);
        }
        int instance = x.instance(0, of[6], -1);
        x.setBase(1, -1, zero);
        c.due("an instance with that base", () -> x.chosenFor(instance), 0);
        x.setBase(1, -1, three);
        c.due("an instance with several parts of it", () -> x.chosenFor(instance), 0);
        x.setBase(1, -1, x.classType(4));
        c.due("an instance with another base", () -> x.chosenFor(instance), -1);
    }

    private void leadsToSixthStep() {
        Overloadery x = withAny(9);
        for (int i = 1; i < 9; i++) {
            x.addBase(i, i - 1, false);
        }
        x.addTemplate(1);
        int t0 = x.parameter(0);
        x.constrain(0, 0, 0, 'd', 0);
        for (int i = 0; i < 9; i++) {
            x.setBase(1, -1, x.classType(i));
            int of = x.instance(0, x.instance(1, i % 5, -1), -1);
            c.due("an instance by " + (i + 1), () -> x.chosenFor(of), i + 1 <= 6 ? 0 : -1);
        }
        int ofClass = x.instance(0, x.classType(8), -1);
        c.due("a class by 8", () -> x.chosenFor(ofClass), 0);
        x.specialise(1, x.pointerTo(t0), -1);
        x.setBase(1, -1, x.classType(0));
        x.setBase(1, 0, x.instance(1, t0, -1));
        for (int i = 0; i < 8; i++) {
            int of = x.instance(0, x.instance(1, Lives.tower(x, 2, i + 1), -1), -1);
            c.due("an instance by instances by " + (i + 1), () -> x.chosenFor(of), i + 1 <= 6 ? 0 : -1);
        }
    }

    /** "if all of these, letter, class and parameter, are among them, and some more" */
    private void moreConstraints() {
        Object[][] rows = {
            {"", "", -2}, {"b0", "", 0}, {"", "b0", 1}, {"b0", "b0", -2}, {"b0", "c0", 0}, {"b0 b1", "b0", 0},
            {"b0 b1", "b1", 0}, {"b0 b1", "b1 b0", -2}, {"b1", "b0", -2}, {"b0 b1", "b0 c1", 0}, {"b0", "b1 c1", 0},
        };
        for (Object[] row : rows) {
            Overloadery x = Lives.withClasses(2);
            x.addTemplate(2);
            int t0 = x.parameter(0);
            int t1 = x.parameter(1);
            x.specialise(0, t0, t1);
            x.specialise(0, t0, t1);
            put(x, 0, (String) row[0]);
            put(x, 1, (String) row[1]);
            int of = x.instance(0, 2, 3);
            c.due("more, " + row[0] + " and " + row[1], () -> x.chosenFor(of), row[2]);
        }
        classesOfConstraints();
    }

    private static void put(Overloadery x, int specialisation, String constraints) {
        for (int i = 0; i + 1 < constraints.length(); i += 3) {
            x.constrain(0, specialisation, constraints.charAt(i + 1) - '0', constraints.charAt(i), 0);
        }
    }

    private void classesOfConstraints() {
        Overloadery x = withAny(2);
        x.addBase(1, 0, false);
        x.specialise(0, x.parameter(0), -1);
        int of = x.instance(0, x.classType(1), -1);
        x.constrain(0, 0, 0, 'd', 0);
        x.constrain(0, 1, 0, 'd', 1);
        c.due("another class", () -> x.chosenFor(of), -2);
        x.constrain(0, 1, 0, 'd', 0);
        c.due("both classes", () -> x.chosenFor(of), 1);
        x.constrain(0, 0, 0, 'c', 0);
        c.due("another letter", () -> x.chosenFor(of), -2);
        x.constrain(0, 0, 0, 'd', 1);
        c.due("both classes and the letter", () -> x.chosenFor(of), 0);
    }

    /** "a parameter matches any type, the same one each time; a pointer, a pointer whose type its own one matches; .." */
    private void matching() {
        String[][] rows = {
            {"x", "x", "2", "2", "0"}, {"x", "x", "2", "3", "-1"}, {"x", "y", "2", "3", "0"}, {"x", "y", "2", "2", "0"},
            {"2", "x", "2", "2", "0"}, {"2", "x", "3", "2", "-1"}, {"*x", "x", "*2", "2", "0"}, {"*x", "x", "*2", "*2", "-1"},
            {"*x", "y", "2", "2", "-1"}, {"**x", "y", "*2", "2", "-1"}, {"**x", "x", "**2", "2", "0"},
            {"a", "x", "a", "2", "0"}, {"a", "x", "b", "2", "-1"}, {"Qx", "x", "Q2", "2", "0"}, {"Qx", "x", "R2", "2", "-1"},
            {"Qx", "x", "Q2", "3", "-1"}, {"Pxy", "x", "P23", "2", "0"}, {"Pxy", "y", "P23", "2", "-1"},
            {"Pxx", "y", "P23", "2", "-1"}, {"Pxx", "y", "P22", "2", "0"}, {"Q2", "x", "Q2", "2", "0"},
            {"y", "*y", "2", "*2", "0"}, {"z", "Qz", "2", "Q2", "0"}, {"z", "Q*z", "2", "Q2", "-1"},
        };
        for (String[] row : rows) {
            Overloadery x = Lives.withClasses(2);
            x.addTemplate(2);
            x.addTemplate(1);
            x.addTemplate(1);
            Notation all = new Notation(x, 2, 1, 1);
            x.specialise(0, all.type(row[0]), all.type(row[1]));
            int of = x.instance(0, all.type(row[2]), all.type(row[3]));
            c.due(String.join(" ", row), () -> x.chosenFor(of), Integer.parseInt(row[4]));
        }
    }

    /** "where its parameters stand for themselves, as types that are like no others" */
    private void moreSpecial() {
        String[][] rows = {
            {"x", "y", "y", "x", "-2"}, {"x", "x", "x", "y", "0"}, {"x", "y", "y", "y", "1"}, {"*x", "y", "x", "*y", "-2"},
            {"*x", "*y", "x", "y", "0"}, {"*x", "*x", "*x", "*y", "0"}, {"*x", "*x", "x", "x", "0"},
            {"*x", "*y", "x", "x", "-2"}, {"*2", "x", "*x", "y", "0"}, {"*2", "*2", "*x", "*x", "0"},
            {"y", "y", "x", "x", "-2"}, {"*2", "x", "x", "*2", "-2"}, {"z", "*z", "z", "y", "0"},
        };
        for (String[] row : rows) {
            Overloadery x = new Overloadery();
            x.addTemplate(2);
            Notation all = new Notation(x, 2);
            x.specialise(0, all.type(row[0]), all.type(row[1]));
            x.specialise(0, all.type(row[2]), all.type(row[3]));
            boolean isDeep = row[1].equals("*z");
            int of = x.instance(0, all.type("*2"), all.type(isDeep ? "**2" : "*2"));
            c.due(String.join(" ", row), () -> x.chosenFor(of), Integer.parseInt(row[4]));
        }
    }

    /** "those of the template itself being its types" */
    private void ownTypesOfTemplate() {
        Overloadery x = new Overloadery();
        x.addTemplate(2);
        int swapped = x.instance(0, x.parameter(1), x.parameter(0));
        x.setBase(0, -1, swapped);
        int of = x.instance(0, 2, 3);
        int base = x.instance(0, 3, 2);
        c.due("the first and the second", () -> x.baseOf(of), base);
        c.due("and back", () -> x.baseOf(base), of);
        c.due("one step", () -> x.distance(of, base), 1);
    }

    /** "if there are none, the template itself" */
    private void noneMatches() {
        Overloadery x = Lives.withClasses(2);
        x.addTemplate(1);
        int of = x.instance(0, 2, -1);
        x.setBase(0, -1, x.classType(0));
        x.specialise(0, 3, -1);
        x.setBase(0, 0, x.classType(1));
        int zero = x.classType(0);
        c.due("no pattern matches", () -> x.chosenFor(of), -1);
        c.due("so its base is that of the template", () -> x.baseOf(of), zero);
        x.specialise(0, x.parameter(0), -1);
        c.due("one matches", () -> x.chosenFor(of), 1);
        x.constrain(0, 1, 0, 'p', 0);
        c.due("its constraint does not hold", () -> x.chosenFor(of), -1);
    }
}
