/** Promises 15 to 19: class templates, their specialisations, bases and constraints, and what follows for 8, 9 and 19. */
public final class TemplatesTest {
    private static final Class<?> INDEX = IndexOutOfBoundsException.class;
    private static final Class<?> ARGUMENT = IllegalArgumentException.class;
    private static final Class<?> STATE = IllegalStateException.class;
    private static final Class<?> NO_ELEMENT = java.util.NoSuchElementException.class;

    private final Checks c = new Checks();

    public static void main(String[] args) {
        TemplatesTest test = new TemplatesTest();
        test.templates();
        test.specialisations();
        test.bases();
        test.baseOfBody();
        test.constraints();
        test.constraintLetters();
        test.leadingConstraints();
        test.moreConstraints();
        test.notSure();
        test.basesBeyondClasses();
        test.deepConstraints();
        test.circles();
        test.growth();
        test.c.finish("TemplatesTest");
    }

    private void templates() {
        Overloadery x = new Overloadery();
        c.due("no parameters", () -> x.addTemplate(0), ARGUMENT);
        c.due("three parameters", () -> x.addTemplate(3), ARGUMENT);
        for (int i = 0; i < 5; i++) {
            int parameters = 1 + i % 2;
            c.due("template " + i, () -> x.addTemplate(parameters), i);
        }
        c.due("a sixth", () -> x.addTemplate(1), STATE);
        c.due("a sixth with three", () -> x.addTemplate(3), ARGUMENT);
    }

    private void specialisations() {
        Overloadery x = new Overloadery();
        x.addTemplate(1);
        x.addTemplate(2);
        c.due("no template", () -> x.specialise(2, 0, -1), INDEX);
        c.due("template -1", () -> x.specialise(-1, 0, -1), INDEX);
        c.due("no type", () -> x.specialise(0, 5, -1), INDEX);
        c.due("type -1", () -> x.specialise(0, -1, -1), INDEX);
        c.due("no second type", () -> x.specialise(1, 0, 5), INDEX);
        c.due("second type -2", () -> x.specialise(1, 0, -2), INDEX);
        c.due("no second type of one", () -> x.specialise(0, 0, 5), INDEX);
        c.due("two of one", () -> x.specialise(0, 0, 0), ARGUMENT);
        c.due("one of two", () -> x.specialise(1, 0, -1), ARGUMENT);
        for (int i = 0; i < 4; i++) {
            int type = i;
            c.due("specialisation " + i, () -> x.specialise(0, type, -1), i);
        }
        c.due("a fifth", () -> x.specialise(0, 4, -1), STATE);
        c.due("two of one ahead of a fifth", () -> x.specialise(0, 4, 4), ARGUMENT);
        c.due("of the other template", () -> x.specialise(1, 0, 1), 0);
        int chosen = x.instance(0, 2, -1);
        int other = x.instance(0, 4, -1);
        c.due("one type alone", () -> x.chosenFor(chosen), 2);
        c.due("no one's type", () -> x.chosenFor(other), -1);
    }

    private void bases() {
        Overloadery x = new Overloadery();
        x.addClass(0);
        x.addTemplate(1);
        int cls = x.classType(0);
        int instance = x.instance(0, 0, -1);
        int pointer = x.pointerTo(cls);
        int parameter = x.parameter(0);
        c.due("no template", () -> x.setBase(1, -1, cls), INDEX);
        c.due("template -1", () -> x.setBase(-1, -1, cls), INDEX);
        c.due("no specialisation", () -> x.setBase(0, 0, cls), INDEX);
        c.due("specialisation -2", () -> x.setBase(0, -2, cls), INDEX);
        c.due("no type", () -> x.setBase(0, -1, 99), INDEX);
        c.due("type -2", () -> x.setBase(0, -1, -2), INDEX);
        c.due("a basic type", () -> x.setBase(0, -1, 0), ARGUMENT);
        c.due("a pointer", () -> x.setBase(0, -1, pointer), ARGUMENT);
        c.due("a parameter", () -> x.setBase(0, -1, parameter), ARGUMENT);
        c.due("no specialisation ahead of a basic type", () -> x.setBase(0, 0, 0), INDEX);
        c.due("a class", () -> x.setBase(0, -1, cls), -1);
        c.due("an instance", () -> x.setBase(0, -1, instance), cls);
        c.due("none", () -> x.setBase(0, -1, -1), instance);
        c.due("none again", () -> x.setBase(0, -1, -1), -1);
        x.specialise(0, 0, -1);
        c.due("of a specialisation", () -> x.setBase(0, 0, cls), -1);
        c.due("that before", () -> x.setBase(0, 0, -1), cls);
        c.due("specialisation 1", () -> x.setBase(0, 1, cls), INDEX);
    }

    private void baseOfBody() {
        Overloadery x = new Overloadery();
        x.addClass(0);
        int two = x.addTemplate(2);
        int one = x.addTemplate(1);
        int cls = x.classType(0);
        int t0 = x.parameter(0);
        int t2 = x.parameter(2);
        int instance = x.instance(two, x.pointerTo(2), 3);
        x.specialise(two, x.pointerTo(t2), t0);
        x.setBase(two, -1, cls);
        c.due("the body has none, though the template has", () -> x.baseOf(instance), NO_ELEMENT);
        x.setBase(two, 0, x.instance(two, t0, t2));
        int swapped = x.types();
        c.due("what was matched", () -> x.baseOf(instance), swapped);
        c.due("the template's base for that", () -> x.baseOf(swapped), cls);
        c.due("as the one asked for", () -> x.instance(two, 3, 2), swapped);
        x.setBase(two, 0, x.instance(one, x.parameter(1), -1));
        c.due("nothing was matched for parameter 1", () -> x.baseOf(instance), NO_ELEMENT);
        x.setBase(one, -1, x.instance(two, t0, x.parameter(1)));
        int single = x.instance(one, 0, -1);
        c.due("one parameter matches nothing for parameter 1", () -> x.baseOf(single), NO_ELEMENT);
        x.setBase(one, -1, x.instance(one, 4, -1));
        int closed = x.instance(one, 4, -1);
        c.due("a base that is not open", () -> x.baseOf(single), closed);
        c.due("itself", () -> x.baseOf(closed), closed);
        c.due("at the distance 0 all the same", () -> x.distance(closed, closed), 0);
        c.due("and at 1 for the other one", () -> x.distance(single, closed), 1);
    }

    private void constraints() {
        Overloadery x = new Overloadery();
        x.addClass(0);
        x.addTemplate(1);
        int t0 = x.parameter(0);
        x.specialise(0, t0, -1);
        c.due("no template", () -> x.constrain(1, 0, 0, 'p', 0), INDEX);
        c.due("template -1", () -> x.constrain(-1, 0, 0, 'p', 0), INDEX);
        c.due("no specialisation", () -> x.constrain(0, 1, 0, 'p', 0), INDEX);
        c.due("the template itself", () -> x.constrain(0, -1, 0, 'p', 0), INDEX);
        c.due("no class", () -> x.constrain(0, 0, 0, 'd', 1), INDEX);
        c.due("class -1", () -> x.constrain(0, 0, 0, 'd', -1), INDEX);
        c.due("no class ahead of no parameter", () -> x.constrain(0, 0, 3, 'd', 1), INDEX);
        c.due("no parameter", () -> x.constrain(0, 0, 3, 'p', 0), ARGUMENT);
        c.due("parameter -1", () -> x.constrain(0, 0, -1, 'p', 0), ARGUMENT);
        c.due("no letter", () -> x.constrain(0, 0, 0, 'x', 0), ARGUMENT);
        for (int i = 1; i <= 4; i++) {
            c.due("constraint " + i, () -> x.constrain(0, 0, 0, 'b', 99), i);
        }
        c.due("a fifth", () -> x.constrain(0, 0, 0, 'b', 0), STATE);
        c.due("no letter ahead of a fifth", () -> x.constrain(0, 0, 0, 'x', 0), ARGUMENT);
        c.due("no class ahead of a fifth", () -> x.constrain(0, 0, 0, 'd', 5), INDEX);
        int fits = x.instance(0, 4, -1);
        int fails = x.instance(0, x.pointerTo(4), -1);
        c.due("all hold", () -> x.chosenFor(fits), 0);
        c.due("none holds", () -> x.chosenFor(fails), -1);
    }

    private void constraintLetters() {
        for (char letter : new char[] {'p', 'c', 'b'}) {
            Overloadery x = new Overloadery();
            x.addClass(0);
            x.addTemplate(1);
            x.specialise(0, x.parameter(0), -1);
            x.constrain(0, 0, 0, letter, -7);
            int pointer = x.instance(0, x.pointerTo(0), -1);
            int cls = x.instance(0, x.classType(0), -1);
            int instance = x.instance(0, cls, -1);
            c.due(letter + " of a basic type", () -> x.chosenFor(x.instance(0, 0, -1)), letter == 'b' ? 0 : -1);
            c.due(letter + " of another one", () -> x.chosenFor(x.instance(0, 4, -1)), letter == 'b' ? 0 : -1);
            c.due(letter + " of a pointer", () -> x.chosenFor(pointer), letter == 'p' ? 0 : -1);
            c.due(letter + " of a class", () -> x.chosenFor(cls), letter == 'c' ? 0 : -1);
            c.due(letter + " of an instance", () -> x.chosenFor(instance), letter == 'c' ? 0 : -1);
        }
        Overloadery x = new Overloadery();
        x.addTemplate(1);
        x.specialise(0, x.parameter(0), -1);
        x.constrain(0, 0, 1, 'b', 0);
        c.due("a parameter that stands for nothing", () -> x.chosenFor(x.instance(0, 0, -1)), -1);
    }

    private void leadingConstraints() {
        Overloadery x = new Overloadery();
        for (int i = 0; i < 5; i++) {
            x.addClass(0);
        }
        x.addBase(1, 0, false);
        x.addBase(2, 0, false);
        x.addBase(3, 1, false);
        x.addBase(3, 2, false);
        x.addTemplate(1);
        x.addTemplate(1);
        int t0 = x.parameter(0);
        x.specialise(0, t0, -1);
        x.constrain(0, 0, 0, 'd', 0);
        int[] of = new int[5];
        for (int i = 0; i < 5; i++) {
            of[i] = x.instance(0, x.classType(i), -1);
        }
        c.due("the class itself", () -> x.chosenFor(of[0]), 0);
        c.due("a class with that base", () -> x.chosenFor(of[1]), 0);
        c.due("a class with two parts of it", () -> x.chosenFor(of[3]), -1);
        c.due("another class", () -> x.chosenFor(of[4]), -1);
        int pointer = x.instance(0, x.pointerTo(x.classType(0)), -1);
        c.due("a pointer to it", () -> x.chosenFor(pointer), -1);
        c.due("a basic type", () -> x.chosenFor(x.instance(0, 0, -1)), -1);
        int instance = x.instance(1, 2, -1);
        int ofInstance = x.instance(0, instance, -1);
        c.due("an instance without a base", () -> x.chosenFor(ofInstance), -1);
        x.setBase(1, -1, x.classType(3));
        c.due("an instance leads to each base", () -> x.chosenFor(ofInstance), 0);
        int zero = x.classType(0);
        c.due("and has a distance to it", () -> x.distance(instance, zero), 3);
    }

    private void moreConstraints() {
        Overloadery x = new Overloadery();
        x.addClass(0);
        x.addClass(0);
        x.addBase(1, 0, false);
        x.addTemplate(1);
        int t0 = x.parameter(0);
        int t1 = x.parameter(1);
        x.specialise(0, t0, -1);
        x.specialise(0, t0, -1);
        int instance = x.instance(0, x.classType(1), -1);
        c.due("two alike", () -> x.chosenFor(instance), -2);
        x.constrain(0, 1, 0, 'c', 0);
        c.due("one with more", () -> x.chosenFor(instance), 1);
        x.constrain(0, 0, 0, 'c', 1);
        c.due("alike again, as the class of 'c' has no meaning", () -> x.chosenFor(instance), -2);
        x.constrain(0, 0, 0, 'd', 0);
        c.due("the other one with more", () -> x.chosenFor(instance), 0);
        x.constrain(0, 1, 0, 'd', 1);
        c.due("another class is not among them", () -> x.chosenFor(instance), -2);
        x.constrain(0, 1, 0, 'd', 0);
        c.due("all of them and more", () -> x.chosenFor(instance), 1);
        x.specialise(0, t1, -1);
        x.constrain(0, 2, 1, 'c', 0);
        c.due("the same pattern by another parameter", () -> x.chosenFor(instance), -2);
        Overloadery y = new Overloadery();
        y.addTemplate(1);
        int parameter = y.parameter(0);
        y.specialise(0, parameter, -1);
        y.specialise(0, y.pointerTo(parameter), -1);
        y.constrain(0, 0, 0, 'p', 0);
        int pointer = y.instance(0, y.pointerTo(0), -1);
        c.due("patterns go ahead of constraints", () -> y.chosenFor(pointer), 1);
    }

    private void notSure() {
        Overloadery x = new Overloadery();
        x.addClass(0);
        x.addTemplate(2);
        int t0 = x.parameter(0);
        int t1 = x.parameter(1);
        int cls = x.classType(0);
        x.specialise(0, 2, t0);
        x.specialise(0, t1, 2);
        x.setBase(0, -1, cls);
        x.setBase(0, 0, cls);
        x.setBase(0, 1, cls);
        int both = x.instance(0, 2, 2);
        int first = x.instance(0, 2, 3);
        c.due("two, neither more special", () -> x.chosenFor(both), -2);
        c.due("has no base", () -> x.baseOf(both), NO_ELEMENT);
        c.due("is no base", () -> x.distance(both, cls), NO_ELEMENT);
        c.due("the first alone", () -> x.chosenFor(first), 0);
        c.due("has a base", () -> x.baseOf(first), cls);
    }

    /** An instance with a base that has bases: those of the class are counted on, to the sixth step. */
    private void basesBeyondClasses() {
        Overloadery x = new Overloadery();
        for (int i = 0; i < 8; i++) {
            x.addClass(0);
            if (i > 0) x.addBase(i, i - 1, i % 2 == 0);
        }
        x.addTemplate(1);
        x.addTemplate(1);
        x.setBase(0, -1, x.instance(1, x.parameter(0), -1));
        x.setBase(1, -1, x.classType(7));
        int instance = x.instance(0, 2, -1);
        int[] classes = new int[8];
        for (int i = 0; i < 8; i++) {
            classes[i] = x.classType(i);
        }
        c.due("its base's base", () -> x.distance(instance, classes[7]), 2);
        c.due("the sixth step", () -> x.distance(instance, classes[3]), 6);
        c.due("the seventh step", () -> x.distance(instance, classes[2]), NO_ELEMENT);
        c.due("a class has no last step", () -> x.distance(classes[7], classes[0]), 7);
        int base = x.instance(1, 2, -1);
        c.due("its base", () -> x.distance(instance, base), 1);
        c.due("the sixth step from there", () -> x.distance(base, classes[2]), 6);
    }

    /** Each instance asks twice what the one in it leads to; that is found once. */
    private void deepConstraints() {
        Overloadery x = new Overloadery();
        x.addClass(0);
        x.addClass(0);
        x.addTemplate(1);
        int t0 = x.parameter(0);
        for (int i = 0; i < 2; i++) {
            x.specialise(0, t0, -1);
            x.constrain(0, i, 0, 'd', i);
        }
        x.setBase(0, -1, x.classType(0));
        int type = 2;
        for (int depth = 1; depth < 30; depth++) {
            type = x.instance(0, type, -1);
            int instance = type;
            c.due("depth " + depth, () -> x.chosenFor(instance), depth % 2 == 0 ? 0 : -1);
        }
    }

    /** An instance that asks for its own body: the document does not tell what holds, but the calls end. */
    private void circles() {
        Overloadery x = new Overloadery();
        x.addClass(0);
        int derived = x.addTemplate(1);
        int base = x.addTemplate(1);
        int t0 = x.parameter(0);
        x.setBase(derived, -1, x.instance(base, x.instance(derived, t0, -1), -1));
        x.setBase(base, -1, x.classType(0));
        x.specialise(base, t0, -1);
        x.constrain(base, 0, 0, 'd', 0);
        int instance = x.instance(derived, 2, -1);
        int itsBase = x.instance(base, instance, -1);
        int cls = x.classType(0);
        c.due("it has a base", () -> x.baseOf(instance), itsBase);
        c.due("some body", () -> x.chosenFor(itsBase) >= -2 && x.chosenFor(itsBase) <= 0, true);
        c.due("the same one again", () -> x.chosenFor(itsBase) == x.chosenFor(itsBase), true);
        c.due("some distance or none", () -> {
            try {
                return x.distance(instance, cls) == 2;
            } catch (java.util.NoSuchElementException e) {
                return true;
            }
        }, true);
    }

    /** Bases that grow, and of which there are very many: the calls end. */
    private void growth() {
        Overloadery x = new Overloadery();
        x.addClass(0);
        x.addTemplate(2);
        int t0 = x.parameter(0);
        int t1 = x.parameter(1);
        int swapped = x.instance(0, t1, t0);
        x.setBase(0, -1, x.instance(0, swapped, x.pointerTo(t0)));
        for (int i = 0; i < 4; i++) {
            x.specialise(0, x.pointerTo(t0), i % 2 == 0 ? x.instance(0, t0, t1) : t1);
            x.setBase(0, i, x.instance(0, x.instance(0, t1, x.pointerTo(t0)), x.instance(0, t0, t0)));
            for (int j = 0; j < 4; j++) {
                x.constrain(0, i, j % 2, 'd', 0);
            }
        }
        x.addFunction(0, 0, false);
        x.addParameter(0, 'c', x.instance(0, t0, x.instance(0, t0, t1)));
        int type = x.instance(0, x.instance(0, 1, 2), x.pointerTo(x.instance(0, 3, x.pointerTo(4))));
        for (int i = 0; i < 3; i++) {
            x.addArgument(type, 'l');
            c.due("candidates with " + i, () -> x.candidates(0, 0), 1);
            resolvesSomehow(x, i);
        }
        int cls = x.classType(0);
        c.due("no class among them", () -> x.distance(type, cls), NO_ELEMENT);
    }

    private void resolvesSomehow(Overloadery x, int arguments) {
        c.due("both ways alike with " + arguments, () -> x.resolve(0, 0) == x.resolveAnew(0, 0), true);
    }
}
