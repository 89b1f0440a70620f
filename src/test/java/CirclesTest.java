/**
 * Promises 8, 9, 19, 25 and 26 where a constraint 'd' asks for the body of an instance that asks back: the body that goes
 * with the document, where just one does; and what the program does where the document is silent.
 */
public final class CirclesTest {
    private static final Class<?> NO_ELEMENT = java.util.NoSuchElementException.class;

    private final Checks c = new Checks();

    public static void main(String[] args) {
        CirclesTest test = new CirclesTest();
        test.sameBaseOfEitherBody();
        test.oneOfThreeBodies(false);
        test.oneOfThreeBodies(true);
        test.oneOfThreeForArguments();
        test.constraintThatCannotHold();
        test.moreSpecialWhateverElse();
        test.noWay();
        test.severalWays();
        test.wayBelowAnotherCircle();
        for (int cls = 0; cls < 2; cls++) {
            test.wayLeftByOneInBase(cls, false);
            test.wayLeftByOneInBase(cls, true);
            test.wayLeftByOneThatIsNew(cls);
            test.wayLeftAsOtherHasOneWithoutBody(cls);
        }
        test.longChain();
        test.bigCircle(2);
        test.bigCircle(13);
        test.bigCircle(22);
        test.c.finish("CirclesTest");
    }

    /** Template 0 is asked for, an instance of template 1 in it has it as its base. */
    private static int circle(Overloadery x) {
        int asked = x.addTemplate(1);
        int inner = x.addTemplate(1);
        int type = x.instance(asked, x.instance(inner, 0, -1), -1);
        x.setBase(inner, -1, type);
        return type;
    }

    private static void classes(Overloadery x, int count) {
        for (int i = 0; i < count; i++) {
            x.addClass(0);
        }
    }

    /**
     * An instance of template 0, a cell, leads to class 0 or to class 1. One of template 2, a watch, has no body that goes with
     * a cell of its type that leads to the class told, so that it leaves the other way alone. Template 4 is told elsewhere.
     */
    private static int cell(Overloadery x, int excluded) {
        classes(x, 2);
        int t0 = x.parameter(0);
        for (int i = 0; i < 5; i++) {
            x.addTemplate(i == 3 ? 2 : 1);
        }
        x.setBase(0, -1, x.instance(1, x.instance(0, t0, -1), -1));
        x.specialise(1, t0, -1);
        x.constrain(1, 0, 0, 'd', 0);
        x.setBase(1, 0, x.classType(0));
        x.setBase(1, -1, x.classType(1));
        x.setBase(2, -1, x.instance(3, x.instance(2, t0, -1), x.instance(0, t0, -1)));
        x.specialise(3, t0, x.parameter(1));
        x.constrain(3, 0, 0, 'd', 0);
        x.constrain(3, 0, 1, 'd', excluded);
        x.setBase(3, 0, x.classType(1));
        x.setBase(3, -1, x.classType(0));
        return x.instance(0, 1, -1);
    }

    private void leadsTo(String name, Overloadery x, int type, int cls) {
        c.due(name, () -> x.distance(type, x.classType(cls)), 2);
        c.due(name + ", not to the other class", () -> x.distance(type, x.classType(1 - cls)), NO_ELEMENT);
        c.due(name + ", its body", () -> x.chosenFor(x.instance(1, type, -1)), cls == 0 ? 0 : -1);
    }

    /** The watch has no number: it stands in the base of a type that has one. */
    private void wayLeftByOneInBase(int cls, boolean isBehindPointer) {
        Overloadery x = new Overloadery();
        int cell = cell(x, 1 - cls);
        int t0 = x.parameter(0);
        int watch = x.instance(2, t0, -1);
        x.specialise(4, x.pointerTo(t0), -1);
        x.setBase(4, 0, x.instance(4, isBehindPointer ? x.pointerTo(watch) : watch, -1));
        x.instance(4, x.pointerTo(1), -1);
        leadsTo("a way left by one in a base", x, cell, cls);
    }

    /** The watch gets its number when the cell was asked for already. */
    private void wayLeftByOneThatIsNew(int cls) {
        Overloadery x = new Overloadery();
        int cell = cell(x, 1 - cls);
        c.due("it leads to one class", () -> leads(x, cell, 0) != leads(x, cell, 1), true);
        x.instance(2, 1, -1);
        leadsTo("a way left by one that is new", x, cell, cls);
    }

    /**
     * Each cell leads to class 0 or to class 1, but in one way its base has an instance of template 2 in it, whose base has no
     * body that goes with the document: that this leads to class 0 if it does not.
     */
    private void wayLeftAsOtherHasOneWithoutBody(int cls) {
        Overloadery x = new Overloadery();
        classes(x, 2);
        int t0 = x.parameter(0);
        int t1 = x.parameter(1);
        for (int i = 0; i < 5; i++) {
            x.addTemplate(i == 3 ? 2 : 1);
        }
        x.setBase(0, -1, x.instance(3, x.instance(0, t0, -1), t0));
        int bad = x.instance(4, x.instance(2, t1, -1), -1);
        for (int i = 0; i < 2; i++) {
            x.specialise(3, t0, t1);
            x.constrain(3, i, 0, 'd', i);
            x.setBase(3, i, i == cls ? x.classType(i) : bad);
        }
        x.setBase(3, -1, x.classType(0));
        x.setBase(4, -1, x.classType(1 - cls));
        x.setBase(2, -1, x.instance(1, x.instance(2, t0, -1), -1));
        x.specialise(1, t0, -1);
        x.constrain(1, 0, 0, 'd', 0);
        x.setBase(1, 0, x.classType(1));
        x.setBase(1, -1, x.classType(0));
        int[] cells = new int[6];
        for (int i = 0; i < cells.length; i++) {
            cells[i] = x.instance(0, Machine.pointers(x, 1, i), -1);
        }
        for (int cell : cells) {
            c.due("a way without others", () -> x.distance(cell, x.classType(cls)), 2);
            c.due("not the other way", () -> x.distance(cell, x.classType(1 - cls)), NO_ELEMENT);
        }
    }

    private static boolean leads(Overloadery x, int type, int cls) {
        try {
            return x.distance(type, x.classType(cls)) > 0;
        } catch (java.util.NoSuchElementException e) {
            return false;
        }
    }

    private void sameBaseOfEitherBody() {
        Overloadery x = new Overloadery();
        classes(x, 2);
        int cls = x.classType(0);
        int type = circle(x);
        x.setBase(0, -1, cls);
        x.specialise(0, x.parameter(0), -1);
        x.constrain(0, 0, 0, 'd', 0);
        x.setBase(0, 0, cls);
        c.due("either body leads to the class", () -> x.chosenFor(type), 0);
        c.due("its base", () -> x.baseOf(type), cls);
        x.constrain(0, 0, 0, 'd', 1);
        c.due("neither leads to another class", () -> x.chosenFor(type), -1);
    }

    /** With the template itself the first specialisation fits, with that one none does, with the second one it does. */
    private void oneOfThreeBodies(boolean isInnerFirst) {
        Overloadery x = new Overloadery();
        int type = oneOfThree(x);
        int inner = x.instance(1, 0, -1);
        int one = x.classType(1);
        int two = x.classType(2);
        if (isInnerFirst) c.due("the distance first", () -> x.distance(inner, one), 3);
        c.due("the only body that goes", () -> x.chosenFor(type), 1);
        c.due("its base", () -> x.baseOf(type), two);
        c.due("by way of it", () -> x.distance(inner, one), 3);
        c.due("and to the base of it", () -> x.distance(type, one), 2);
        c.due("again", () -> x.chosenFor(type), 1);
    }

    private static int oneOfThree(Overloadery x) {
        classes(x, 3);
        x.addBase(2, 0, false);
        x.addBase(2, 1, false);
        int type = circle(x);
        int t0 = x.parameter(0);
        x.setBase(0, -1, x.classType(0));
        x.specialise(0, t0, -1);
        x.constrain(0, 0, 0, 'd', 0);
        x.specialise(0, t0, -1);
        x.constrain(0, 1, 0, 'd', 0);
        x.constrain(0, 1, 0, 'd', 1);
        x.setBase(0, 1, x.classType(2));
        return type;
    }

    private void oneOfThreeForArguments() {
        Overloadery x = new Overloadery();
        x.addNamespace(0);
        int type = oneOfThree(x);
        int derived = x.addClass(1);
        x.addBase(derived, 2, false);
        x.setBase(0, 1, x.classType(derived));
        int t0 = x.parameter(0);
        x.addFunction(1, 0, false);
        x.addParameter(0, 'c', x.classType(1));
        x.addFunction(1, 0, false);
        x.addParameter(1, 'c', t0);
        x.require(1, 0, 'd', derived);
        x.addArgument(x.instance(1, 0, -1), 'k');
        c.due("found by way of the only body that goes", () -> x.candidates(0, 0), 2);
        c.due("comes to a base of it", () -> x.coming(0, 0), 2008);
        c.due("a constraint of a function", () -> x.isViable(1), true);
        c.due("the same type is better", () -> x.resolve(0, 0), 1);
        c.due("the same type is better, anew", () -> x.resolveAnew(0, 0), 1);
        c.due("the body", () -> x.chosenFor(type), 1);
    }

    private void constraintThatCannotHold() {
        Overloadery x = new Overloadery();
        x.addNamespace(0);
        x.addClass(0);
        x.addClass(1);
        x.addFunction(1, 0, false);
        int zero = x.classType(0);
        int one = x.classType(1);
        int t0 = x.parameter(0);
        for (int i = 0; i < 3; i++) {
            x.addTemplate(1);
        }
        x.specialise(0, t0, -1);
        x.constrain(0, 0, 0, 'd', 0);
        x.constrain(0, 0, 0, 'p', 0);
        x.setBase(0, -1, zero);
        x.specialise(1, t0, -1);
        x.constrain(1, 0, 0, 'd', 0);
        x.setBase(1, 0, one);
        int first = x.instance(2, 0, -1);
        int second = x.instance(1, first, -1);
        int third = x.instance(0, second, -1);
        x.setBase(2, -1, third);
        c.due("no pointer, whatever else is asked", () -> x.chosenFor(third), -1);
        c.due("so that this one leads to class 0", () -> x.chosenFor(second), 0);
        for (int type : new int[] {third, second, first}) {
            x.clearArguments();
            x.addArgument(type, 'l');
            c.due("class 1 is found from " + type, () -> x.candidates(0, 0), 1);
        }
    }

    /** The first specialisation asks for itself and has no way; the second one fits, and is more special. */
    private void moreSpecialWhateverElse() {
        Overloadery x = new Overloadery();
        classes(x, 1);
        int type = circle(x);
        int t0 = x.parameter(0);
        x.setBase(0, -1, x.classType(0));
        x.specialise(0, t0, -1);
        x.constrain(0, 0, 0, 'd', 0);
        c.due("no way", () -> x.chosenFor(type), -2);
        x.specialise(0, x.instance(1, t0, -1), -1);
        c.due("the more special one fits, whatever else does", () -> x.chosenFor(type), 1);
    }

    /** The document is silent: the body is taken as not sure, and there is no base. */
    private void noWay() {
        Overloadery x = new Overloadery();
        classes(x, 1);
        int type = circle(x);
        int inner = x.instance(1, 0, -1);
        int cls = x.classType(0);
        x.setBase(0, -1, cls);
        x.specialise(0, x.parameter(0), -1);
        x.constrain(0, 0, 0, 'd', 0);
        c.due("not sure", () -> x.chosenFor(type), -2);
        c.due("no base", () -> x.baseOf(type), NO_ELEMENT);
        c.due("the other one has its body", () -> x.chosenFor(inner), -1);
        c.due("and its base", () -> x.baseOf(inner), type);
        c.due("and leads nowhere else", () -> x.distance(inner, cls), NO_ELEMENT);
    }

    /** The document is silent: it is the template itself rather than a specialisation, for every call. */
    private void severalWays() {
        Overloadery x = new Overloadery();
        classes(x, 1);
        int type = circle(x);
        int inner = x.instance(1, 0, -1);
        int cls = x.classType(0);
        x.specialise(0, x.parameter(0), -1);
        x.constrain(0, 0, 0, 'd', 0);
        x.setBase(0, 0, cls);
        c.due("the template itself", () -> x.chosenFor(type), -1);
        c.due("with which its own base goes", () -> x.baseOf(type), NO_ELEMENT);
        c.due("and that of the other one", () -> x.distance(inner, cls), NO_ELEMENT);
    }

    /** A circle with two ways, of which only one leaves a way for a circle that depends on it. */
    private void wayBelowAnotherCircle() {
        Overloadery x = new Overloadery();
        classes(x, 2);
        int lower = circle(x);
        int t0 = x.parameter(0);
        x.specialise(0, t0, -1);
        x.constrain(0, 0, 0, 'd', 0);
        x.setBase(0, 0, x.classType(0));
        int pair = x.addTemplate(2);
        int inner = x.addTemplate(1);
        int t1 = x.parameter(1);
        int one = x.classType(1);
        int upper = x.instance(pair, x.instance(inner, 0, -1), lower);
        x.setBase(inner, -1, upper);
        x.setBase(pair, -1, one);
        x.specialise(pair, t0, t1);
        x.constrain(pair, 0, 0, 'd', 1);
        x.specialise(pair, t0, t1);
        x.constrain(pair, 1, 0, 'd', 1);
        x.constrain(pair, 1, 1, 'd', 0);
        x.setBase(pair, 1, one);
        c.due("the only body that goes for the upper one", () -> x.chosenFor(upper), 1);
        c.due("the body of the lower one with which that goes", () -> x.chosenFor(lower), 0);
        c.due("the upper one again", () -> x.chosenFor(upper), 1);
    }

    /** Each instance asks for the one in it, and the first one for a class. */
    private void longChain() {
        Overloadery x = new Overloadery();
        classes(x, 1);
        int cls = x.classType(0);
        int t0 = x.parameter(0);
        for (int i = 0; i < 4; i++) {
            x.addTemplate(1);
        }
        for (int i = 0; i < 3; i += 2) {
            x.specialise(i, t0, -1);
            x.constrain(i, 0, 0, 'd', 0);
            x.setBase(i, 0, cls);
        }
        int type = cls;
        for (int i = 0; i < 29; i++) {
            type = x.instance(2, type, -1);
        }
        x.setBase(1, -1, type);
        type = x.instance(1, 0, -1);
        for (int i = 0; i < 28; i++) {
            type = x.instance(0, type, -1);
        }
        int last = type;
        c.due("leads to the class by a long chain", () -> x.chosenFor(last), 0);
        x.setBase(2, 0, -1);
        c.due("does not without its first link", () -> x.chosenFor(last), -1);
    }

    /** Instances each of which has a base if the next one has none: there are two ways for some, and none for others. */
    private void bigCircle(int many) {
        Overloadery x = new Overloadery();
        classes(x, 1);
        int cls = x.classType(0);
        int t0 = x.parameter(0);
        x.addTemplate(1);
        x.addTemplate(1);
        x.specialise(0, t0, -1);
        x.constrain(0, 0, 0, 'd', 0);
        x.setBase(0, -1, cls);
        x.setBase(1, -1, x.instance(0, x.instance(1, x.pointerTo(t0), -1), -1));
        int[] all = new int[many];
        int pointer = 0;
        for (int i = 0; i < many; i++) {
            all[i] = x.instance(0, x.instance(1, pointer, -1), -1);
            if (i < many - 1) pointer = x.pointerTo(pointer);
        }
        x.specialise(1, pointer, -1);
        x.setBase(1, 0, all[0]);
        for (int i = 0; i < many; i++) {
            int own = all[i];
            int next = all[(i + 1) % many];
            if (many % 2 == 1) c.due(many + " in a circle, " + i, () -> x.chosenFor(own), -2);
            else c.due(many + " in a circle, " + i, () -> x.chosenFor(own) + x.chosenFor(next), -1);
        }
    }
}
