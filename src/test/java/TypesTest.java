/** Promises 1 to 9: a new object and the types. */
public final class TypesTest {
    private static final Class<?> INDEX = IndexOutOfBoundsException.class;
    private static final Class<?> ARGUMENT = IllegalArgumentException.class;
    private static final Class<?> STATE = IllegalStateException.class;
    private static final Class<?> NO_ELEMENT = java.util.NoSuchElementException.class;

    private final Checks c = new Checks();

    public static void main(String[] args) {
        TypesTest test = new TypesTest();
        test.newObject();
        test.pointers();
        test.classesAndParameters();
        test.instances();
        test.largeTypes();
        test.manyTypes();
        test.basesOfInstances();
        test.chosenBodies();
        test.sixSteps();
        test.c.finish("TypesTest");
    }

    private void newObject() {
        Overloadery x = new Overloadery();
        c.due("types of a new one", x::types, 5);
        c.due("class of a new one", () -> x.classType(0), INDEX);
        c.due("template of a new one", () -> x.instance(0, 0, -1), INDEX);
        c.due("function of a new one", () -> x.isViable(0), INDEX);
        c.due("namespace 1 of a new one", () -> x.addClass(1), INDEX);
        c.due("block of a new one", x::close, STATE);
        c.due("second block", () -> x.open(false), 2);
        c.due("living of a new one", x::living, 0);
        c.due("trace of a new one", x::trace, 0);
        c.due("made of a new one", x::made, 0);
        c.due("taken down of a new one", x::takenDown, 0);
        c.due("class in namespace 0", () -> x.addClass(0), 0);
        for (int i = 0; i < 5; i++) {
            int type = i;
            c.due("kind of " + i, () -> x.kindOf(type), 'b');
        }
        c.due("kind of 5", () -> x.kindOf(5), INDEX);
        c.due("kind of -1", () -> x.kindOf(-1), INDEX);
    }

    private void pointers() {
        Overloadery x = new Overloadery();
        c.due("no type", () -> x.pointerTo(5), INDEX);
        c.due("negative type", () -> x.pointerTo(-1), INDEX);
        c.due("pointer", () -> x.pointerTo(3), 5);
        c.due("pointer to pointer", () -> x.pointerTo(5), 6);
        c.due("same pointer", () -> x.pointerTo(3), 5);
        c.due("another pointer", () -> x.pointerTo(4), 7);
        c.due("kind of a pointer", () -> x.kindOf(6), 'p');
        c.due("types", x::types, 8);
    }

    private void classesAndParameters() {
        Overloadery x = new Overloadery();
        x.addClass(0);
        x.addClass(0);
        c.due("class 1", () -> x.classType(1), 5);
        c.due("class 0", () -> x.classType(0), 6);
        c.due("class 1 again", () -> x.classType(1), 5);
        c.due("class 2", () -> x.classType(2), INDEX);
        c.due("class -1", () -> x.classType(-1), INDEX);
        c.due("parameter 2", () -> x.parameter(2), 7);
        c.due("parameter 0", () -> x.parameter(0), 8);
        c.due("parameter 2 again", () -> x.parameter(2), 7);
        c.due("parameter 3", () -> x.parameter(3), ARGUMENT);
        c.due("parameter -1", () -> x.parameter(-1), ARGUMENT);
        c.due("kind of a class", () -> x.kindOf(5), 'c');
        c.due("kind of a parameter", () -> x.kindOf(7), 't');
        c.due("types", x::types, 9);
    }

    private void instances() {
        Overloadery x = new Overloadery();
        x.addTemplate(1);
        x.addTemplate(2);
        c.due("instance of one", () -> x.instance(0, 2, -1), 5);
        c.due("instance of two", () -> x.instance(1, 2, 5), 6);
        c.due("two the other way round", () -> x.instance(1, 5, 2), 7);
        c.due("the same", () -> x.instance(1, 2, 5), 6);
        c.due("kind of an instance", () -> x.kindOf(6), 'i');
        c.due("no template", () -> x.instance(2, 0, -1), INDEX);
        c.due("template -1", () -> x.instance(-1, 0, -1), INDEX);
        c.due("no first type", () -> x.instance(0, 8, -1), INDEX);
        c.due("first type -1", () -> x.instance(0, -1, -1), INDEX);
        c.due("no second type", () -> x.instance(1, 0, 8), INDEX);
        c.due("second type -2", () -> x.instance(1, 0, -2), INDEX);
        c.due("no second type of one", () -> x.instance(0, 0, 99), INDEX);
        c.due("two for one", () -> x.instance(0, 0, 0), ARGUMENT);
        c.due("one for two", () -> x.instance(1, 0, -1), ARGUMENT);
        c.due("no template ahead of two for one", () -> x.instance(7, 0, 0), INDEX);
        c.due("types", x::types, 8);
    }

    private void largeTypes() {
        Overloadery x = new Overloadery();
        x.addTemplate(2);
        int type = 0;
        for (int size = 2; size <= 30; size++) {
            type = x.pointerTo(type);
        }
        int largest = type;
        c.due("size 31", () -> x.pointerTo(largest), STATE);
        c.due("types of all sizes", x::types, 5 + 29);
        int fourteen = 4 + 13;
        int fifteen = 4 + 14;
        c.due("1 and 14 and 15", () -> x.instance(0, fourteen, fifteen), 34);
        c.due("1 and 15 and 15", () -> x.instance(0, fifteen, fifteen), STATE);
        c.due("two for one ahead of the size", () -> x.instance(0, largest, -1), ARGUMENT);
    }

    /** Asks for pointers until there are 150 types; those to five basic types up to the largest size are 145. */
    private static void fill(Overloadery x) {
        for (int basic = 0; basic < 5; basic++) {
            int type = basic;
            for (int size = 2; size <= 30 && x.types() < 150; size++) {
                type = x.pointerTo(type);
            }
        }
    }

    private void manyTypes() {
        Overloadery x = new Overloadery();
        x.addClass(0);
        x.addClass(0);
        x.addTemplate(1);
        x.classType(0);
        fill(x);
        c.due("150 types", x::types, 150);
        c.due("a pointer more", () -> x.pointerTo(149), STATE);
        c.due("a class more", () -> x.classType(1), STATE);
        c.due("a parameter more", () -> x.parameter(0), STATE);
        c.due("an instance more", () -> x.instance(0, 0, -1), STATE);
        c.due("no such type ahead of that", () -> x.pointerTo(150), INDEX);
        c.due("no such parameter ahead of that", () -> x.parameter(3), ARGUMENT);
        c.due("a known pointer", () -> x.pointerTo(0), 6);
        c.due("a known class", () -> x.classType(0), 5);
        c.due("still 150", x::types, 150);
    }

    private void basesOfInstances() {
        Overloadery x = new Overloadery();
        int one = x.addTemplate(1);
        int two = x.addTemplate(2);
        int t0 = x.parameter(0);
        int t1 = x.parameter(1);
        int open = x.instance(two, t1, t0);
        int pointer = x.pointerTo(t0);
        int ofPointer = x.instance(one, pointer, -1);
        int instance = x.instance(two, 2, 3);
        c.due("no base", () -> x.baseOf(instance), NO_ELEMENT);
        c.due("base of no type", () -> x.baseOf(99), INDEX);
        c.due("base of a basic type", () -> x.baseOf(0), ARGUMENT);
        c.due("base of a pointer", () -> x.baseOf(pointer), ARGUMENT);
        c.due("base of an open instance", () -> x.baseOf(open), ARGUMENT);
        x.setBase(two, -1, open);
        int types = x.types();
        c.due("the base gets the next number", () -> x.baseOf(instance), types);
        c.due("one type more", x::types, types + 1);
        c.due("the same number again", () -> x.baseOf(instance), types);
        c.due("as the one that is asked for", () -> x.instance(two, 3, 2), types);
        x.setBase(two, -1, ofPointer);
        c.due("only the base gets a number", () -> x.baseOf(instance), types + 1);
        c.due("not the pointer in it", () -> x.pointerTo(2), types + 2);
        x.setBase(two, -1, x.instance(one, x.parameter(2), -1));
        c.due("a parameter for which nothing was matched", () -> x.baseOf(instance), NO_ELEMENT);
        x.setBase(two, -1, -1);
        c.due("no base again", () -> x.baseOf(instance), NO_ELEMENT);
        baseTooLarge(x, two, t0);
        baseBeyondTheLast(x, two, instance, open);
    }

    private void baseTooLarge(Overloadery x, int two, int t0) {
        x.setBase(two, -1, x.instance(two, t0, x.instance(two, t0, 0)));
        int large = 2;
        for (int i = 0; i < 12; i++) {
            large = x.pointerTo(large);
        }
        int instance = x.instance(two, large, 0);
        int base = x.types();
        c.due("a base of size 29", () -> x.baseOf(instance), base);
        int larger = x.instance(two, x.pointerTo(large), 0);
        c.due("a base of size 31", () -> x.baseOf(larger), NO_ELEMENT);
    }

    private void baseBeyondTheLast(Overloadery x, int two, int instance, int open) {
        x.setBase(two, -1, open);
        int known = x.instance(two, 0, 1);
        int itsBase = x.baseOf(known);
        int fresh = x.instance(two, 0, 4);
        fill(x);
        c.due("a base that is known", () -> x.baseOf(known), itsBase);
        c.due("a base that would be one type too many", () -> x.baseOf(fresh), STATE);
    }

    private void chosenBodies() {
        Overloadery x = new Overloadery();
        int two = x.addTemplate(2);
        int t0 = x.parameter(0);
        int t1 = x.parameter(1);
        int p0 = x.pointerTo(t0);
        int pp0 = x.pointerTo(p0);
        int ints = x.instance(two, 2, 2);
        int pointers = x.instance(two, x.pointerTo(2), x.pointerTo(2));
        int other = x.instance(two, x.pointerTo(2), x.pointerTo(3));
        int deep = x.instance(two, x.pointerTo(x.pointerTo(2)), 1);
        c.due("no specialisation", () -> x.chosenFor(ints), -1);
        c.due("of no type", () -> x.chosenFor(-1), INDEX);
        c.due("of a pointer", () -> x.chosenFor(p0), ARGUMENT);
        int openInstance = x.instance(two, t0, 2);
        c.due("of an open instance", () -> x.chosenFor(openInstance), ARGUMENT);
        x.specialise(two, t0, t0);
        c.due("the same type twice", () -> x.chosenFor(ints), 0);
        c.due("not the same type", () -> x.chosenFor(other), -1);
        x.specialise(two, p0, t1);
        c.due("a pointer ahead", () -> x.chosenFor(other), 1);
        c.due("neither is more special", () -> x.chosenFor(pointers), -2);
        x.specialise(two, p0, p0);
        c.due("more special than both", () -> x.chosenFor(pointers), 2);
        c.due("still a pointer ahead", () -> x.chosenFor(other), 1);
        x.specialise(two, pp0, t1);
        c.due("a pointer to a pointer", () -> x.chosenFor(deep), 3);
        c.due("the template itself", () -> x.chosenFor(x.instance(two, 0, 0)), 0);
    }

    private void sixSteps() {
        Overloadery x = new Overloadery();
        int template = x.addTemplate(1);
        int t0 = x.parameter(0);
        x.specialise(template, x.pointerTo(t0), -1);
        x.setBase(template, 0, x.instance(template, t0, -1));
        int type = 2;
        int[] towers = new int[9];
        for (int i = 0; i < 9; i++) {
            towers[i] = x.instance(template, type, -1);
            type = x.pointerTo(type);
        }
        c.due("one step", () -> x.baseOf(towers[8]), towers[7]);
        for (int i = 0; i <= 6; i++) {
            int steps = i;
            c.due(i + " steps", () -> x.distance(towers[8], towers[8 - steps]), steps);
        }
        c.due("seven steps", () -> x.distance(towers[8], towers[1]), NO_ELEMENT);
        c.due("six from the seventh", () -> x.distance(towers[7], towers[1]), 6);
        c.due("the other way round", () -> x.distance(towers[1], towers[8]), NO_ELEMENT);
    }
}
