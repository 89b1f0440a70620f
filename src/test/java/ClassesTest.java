/** Promises 10 to 14, 19 and 48: namespaces, classes, their bases, members and conversions, distances between classes. */
public final class ClassesTest {
    private static final Class<?> INDEX = IndexOutOfBoundsException.class;
    private static final Class<?> ARGUMENT = IllegalArgumentException.class;
    private static final Class<?> STATE = IllegalStateException.class;
    private static final Class<?> NO_ELEMENT = java.util.NoSuchElementException.class;
    private static final Class<?> UNSUPPORTED = UnsupportedOperationException.class;

    private final Checks c = new Checks();

    public static void main(String[] args) {
        ClassesTest test = new ClassesTest();
        test.namespaces();
        test.classes();
        test.bases();
        test.members();
        test.frozen();
        test.conversions();
        test.distances();
        test.meanParts();
        test.c.finish("ClassesTest");
    }

    private static Overloadery withClasses(int count) {
        Overloadery x = new Overloadery();
        for (int i = 0; i < count; i++) {
            x.addClass(0);
        }
        return x;
    }

    private void namespaces() {
        Overloadery x = new Overloadery();
        c.due("in none", () -> x.addNamespace(1), INDEX);
        c.due("in -1", () -> x.addNamespace(-1), INDEX);
        for (int i = 1; i < 6; i++) {
            int outer = i - 1;
            c.due("namespace " + i, () -> x.addNamespace(outer), i);
        }
        c.due("a seventh", () -> x.addNamespace(0), STATE);
        c.due("a seventh in none", () -> x.addNamespace(6), INDEX);
    }

    private void classes() {
        Overloadery x = new Overloadery();
        c.due("in no namespace", () -> x.addClass(1), INDEX);
        c.due("in namespace -1", () -> x.addClass(-1), INDEX);
        for (int i = 0; i < 12; i++) {
            c.due("class " + i, () -> x.addClass(0), i);
        }
        c.due("a thirteenth", () -> x.addClass(0), STATE);
        c.due("a thirteenth in no namespace", () -> x.addClass(1), INDEX);
    }

    private void bases() {
        Overloadery x = withClasses(6);
        c.due("no class", () -> x.addBase(6, 0, false), INDEX);
        c.due("class -1", () -> x.addBase(-1, 0, false), INDEX);
        c.due("no base", () -> x.addBase(5, 6, false), INDEX);
        c.due("base -1", () -> x.addBase(5, -1, true), INDEX);
        c.due("itself", () -> x.addBase(5, 5, false), ARGUMENT);
        c.due("a higher one", () -> x.addBase(1, 2, false), ARGUMENT);
        c.due("the first", () -> x.addBase(5, 3, true), 1);
        c.due("again", () -> x.addBase(5, 3, true), ARGUMENT);
        c.due("again, otherwise", () -> x.addBase(5, 3, false), ARGUMENT);
        c.due("the second", () -> x.addBase(5, 0, false), 2);
        c.due("the third", () -> x.addBase(5, 2, false), 3);
        c.due("a fourth", () -> x.addBase(5, 1, false), STATE);
        c.due("the first again ahead of a fourth", () -> x.addBase(5, 3, false), ARGUMENT);
        c.due("a higher one ahead of a fourth", () -> x.addBase(5, 5, false), ARGUMENT);
        c.due("that of another class", () -> x.addBase(4, 3, false), 1);
    }

    private void members() {
        Overloadery x = withClasses(3);
        c.due("no class", () -> x.addMember(3, 0), INDEX);
        c.due("class -1", () -> x.addMember(-1, 0), INDEX);
        c.due("no member", () -> x.addMember(2, 3), INDEX);
        c.due("member -1", () -> x.addMember(2, -1), INDEX);
        c.due("itself", () -> x.addMember(2, 2), ARGUMENT);
        c.due("a higher one", () -> x.addMember(0, 2), ARGUMENT);
        c.due("the first", () -> x.addMember(2, 0), 1);
        c.due("the same again", () -> x.addMember(2, 0), 2);
        c.due("another", () -> x.addMember(2, 1), 3);
        c.due("a fourth", () -> x.addMember(2, 1), STATE);
        c.due("a higher one ahead of a fourth", () -> x.addMember(2, 2), ARGUMENT);
    }

    private void frozen() {
        Overloadery x = withClasses(3);
        x.make(0, 't', 0);
        c.due("a base behind an object", () -> x.addBase(2, 0, false), STATE);
        c.due("a member behind an object", () -> x.addMember(2, 0), STATE);
        c.due("a wrong base behind an object", () -> x.addBase(2, 2, false), ARGUMENT);
        c.due("a wrong member behind an object", () -> x.addMember(2, 2), ARGUMENT);
        c.due("no base behind an object", () -> x.addBase(2, 3, false), INDEX);
        x.endExpression();
        c.due("a base behind an object that is gone", () -> x.addBase(2, 0, false), STATE);
        c.due("a class behind an object", () -> x.addClass(0), 3);
        c.due("a member for that", () -> x.addMember(3, 0), STATE);
    }

    private void conversions() {
        Overloadery x = withClasses(2);
        int zero = x.classType(0);
        int one = x.classType(1);
        int open = x.pointerTo(x.parameter(0));
        c.due("no class", () -> x.addConversion(2, 0, true), INDEX);
        c.due("class -1", () -> x.addConversion(-1, 0, true), INDEX);
        c.due("no type", () -> x.addConversion(0, 99, true), INDEX);
        c.due("type -1", () -> x.addConversion(0, -1, false), INDEX);
        c.due("an open type", () -> x.addConversion(0, open, true), ARGUMENT);
        c.due("the class itself", () -> x.addConversion(0, zero, true), ARGUMENT);
        c.due("the class itself, to", () -> x.addConversion(0, zero, false), ARGUMENT);
        c.due("from one", () -> x.addConversion(0, 2, true), 1);
        c.due("from the same", () -> x.addConversion(0, 2, true), ARGUMENT);
        c.due("to the same", () -> x.addConversion(0, 2, false), 1);
        c.due("from another", () -> x.addConversion(0, one, true), 2);
        c.due("from a third", () -> x.addConversion(0, 3, true), STATE);
        c.due("from the first again ahead of a third", () -> x.addConversion(0, 2, true), ARGUMENT);
        c.due("to another", () -> x.addConversion(0, 3, false), 2);
        c.due("to a third", () -> x.addConversion(0, 4, false), STATE);
        c.due("another class", () -> x.addConversion(1, zero, true), 1);
    }

    /** 3 has 1 and 2, which have 0 each, not virtual; 5 has 4, virtual, and 3; 4 has 0, virtual. */
    private Overloadery diamonds() {
        Overloadery x = withClasses(7);
        x.addBase(1, 0, false);
        x.addBase(2, 0, false);
        x.addBase(3, 1, false);
        x.addBase(3, 2, false);
        x.addBase(4, 0, true);
        x.addBase(5, 4, true);
        x.addBase(5, 3, false);
        for (int i = 0; i < 7; i++) {
            x.classType(i);
        }
        return x;
    }

    private void distances() {
        Overloadery x = diamonds();
        int pointer = x.pointerTo(5);
        x.addTemplate(1);
        int open = x.instance(0, x.parameter(0), -1);
        int instance = x.instance(0, 5, -1);
        c.due("no type", () -> x.distance(99, 5), INDEX);
        c.due("no base", () -> x.distance(5, 99), INDEX);
        c.due("no base, and a basic type", () -> x.distance(0, -1), INDEX);
        c.due("a basic type", () -> x.distance(0, 5), ARGUMENT);
        c.due("a pointer", () -> x.distance(pointer, 5), ARGUMENT);
        c.due("to a basic type", () -> x.distance(5, 0), ARGUMENT);
        c.due("an open type", () -> x.distance(open, 5), ARGUMENT);
        c.due("to an open type", () -> x.distance(5, open), ARGUMENT);
        c.due("an open type to itself", () -> x.distance(open, open), ARGUMENT);
        c.due("to itself", () -> x.distance(8, 8), 0);
        c.due("to a base", () -> x.distance(6, 5), 1);
        c.due("to one of two ways", () -> x.distance(8, 6), 1);
        c.due("several parts", () -> x.distance(8, 5), UNSUPPORTED);
        c.due("no base of it", () -> x.distance(5, 8), NO_ELEMENT);
        c.due("no base at all", () -> x.distance(11, 5), NO_ELEMENT);
        c.due("to an instance", () -> x.distance(5, instance), NO_ELEMENT);
        c.due("from an instance without a base", () -> x.distance(instance, 5), NO_ELEMENT);
        c.due("virtual and not virtual", () -> x.distance(10, 5), UNSUPPORTED);
        c.due("two steps", () -> x.distance(10, 6), 2);
        virtualDistances();
    }

    private void virtualDistances() {
        Overloadery x = withClasses(6);
        x.addBase(1, 0, true);
        x.addBase(2, 0, true);
        x.addBase(3, 1, false);
        x.addBase(3, 2, false);
        x.addBase(4, 3, false);
        x.addBase(4, 0, true);
        x.addBase(5, 4, true);
        for (int i = 0; i < 6; i++) {
            x.classType(i);
        }
        c.due("one virtual part", () -> x.distance(8, 5), 2);
        c.due("the shorter way", () -> x.distance(9, 5), 1);
        c.due("through a virtual base", () -> x.distance(10, 5), 2);
        c.due("through a virtual base and others", () -> x.distance(10, 6), 3);
    }

    private void meanParts() {
        c.due("no classes", new Overloadery()::meanParts, ArithmeticException.class);
        c.due("one class", withClasses(1)::meanParts, 1.0);
        // 0: 1, 1: 2, 2: 2, 3: 5 with two parts of 0, 4: 2, 5: 5 more, 4, and the virtual 0, 6: 1
        c.due("diamonds", diamonds()::meanParts, (1 + 2 + 2 + 5 + 2 + 8 + 1) / 7.0);
        Overloadery x = withClasses(2);
        x.addMember(1, 0);
        c.due("members do not count", x::meanParts, 1.0);
    }
}
