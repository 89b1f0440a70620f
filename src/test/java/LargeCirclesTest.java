/**
 * Promises 9 and 19 where very many instances ask for one another, in one circle or in many: where just one way to choose
 * their bodies goes with the document, it is that one.
 */
public final class LargeCirclesTest {
    private static final Class<?> NO_ELEMENT = java.util.NoSuchElementException.class;

    private final Checks c = new Checks();

    public static void main(String[] args) {
        LargeCirclesTest test = new LargeCirclesTest();
        for (int depth = 1; depth <= 11; depth++) {
            test.manyThatAskForThemselves(depth);
            test.eitherOrTree(depth);
        }
        for (int depth : new int[] {1, 2, 3, 5, 8, 12, 15}) {
            test.allTree(depth);
        }
        for (int digits : new int[] {1, 4, 9, 13}) {
            test.longRing(digits);
        }
        for (int digits : new int[] {2, 6, 10}) {
            test.oneWayIsLeftLater(digits);
            test.oneWayIsLeftAside(digits);
        }
        test.c.finish("LargeCirclesTest");
    }

    /** As in the issue of the same name: each pair of instances of template 0 depends on those with a pointer less. */
    private void manyThatAskForThemselves(int depth) {
        Overloadery x = new Overloadery();
        classes(x, 3);
        x.addBase(2, 0, false);
        x.addBase(2, 1, false);
        int both = x.classType(2);
        int t0 = x.parameter(0);
        int t1 = x.parameter(1);
        templates(x, 2, 1, 1, 2, 1);
        int pair = x.instance(0, t0, t1);
        x.setBase(0, -1, x.instance(1, pair, -1));
        int judge = x.instance(2, t0, -1);
        for (int i = 0; i < 3; i++) {
            x.specialise(1, t0, -1);
            if (i < 2) x.constrain(1, i, 0, 'd', 0);
            if (i != 1) x.constrain(1, i, 0, 'd', 1);
        }
        x.setBase(1, 0, judge);
        x.setBase(1, -1, judge);
        x.specialise(2, x.instance(0, x.pointerTo(t0), t1), -1);
        int left = x.instance(0, t0, x.pointerTo(t1));
        x.setBase(2, 0, x.instance(3, left, x.instance(0, t0, x.instance(4, t1, -1))));
        x.specialise(2, x.instance(0, 0, t1), -1);
        x.setBase(2, 1, both);
        x.specialise(3, t0, t1);
        x.constrain(3, 0, 0, 'd', 0);
        x.constrain(3, 0, 1, 'd', 0);
        x.setBase(3, 0, both);
        int asked = x.instance(0, Machine.pointers(x, 0, depth), 0);
        c.due("many that ask for themselves, the distance, " + depth, () -> x.distance(asked, both), 4);
        c.due("many that ask for themselves, " + depth, () -> x.chosenFor(x.instance(1, asked, -1)), 0);
    }

    private static void classes(Overloadery x, int howMany) {
        for (int i = 0; i < howMany; i++) {
            x.addClass(0);
        }
    }

    private static void templates(Overloadery x, int... parameters) {
        for (int howMany : parameters) {
            x.addTemplate(howMany);
        }
    }

    /**
     * A tree of gates, each of which leads to the class if just one of its types does. Half of the leaves do if the root
     * does, the others if it does not; so the root leads to it if the number of the others is odd, which it is just at 1.
     */
    private void eitherOrTree(int depth) {
        Overloadery x = new Overloadery();
        classes(x, 1);
        int cls = x.classType(0);
        int t0 = x.parameter(0);
        int t1 = x.parameter(1);
        templates(x, 2, 2, 1, 1, 1);
        for (int i = 0; i < 3; i++) {
            x.specialise(1, t0, t1);
            if (i < 2) x.constrain(1, i, 0, 'd', 0);
            if (i != 1) x.constrain(1, i, 1, 'd', 0);
            if (i > 0) x.setBase(1, i, cls);
        }
        x.specialise(3, t0, -1);
        x.constrain(3, 0, 0, 'd', 0);
        x.setBase(3, 0, cls);
        x.specialise(4, t0, -1);
        x.constrain(4, 0, 0, 'd', 0);
        x.setBase(4, -1, cls);
        int root = x.instance(0, Machine.pointers(x, 0, depth), 1);
        x.specialise(0, x.pointerTo(t0), t1);
        int left = x.instance(0, t0, x.pointerTo(t1));
        x.setBase(0, 0, x.instance(1, left, x.instance(0, t0, x.instance(2, t1, -1))));
        x.specialise(0, 0, x.pointerTo(t0));
        int same = x.instance(3, root, -1);
        x.setBase(0, 1, same);
        x.specialise(0, 0, x.instance(2, t0, -1));
        int other = x.instance(4, root, -1);
        x.setBase(0, 2, other);
        c.due("a tree of either or, " + depth, () -> x.chosenFor(same), depth == 1 ? 0 : -1);
        c.due("the other leaves, " + depth, () -> x.chosenFor(other), depth == 1 ? 0 : -1);
        c.due("the distance, " + depth, () -> x.distance(root, cls), depth == 1 ? 2 : NO_ELEMENT);
    }

    /**
     * The root leads to the class if all leaves do, and each leaf does if the root does, but also if it does not, by a way
     * on which others ask for the root, too.
     */
    private void allTree(int depth) {
        Overloadery x = new Overloadery();
        classes(x, 1);
        int cls = x.classType(0);
        int t0 = x.parameter(0);
        int t1 = x.parameter(1);
        templates(x, 2, 1, 1, 1, 1);
        int root = x.instance(0, Machine.pointers(x, 0, depth), 1);
        x.specialise(0, x.pointerTo(t0), t1);
        x.setBase(0, 0, x.instance(1, x.instance(0, t0, x.pointerTo(t1)), -1));
        x.specialise(0, 0, t1);
        int leaf = x.instance(4, root, -1);
        x.setBase(0, 1, leaf);
        for (int i = 1; i < 3; i++) {
            x.specialise(i, t0, -1);
            x.constrain(i, 0, 0, 'd', 0);
        }
        x.setBase(1, 0, x.instance(2, x.instance(3, t0, -1), -1));
        x.setBase(2, 0, cls);
        x.specialise(3, x.instance(0, t0, x.pointerTo(t1)), -1);
        x.setBase(3, 0, x.instance(0, t0, x.instance(3, t1, -1)));
        x.specialise(4, t0, -1);
        x.constrain(4, 0, 0, 'd', 0);
        x.setBase(4, 0, cls);
        int pointer = x.pointerTo(t0);
        x.specialise(4, pointer, -1);
        x.constrain(4, 1, 0, 'd', 0);
        x.specialise(4, x.pointerTo(pointer), -1);
        x.setBase(4, 2, cls);
        x.setBase(4, -1, x.instance(4, pointer, -1));
        c.due("all leaves of a tree, " + depth, () -> x.chosenFor(x.instance(1, root, -1)), 0);
        c.due("the distance from a leaf, " + depth, () -> x.distance(leaf, cls), 1);
        c.due("a leaf, " + depth, () -> x.chosenFor(leaf), 0);
        int behind = x.instance(4, x.pointerTo(root), -1);
        c.due("what is behind the leaf, " + depth, () -> x.chosenFor(behind), 1);
    }

    /** A machine that counts begins anew at the end; its constraints ask for the next one, but one asks otherwise. */
    private void longRing(int digits) {
        Overloadery x = new Overloadery();
        classes(x, 3);
        x.addBase(2, 0, false);
        x.addBase(2, 1, false);
        int cls = x.classType(0);
        Machine machine = new Machine(x);
        templates(x, 1, 1);
        int start = machine.zeros(digits);
        machine.run(x.instance(4, start, -1), type -> x.instance(3, type, -1));
        int t0 = machine.first;
        x.specialise(3, t0, -1);
        x.constrain(3, 0, 0, 'd', 0);
        x.setBase(3, 0, cls);
        x.specialise(4, t0, -1);
        x.constrain(4, 0, 0, 'd', 0);
        x.specialise(4, t0, -1);
        x.constrain(4, 1, 0, 'd', 0);
        x.constrain(4, 1, 0, 'd', 1);
        x.setBase(4, -1, cls);
        int asked = x.instance(4, start, -1);
        c.due("a ring without a way, " + digits, () -> x.chosenFor(asked), -2);
        x.setBase(4, 0, cls);
        c.due("a ring of which one always leads to the class, " + digits, () -> x.chosenFor(asked), 0);
        c.due("all the others do, " + digits, () -> x.chosenFor(x.instance(3, start, -1)), 0);
        x.setBase(4, 0, -1);
        x.setBase(4, -1, -1);
        c.due("a ring of which none does, " + digits, () -> x.chosenFor(asked), -1);
    }

    /**
     * One machine counts up: with each number it meets an instance of template 0, which leads to classes 0 and 2, or to class
     * 1. Another one counts down, and with each number it meets an instance of template 2, which leaves the second way alone.
     */
    private void oneWayIsLeftLater(int digits) {
        Overloadery x = new Overloadery();
        x.addNamespace(0);
        classes(x, 2);
        x.addClass(1);
        x.addBase(2, 0, false);
        templates(x, 1, 2, 1, 2, 2);
        int t0 = x.parameter(0);
        int t1 = x.parameter(1);
        x.setBase(0, -1, x.instance(3, x.instance(0, t0, -1), 0));
        x.setBase(2, -1, x.instance(3, x.instance(2, t0, -1), x.instance(0, t0, -1)));
        x.specialise(3, t0, t1);
        x.constrain(3, 0, 0, 'd', 0);
        x.constrain(3, 0, 1, 'd', 0);
        x.setBase(3, 0, x.classType(1));
        x.specialise(3, t0, 0);
        x.constrain(3, 1, 0, 'd', 0);
        x.setBase(3, 1, x.classType(2));
        x.specialise(3, t0, 0);
        x.setBase(3, 2, x.classType(1));
        x.setBase(3, -1, x.classType(0));
        count(x, 4, x.instance(2, t1, -1), x.pointerTo(t1), x.instance(0, t1, -1));
        count(x, 1, x.pointerTo(t1), x.instance(2, t1, -1), x.instance(2, t1, -1));
        x.addFunction(1, 0, false);
        int start = x.pointerTo(0);
        for (int end = 0; end < 3; end++) {
            int up = x.instance(4, start, Machine.pointers(x, end, digits));
            int all = end;
            for (int i = 0; i < digits; i++) {
                all = x.instance(2, all, -1);
            }
            int down = x.instance(1, x.instance(2, start, -1), all);
            x.addArgument(x.instance(4, up, down), 'l');
        }
        c.due("one way is left later, " + digits, () -> x.candidates(0, 0), 0);
    }

    /**
     * A machine counts up, and with each number it meets an instance of template 0, which leads to classes 0 and 2, or to class
     * 1. The digits 1 are instances of template 1, which leave the second way alone; no base of these is class 2.
     */
    private void oneWayIsLeftAside(int digits) {
        Overloadery x = new Overloadery();
        x.addNamespace(0);
        classes(x, 2);
        x.addClass(1);
        x.addBase(2, 0, false);
        templates(x, 1, 1, 2, 2, 2);
        int t0 = x.parameter(0);
        int t1 = x.parameter(1);
        x.setBase(0, -1, x.instance(3, x.instance(0, t0, -1), 0));
        x.setBase(1, -1, x.instance(2, x.instance(1, t0, -1), x.instance(0, t0, -1)));
        x.specialise(2, t0, t1);
        x.constrain(2, 0, 0, 'd', 0);
        x.constrain(2, 0, 1, 'd', 0);
        x.setBase(2, 0, x.classType(1));
        x.setBase(2, -1, x.classType(0));
        x.specialise(3, t0, 0);
        x.constrain(3, 0, 0, 'd', 0);
        x.setBase(3, 0, x.classType(2));
        x.specialise(3, t0, 0);
        x.setBase(3, 1, x.classType(1));
        int one = x.instance(1, t1, -1);
        int zero = x.pointerTo(t1);
        int more = x.pointerTo(t0);
        int start = x.pointerTo(0);
        x.specialise(4, t0, one);
        x.constrain(4, 0, 0, 'p', 0);
        x.setBase(4, 0, x.instance(4, x.instance(4, more, t1), x.instance(0, t1, -1)));
        x.specialise(4, t0, zero);
        x.constrain(4, 1, 0, 'p', 0);
        x.setBase(4, 1, x.instance(4, x.instance(1, t0, -1), one));
        x.specialise(4, x.instance(1, x.pointerTo(more), -1), t1);
        x.setBase(4, 2, x.instance(4, x.instance(1, more, -1), zero));
        x.specialise(4, x.instance(1, start, -1), t1);
        x.setBase(4, 3, x.instance(4, start, t1));
        x.addFunction(1, 0, false);
        x.addArgument(x.instance(4, start, Machine.pointers(x, 1, digits)), 'l');
        c.due("one way is left aside, " + digits, () -> x.candidates(0, 0), 0);
    }

    /** A machine in one template: a digit is carried, the other one is not; its numbers stand beside it in its bases. */
    private static void count(Overloadery x, int template, int carried, int other, int number) {
        int t0 = x.parameter(0);
        int t1 = x.parameter(1);
        int more = x.pointerTo(t0);
        int start = x.pointerTo(0);
        x.specialise(template, t0, carried);
        x.constrain(template, 0, 0, 'p', 0);
        x.setBase(template, 0, x.instance(template, more, t1));
        x.specialise(template, t0, other);
        x.constrain(template, 1, 0, 'p', 0);
        x.setBase(template, 1, x.instance(template, x.instance(2, t0, -1), carried));
        x.specialise(template, x.instance(2, x.pointerTo(more), -1), t1);
        x.setBase(template, 2, x.instance(template, x.instance(2, more, -1), other));
        x.specialise(template, x.instance(2, start, -1), t1);
        x.setBase(template, 3, x.instance(template, x.instance(template, start, t1), number));
    }
}
