/** Promises 8, 9, 19, 25 and 26 where very many types come about within a call, far more than have numbers. */
public final class ManyTypesTest {
    private static final Class<?> NO_ELEMENT = java.util.NoSuchElementException.class;

    private final Checks c = new Checks();

    public static void main(String[] args) {
        ManyTypesTest test = new ManyTypesTest();
        test.chainBesideMany(false);
        test.chainBesideMany(true);
        test.manyWithoutClass();
        test.manyThatMightMeetClass();
        test.manyInConstraints();
        test.counter();
        test.c.finish("ManyTypesTest");
    }

    /** Templates 0 to 2, whose instances have more bases, and those in these, than anyone can go through. */
    private static int grow(Overloadery x) {
        int t0 = x.parameter(0);
        for (int i = 0; i < 3; i++) {
            x.addTemplate(1);
        }
        int longer = x.instance(2, x.instance(1, x.instance(1, t0, -1), -1), -1);
        x.setBase(0, -1, longer);
        x.setBase(1, -1, x.instance(0, x.instance(0, t0, -1), -1));
        x.setBase(2, -1, longer);
        return x.instance(2, 1, -1);
    }

    /** The bases of one type in an argument are very many, those of the other one lead to a class by 25 steps. */
    private void chainBesideMany(boolean isChainFirst) {
        Overloadery x = new Overloadery();
        x.addNamespace(0);
        x.addClass(1);
        x.addFunction(1, 0, false);
        int many = grow(x);
        int t0 = x.parameter(0);
        int pair = x.addTemplate(2);
        int chain = x.addTemplate(1);
        x.specialise(chain, x.pointerTo(t0), -1);
        x.setBase(chain, 0, x.instance(chain, t0, -1));
        x.specialise(chain, 0, -1);
        x.setBase(chain, 1, x.classType(0));
        int type = 0;
        for (int i = 0; i < 24; i++) {
            type = x.pointerTo(type);
        }
        int end = x.instance(chain, type, -1);
        int both = isChainFirst ? x.instance(pair, end, many) : x.instance(pair, many, end);
        x.addArgument(both, 'l');
        c.due("found at the end of the chain", () -> x.candidates(0, 0), 1);
        c.due("and called", () -> x.resolve(0, 0), -1);
        x.clearArguments();
        x.addArgument(many, 'l');
        x.addArgument(many, 'l');
        x.addArgument(end, 'l');
        c.due("found for the third argument", () -> x.candidates(0, 0), 1);
    }

    private void manyWithoutClass() {
        Overloadery x = new Overloadery();
        x.addNamespace(0);
        x.addClass(1);
        x.addFunction(1, 0, false);
        int many = grow(x);
        int cls = x.classType(0);
        x.addArgument(many, 'l');
        c.due("there is no class among them", () -> x.candidates(0, 0), 0);
        c.due("nor is it a base", () -> x.distance(many, cls), NO_ELEMENT);
        c.due("the first base", () -> x.kindOf(x.baseOf(many)), 'i');
    }

    /** A class is the base of a specialisation that fits none of them; it takes long to see that, and the call ends. */
    private void manyThatMightMeetClass() {
        Overloadery x = new Overloadery();
        x.addNamespace(0);
        x.addClass(1);
        x.addFunction(1, 0, false);
        int many = grow(x);
        int cls = x.classType(0);
        x.specialise(0, x.pointerTo(x.parameter(0)), -1);
        x.setBase(0, 0, cls);
        x.addArgument(many, 'l');
        c.due("the class is not met", () -> x.candidates(0, 0), 0);
        int other = x.instance(0, x.pointerTo(1), -1);
        c.due("there is room for other calls", () -> x.chosenFor(other), 0);
        x.clearArguments();
        x.addArgument(other, 'l');
        c.due("and other arguments", () -> x.candidates(0, 0), 1);
    }

    /** One specialisation asks for a type by way of very many, and the more special one for another type. */
    private void manyInConstraints() {
        Overloadery x = new Overloadery();
        for (int i = 0; i < 3; i++) {
            x.addClass(0);
        }
        int t0 = x.parameter(0);
        int t1 = x.parameter(1);
        for (int i = 0; i < 4; i++) {
            x.addTemplate(1);
        }
        int longer = x.instance(0, x.instance(2, x.instance(1, t0, -1), -1), -1);
        x.specialise(0, t0, -1);
        x.constrain(0, 0, 0, 'd', 2);
        x.setBase(0, 0, x.classType(2));
        for (int i = 0; i < 3; i++) {
            x.setBase(i, -1, longer);
        }
        x.setBase(3, -1, x.classType(0));
        int pair = x.addTemplate(2);
        int many = x.instance(0, x.instance(1, x.classType(1), -1), -1);
        int one = x.instance(3, 1, -1);
        x.specialise(pair, t0, t1);
        x.constrain(pair, 0, 0, 'd', 2);
        x.specialise(pair, t0, x.instance(3, t1, -1));
        x.constrain(pair, 1, 1, 'b', 0);
        int both = x.instance(pair, many, one);
        c.due("the more special one fits", () -> x.chosenFor(both), 1);
        x.specialise(pair, t0, t1);
        x.constrain(pair, 2, 1, 'd', 0);
        int other = x.instance(pair, many, x.instance(3, x.pointerTo(1), -1));
        c.due("another one fits as well", () -> x.chosenFor(both), 1);
        c.due("it fits alone", () -> x.chosenFor(other), 2);
    }

    /** A counter of nine bits: each number is the base of the one before, by way of some more; the last one has a class. */
    private void counter() {
        Overloadery x = new Overloadery();
        x.addNamespace(0);
        x.addClass(1);
        x.addFunction(1, 0, false);
        int t0 = x.parameter(0);
        int t1 = x.parameter(1);
        int zero = x.addTemplate(1);
        int one = x.addTemplate(1);
        int carry = x.addTemplate(2);
        int back = x.addTemplate(2);
        int carried = x.pointerTo(t0);
        // Ones are turned into zeros and counted, the first zero into a one; then the zeros are put back.
        x.specialise(carry, t0, x.instance(one, t1, -1));
        x.setBase(carry, 0, x.instance(carry, carried, t1));
        x.specialise(carry, t0, x.instance(zero, t1, -1));
        x.setBase(carry, 1, x.instance(back, t0, x.instance(one, t1, -1)));
        x.specialise(carry, t0, 2);
        x.setBase(carry, 2, x.classType(0));
        x.specialise(back, carried, t1);
        x.setBase(back, 0, x.instance(back, t0, x.instance(zero, t1, -1)));
        x.specialise(back, 0, t1);
        x.setBase(back, 1, x.instance(carry, 0, t1));
        int bits = 2;
        for (int i = 0; i < 9; i++) {
            bits = x.instance(zero, bits, -1);
        }
        int type = x.instance(carry, 0, bits);
        x.addArgument(type, 'l');
        c.due("the last number is met", () -> x.candidates(0, 0), 1);
        c.due("not within six steps", () -> x.distance(type, x.classType(0)), NO_ELEMENT);
    }
}
