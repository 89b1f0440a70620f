/**
 * Promises 8, 9, 19, 25 to 30 and 47 where it is far to what decides on a body: what is there behind many steps is found,
 * and what does not matter is not waited for. With 22 digits there are more than 16 million steps.
 */
public final class FarTest {
    private static final int FAR = 22;

    private final Checks c = new Checks();
    private Overloadery x;
    private Machine machine;
    private int[] cls;

    public static void main(String[] args) {
        FarTest test = new FarTest();
        for (int digits : new int[] {1, 5, 10, 15, 18}) {
            test.constraintsFarBehind(digits, Math.min(26 - digits, 12));
            test.basesFarBehind(digits, Math.min(26 - digits, 12));
        }
        test.lastOfManyLeaves();
        test.allOfManyLeaves();
        test.sameBaseOfEitherBody();
        test.sameStepsOfEitherBody();
        test.functionsOfEitherBody();
        test.otherConstraintFails();
        test.otherBodyInCircle();
        test.classOfEitherBody();
        test.oneOfTwo();
        test.c.finish("FarTest");
    }

    /** Templates 0 to 2 are those of the machine, 3 has some parameters, 4 has one; each class has a namespace. */
    private void begin(int parameters) {
        x = new Overloadery();
        cls = new int[6];
        for (int i = 0; i < 5; i++) {
            x.addNamespace(0);
        }
        for (int i = 0; i < 6; i++) {
            x.addClass(i);
            cls[i] = x.classType(i);
        }
        machine = new Machine(x);
        x.addTemplate(parameters);
        x.addTemplate(1);
    }

    /** Each constraint asks for the next one, which stands behind some pointers in the base; the last one holds. */
    private void constraintsFarBehind(int digits, int pointers) {
        begin(1);
        x.specialise(4, Machine.pointers(x, machine.first, pointers), -1);
        x.constrain(4, 0, 0, 'd', 0);
        x.setBase(4, 0, cls[0]);
        machine.run(cls[0], type -> x.instance(4, Machine.pointers(x, type, pointers), -1));
        int asked = x.instance(4, Machine.pointers(x, machine.zeros(digits), pointers), -1);
        c.due(digits + " digits, constraints", () -> x.chosenFor(asked), 0);
        x.setBase(0, 2, -1);
        c.due(digits + " digits, the last one does not hold", () -> x.chosenFor(asked), -1);
        x.setBase(0, 2, cls[0]);
        x.setBase(4, 0, -1);
        x.setBase(4, -1, cls[0]);
        int due = stepsFrom(digits) % 2 == 0 ? 0 : -1;
        c.due(digits + " digits, each one holds if the next one does not", () -> x.chosenFor(asked), due);
    }

    /** How many numbers and places the machine goes through ahead of the last one. */
    private static int stepsFrom(int digits) {
        int steps = 0;
        for (int i = 0; i < 1 << digits; i++) {
            int carried = Integer.numberOfTrailingZeros(~i);
            steps += carried < digits ? 2 * carried + 2 : carried;
        }
        return steps;
    }

    private void basesFarBehind(int digits, int pointers) {
        begin(1);
        machine.run(cls[1], type -> x.instance(4, Machine.pointers(x, type, pointers), -1));
        x.addFunction(1, 0, false);
        x.addArgument(machine.zeros(digits), 'l');
        c.due(digits + " digits, bases", () -> x.candidates(0, 0), 1);
        x.setBase(0, 2, cls[2]);
        c.due(digits + " digits, another class", () -> x.candidates(0, 0), 0);
    }

    /** Words of 16 bits, each with two longer ones as its bases' types; behind the last word of all is the class. */
    private void lastOfManyLeaves() {
        for (int path : new int[] {0, 0xffff, 0x5a5a}) {
            int depth = 16;
            Overloadery y = new Overloadery();
            y.addNamespace(0);
            y.addClass(1);
            int root = words(y, depth);
            int leaf = 1;
            for (int i = 0; i < depth; i++) {
                leaf = (path >> i & 1) == 0 ? y.pointerTo(leaf) : y.instance(4, leaf, -1);
            }
            y.specialise(0, 0, leaf);
            y.setBase(0, 1, y.classType(0));
            y.setBase(1, -1, y.instance(3, y.parameter(0), -1));
            y.addFunction(1, 0, false);
            y.addArgument(root, 'l');
            c.due("behind the word " + path, () -> y.candidates(0, 0), 1);
            y.setBase(0, 1, -1);
            c.due("behind no word", () -> y.candidates(0, 0), 0);
        }
    }

    /** The words of so many bits: each one leads to a class if both longer ones do. */
    private void allOfManyLeaves() {
        Overloadery y = new Overloadery();
        y.addClass(0);
        int root = words(y, 14);
        int t0 = y.parameter(0);
        y.specialise(0, 0, y.parameter(1));
        y.setBase(0, 1, y.classType(0));
        y.specialise(1, t0, -1);
        y.constrain(1, 0, 0, 'd', 0);
        y.setBase(1, 0, y.instance(2, y.instance(3, t0, -1), -1));
        y.specialise(2, t0, -1);
        y.constrain(2, 0, 0, 'd', 0);
        y.setBase(2, 0, y.classType(0));
        int asked = y.instance(1, root, -1);
        c.due("all words lead to the class", () -> y.chosenFor(asked), 0);
        int last = 1;
        for (int i = 0; i < 14; i++) {
            last = y.instance(4, last, -1);
        }
        y.specialise(0, 0, last);
        c.due("all but one", () -> y.chosenFor(asked), -1);
    }

    /** The first specialisation of template 0 makes an instance of template 1 with a longer word, that of 3 the other one. */
    private static int words(Overloadery y, int depth) {
        int t0 = y.parameter(0);
        int t1 = y.parameter(1);
        y.addTemplate(2);
        for (int i = 0; i < 4; i++) {
            y.addTemplate(1);
        }
        y.specialise(0, y.pointerTo(t0), t1);
        y.setBase(0, 0, y.instance(1, y.instance(0, t0, y.pointerTo(t1)), -1));
        y.specialise(3, y.instance(0, t0, y.pointerTo(t1)), -1);
        y.setBase(3, 0, y.instance(0, t0, y.instance(4, t1, -1)));
        return y.instance(0, Machine.pointers(y, 0, depth), 1);
    }

    /** An instance of template 4 of which it is far to find which of both bases it has. */
    private int farInstance(int base, int other) {
        x.specialise(4, machine.first, -1);
        x.constrain(4, 0, 0, 'd', 1);
        x.setBase(4, 0, base);
        x.setBase(4, -1, other);
        machine.run(cls[0], type -> x.instance(4, type, -1));
        return x.instance(4, machine.zeros(FAR), -1);
    }

    private void sameBaseOfEitherBody() {
        begin(1);
        int far = farInstance(cls[2], cls[2]);
        c.due("the base of either body", () -> x.baseOf(far), cls[2]);
        c.due("the distance by either body", () -> x.distance(far, cls[2]), 1);
        x.addArgument(far, 'l');
        x.addFunction(2, 0, false);
        c.due("the candidates by either body", () -> x.candidates(0, 0), 1);
    }

    private void sameStepsOfEitherBody() {
        begin(1);
        x.addBase(1, 0, false);
        x.addBase(3, 0, false);
        int far = farInstance(cls[1], cls[3]);
        c.due("as many steps by either base", () -> x.distance(far, cls[0]), 2);
        x.specialise(3, machine.first, -1);
        x.constrain(3, 0, 0, 'd', 0);
        x.constrain(3, 0, 0, 'd', 2);
        c.due("leads to the first class, but not to the second one", () -> x.chosenFor(x.instance(3, far, -1)), -1);
        x.constrain(3, 0, 0, 'c', 0);
        x.specialise(3, machine.first, -1);
        x.constrain(3, 1, 0, 'd', 0);
        c.due("leads to the first class", () -> x.chosenFor(x.instance(3, far, -1)), 1);
    }

    private void functionsOfEitherBody() {
        begin(1);
        x.addBase(1, 0, false);
        x.addBase(3, 0, false);
        int far = farInstance(cls[1], cls[3]);
        int t0 = machine.first;
        x.addArgument(far, 'l');
        x.addFunction(0, 1, false);
        x.addParameter(0, 'c', cls[0]);
        c.due("comes by either base", () -> x.coming(0, 0), 2005);
        x.addFunction(0, 1, false);
        x.addParameter(1, 'v', t0);
        x.require(1, 0, 'd', 0);
        c.due("viable by either base", () -> x.isViable(1), true);
        c.due("deduced all the same", () -> x.deduced(1, 0), far);
        x.addFunction(0, 1, false);
        x.addParameter(2, 'v', t0);
        x.require(2, 0, 'd', 1);
        x.addFunction(0, 1, false);
        x.addParameter(3, 'v', far);
        c.due("better than one of which it is far to see whether it is viable", () -> x.resolve(0, 1), 3);
        c.due("the same anew", () -> x.resolveAnew(0, 1), 3);
        x.addFunction(0, 2, true);
        x.addParameter(4, 'r', x.pointerTo(far));
        c.due("none is viable", () -> x.resolve(0, 2), -1);
    }

    /** It is far to one constraint, while another one fails near by. */
    private void otherConstraintFails() {
        begin(2);
        int far = farInstance(cls[1], cls[2]);
        x.specialise(3, machine.first, machine.second);
        x.constrain(3, 0, 0, 'd', 1);
        x.constrain(3, 0, 1, 'd', 3);
        int inner = x.instance(2, 3, -1);
        x.setBase(2, -1, cls[2]);
        int asked = x.instance(3, far, inner);
        c.due("the second constraint fails", () -> x.chosenFor(asked), -1);
        x.setBase(3, 0, cls[4]);
        x.setBase(3, -1, cls[4]);
        x.setBase(2, -1, cls[3]);
        c.due("the base of either body", () -> x.baseOf(asked), cls[4]);
    }

    /** In a circle one body does not go, another one is far, but does not go either, and the last one does. */
    private void otherBodyInCircle() {
        begin(1);
        x.addBase(5, 3, false);
        x.addBase(5, 4, false);
        int far = farInstance(cls[1], cls[2]);
        int inner = x.instance(2, 0, -1);
        int asked = x.instance(3, inner, -1);
        x.setBase(2, -1, asked);
        x.specialise(3, machine.first, -1);
        x.constrain(3, 0, 0, 'd', 3);
        x.setBase(3, 0, far);
        x.specialise(3, machine.first, -1);
        x.constrain(3, 1, 0, 'd', 3);
        x.constrain(3, 1, 0, 'd', 4);
        x.setBase(3, 1, cls[5]);
        x.setBase(3, -1, cls[3]);
        c.due("the only body that goes", () -> x.chosenFor(asked), 1);
        c.due("the distance by it", () -> x.distance(inner, cls[4]), 3);
    }

    /** Whatever body one has, and another one behind it, a class is met. */
    private void classOfEitherBody() {
        begin(2);
        int far = farInstance(cls[1], cls[2]);
        int t0 = machine.first;
        x.specialise(3, t0, 0);
        x.constrain(3, 0, 0, 'd', 1);
        x.setBase(3, 0, x.instance(3, t0, 1));
        x.setBase(3, -1, x.instance(3, t0, x.pointerTo(1)));
        x.specialise(3, t0, 1);
        x.constrain(3, 1, 0, 'd', 1);
        x.setBase(3, 1, cls[4]);
        x.specialise(3, t0, x.pointerTo(1));
        x.setBase(3, 2, cls[4]);
        x.addFunction(4, 0, false);
        x.addArgument(x.instance(3, far, 0), 'l');
        c.due("met by whatever body", () -> x.candidates(0, 0), 1);
        c.due("called", () -> x.resolve(0, 0), -1);
    }

    /** Of two instances just one leads to a class, but it is far to see which one. */
    private void oneOfTwo() {
        begin(2);
        int far = farInstance(cls[1], cls[2]);
        int t0 = machine.first;
        x.specialise(3, t0, 0);
        x.constrain(3, 0, 0, 'd', 1);
        x.setBase(3, 0, cls[4]);
        x.specialise(3, t0, 1);
        x.constrain(3, 1, 0, 'd', 1);
        x.specialise(3, t0, 1);
        x.setBase(3, 2, cls[4]);
        x.addArgument(x.instance(3, far, 0), 'l');
        x.addArgument(x.instance(3, far, 1), 'l');
        x.addFunction(4, 0, false);
        c.due("met by one of both", () -> x.candidates(0, 0), 1);
        for (int i = 1; i < 4; i++) {
            x.addFunction(0, i, false);
            x.addParameter(i, 'v', t0);
            x.addParameter(i, 'v', machine.second);
        }
        x.require(1, 0, 'd', 4);
        x.require(1, 1, 'd', 4);
        c.due("never both", () -> x.isViable(1), false);
        x.require(2, 0, 'd', 4);
        x.require(3, 1, 'd', 4);
        c.due("one of both functions is viable", () -> x.viableShare(), 1f / 4f);
    }
}
