/** Promises 31 to 46: methods, bodies, blocks, objects that are made and taken down, and the trace. */
public final class ObjectsTest {
    private static final Class<?> INDEX = IndexOutOfBoundsException.class;
    private static final Class<?> ARGUMENT = IllegalArgumentException.class;
    private static final Class<?> STATE = IllegalStateException.class;

    private final Checks c = new Checks();

    public static void main(String[] args) {
        ObjectsTest test = new ObjectsTest();
        test.overriding();
        test.overriders();
        test.bodies();
        test.throwing();
        test.blocks();
        test.makingAmiss();
        test.fortyObjects();
        test.parts();
        test.virtualParts();
        test.membersAndNumbers();
        test.speaking();
        test.delegating();
        test.throwingBodies();
        test.throwingParts();
        test.throwingDelegates();
        test.temporaries();
        test.closing();
        test.unwinding();
        test.arrays();
        test.numbersGoOn();
        test.longTrace();
        test.hugeObjects();
        test.c.finish("ObjectsTest");
    }

    private static Overloadery withClasses(int count) {
        Overloadery x = new Overloadery();
        for (int i = 0; i < count; i++) {
            x.addClass(0);
        }
        return x;
    }

    /** The trace from an index on, as "C0.1" for a 'C' of the class 0 and the object 1. */
    private static String trace(Overloadery x, int from) {
        StringBuilder text = new StringBuilder();
        for (int i = from; i < x.trace(); i++) {
            if (i > from) text.append(' ');
            text.append(x.traceKind(i)).append(x.traceClass(i)).append('.').append(x.traceObject(i));
        }
        return text.toString();
    }

    private void traced(String name, Overloadery x, int from, String want) {
        c.due(name, () -> trace(x, from), want);
    }

    private void totals(String name, Overloadery x, int living, int made, int takenDown) {
        c.due(name + ", living", x::living, living);
        c.due(name + ", made", x::made, made);
        c.due(name + ", taken down", x::takenDown, takenDown);
    }

    private void overriding() {
        Overloadery x = withClasses(1);
        c.due("no class", () -> x.override(1, 0, true), INDEX);
        c.due("class -1", () -> x.override(-1, 0, true), INDEX);
        c.due("no class ahead of no method", () -> x.override(1, 4, true), INDEX);
        c.due("no method", () -> x.override(0, 4, true), ARGUMENT);
        c.due("method -1", () -> x.override(0, -1, true), ARGUMENT);
        c.due("not before", () -> x.override(0, 3, true), false);
        c.due("before", () -> x.override(0, 3, false), true);
        c.due("not any more", () -> x.override(0, 3, false), false);
        c.due("another method", () -> x.override(0, 2, true), false);
    }

    private void overriders() {
        Overloadery x = withClasses(6);
        x.addBase(1, 0, true);
        x.addBase(2, 0, true);
        x.addBase(3, 1, false);
        x.addBase(3, 2, false);
        x.addBase(4, 3, false);
        c.due("no class", () -> x.overrider(6, 0), INDEX);
        c.due("class -1", () -> x.overrider(-1, 9), INDEX);
        c.due("no method", () -> x.overrider(0, 4), ARGUMENT);
        c.due("method -1", () -> x.overrider(0, -1), ARGUMENT);
        c.due("none", () -> x.overrider(4, 0), -1);
        x.override(0, 0, true);
        c.due("its own", () -> x.overrider(0, 0), 0);
        c.due("that of a base", () -> x.overrider(4, 0), 0);
        c.due("another method", () -> x.overrider(4, 1), -1);
        x.override(1, 0, true);
        c.due("one is a base of the other", () -> x.overrider(4, 0), 1);
        c.due("the other branch", () -> x.overrider(2, 0), 0);
        x.override(2, 0, true);
        c.due("several", () -> x.overrider(4, 0), -2);
        x.override(3, 0, true);
        c.due("one behind all", () -> x.overrider(4, 0), 3);
        x.override(5, 0, true);
        c.due("one that is no base", () -> x.overrider(4, 0), 3);
        x.addBase(5, 4, false);
        x.override(5, 0, false);
        c.due("through a base that was added", () -> x.overrider(5, 0), 3);
    }

    private void bodies() {
        Overloadery x = withClasses(1);
        c.due("no class", () -> x.setBody(1, 0, false), INDEX);
        c.due("class -1", () -> x.setBody(-1, 4, false), INDEX);
        c.due("no method", () -> x.setBody(0, 4, false), ARGUMENT);
        c.due("method -2", () -> x.setBody(0, -2, false), ARGUMENT);
        c.due("none before", () -> x.setBody(0, 3, true), -1);
        c.due("3 before", () -> x.setBody(0, -1, false), 3);
        c.due("none before, again", () -> x.setBody(0, 0, false), -1);
    }

    private void throwing() {
        Overloadery x = withClasses(2);
        c.due("no class", () -> x.setThrow(2, 1), INDEX);
        c.due("class -1", () -> x.setThrow(-1, 100), INDEX);
        c.due("100 times", () -> x.setThrow(0, 100), ARGUMENT);
        c.due("-1 times", () -> x.setThrow(0, -1), ARGUMENT);
        c.due("not told", () -> x.setThrow(0, 99), 0);
        c.due("told", () -> x.setThrow(0, 3), 99);
        x.make(0, 'a', 2);
        c.due("two times less", () -> x.setThrow(0, 2), 1);
        c.due("the first", () -> x.make(0, 'o', 0), 'm');
        c.due("another class does not count", () -> x.make(1, 'o', 0), 'm');
        c.due("the second", () -> x.make(0, 'o', 0), 'u');
        c.due("once only", () -> x.make(0, 'o', 0), 'm');
        c.due("nothing left", () -> x.setThrow(0, 1), 0);
        c.due("not any more", () -> x.setThrow(0, 0), 1);
        c.due("so it does not", () -> x.make(0, 'o', 0), 'm');
    }

    private void blocks() {
        Overloadery x = new Overloadery();
        c.due("the first one", x::close, STATE);
        for (int i = 2; i <= 10; i++) {
            boolean isTry = i % 2 == 0;
            c.due("block " + i, () -> x.open(isTry), i);
        }
        c.due("an eleventh", () -> x.open(true), STATE);
        for (int i = 9; i >= 1; i--) {
            c.due("block " + i + " is left", x::close, i);
        }
        c.due("the first one again", x::close, STATE);
        x.open(false);
        c.due("nothing caught", x::raise, 'u');
        c.due("one block is left", x::close, STATE);
        x.open(true);
        x.open(false);
        c.due("caught", x::raise, 'c');
        c.due("the try is closed, too", x::close, STATE);
        x.open(false);
        x.open(true);
        x.open(true);
        c.due("caught by the innermost try", x::raise, 'c');
        c.due("the fourth block", () -> x.open(false), 4);
    }

    private void makingAmiss() {
        Overloadery x = withClasses(1);
        c.due("no class", () -> x.make(1, 'o', 0), INDEX);
        c.due("class -1", () -> x.make(-1, 'x', 0), INDEX);
        c.due("no way", () -> x.make(0, 'x', 1), ARGUMENT);
        c.due("an array of none", () -> x.make(0, 'a', 0), ARGUMENT);
        c.due("an array of six", () -> x.make(0, 'a', 6), ARGUMENT);
        totals("nothing", x, 0, 0, 0);
        c.due("an array of five", () -> x.make(0, 'a', 5), 'm');
        c.due("an object", () -> x.make(0, 'o', -9), 'm');
        c.due("a temporary", () -> x.make(0, 't', 99), 'm');
        c.due("a lengthened one", () -> x.make(0, 'l', 0), 'm');
        totals("all", x, 8, 8, 0);
        c.due("trace of none", () -> x.traceKind(8), INDEX);
        c.due("trace class of none", () -> x.traceClass(8), INDEX);
        c.due("trace object of none", () -> x.traceObject(8), INDEX);
        c.due("trace of -1", () -> x.traceKind(-1), INDEX);
        c.due("trace class of -1", () -> x.traceClass(-1), INDEX);
        c.due("trace object of -1", () -> x.traceObject(-1), INDEX);
        c.due("trace of the last", () -> x.traceKind(7), 'C');
    }

    private void fortyObjects() {
        Overloadery x = withClasses(2);
        x.addMember(1, 0);
        for (int i = 0; i < 7; i++) {
            x.make(1, 'a', 5);
        }
        x.make(1, 't', 0);
        c.due("36", x::living, 36);
        c.due("five more", () -> x.make(0, 'a', 5), STATE);
        c.due("no way ahead of that", () -> x.make(0, 'a', 6), ARGUMENT);
        c.due("four more", () -> x.make(0, 'a', 4), 'm');
        c.due("40, members not", x::living, 40);
        c.due("one more", () -> x.make(0, 'o', 0), STATE);
        c.due("a temporary more", () -> x.make(0, 't', 0), STATE);
        c.due("a temporary less", x::endExpression, 1);
        c.due("one instead", () -> x.make(0, 'l', 0), 'm');
    }

    private void parts() {
        Overloadery x = withClasses(4);
        x.addBase(2, 1, false);
        x.addBase(2, 0, false);
        x.addBase(3, 0, false);
        x.addBase(3, 2, false);
        c.due("made", () -> x.make(3, 'o', 0), 'm');
        traced("bases in their order, each way a part", x, 0, "C0.0 C1.0 C0.0 C2.0 C3.0");
        x.raise();
        traced("the other way round", x, 5, "D3.0 D2.0 D0.0 D1.0 D0.0");
        totals("all", x, 0, 5, 5);
    }

    private void virtualParts() {
        Overloadery x = withClasses(7);
        x.addBase(2, 1, true);
        x.addBase(2, 0, false);
        x.addBase(3, 2, true);
        x.addBase(4, 1, true);
        x.addBase(4, 0, true);
        x.addBase(5, 3, false);
        x.addBase(5, 4, false);
        x.addBase(6, 5, true);
        x.addBase(6, 1, false);
        x.make(5, 'o', 0);
        // 3 leads to 2, which has the virtual 1 itself; then 4 has the virtual 0; each once
        traced("virtual ones first", x, 0, "C1.0 C0.0 C2.0 C0.0 C3.0 C4.0 C5.0");
        x.raise();
        traced("virtual ones last", x, 7, "D5.0 D4.0 D3.0 D0.0 D2.0 D0.0 D1.0");
        int from = x.trace();
        x.make(6, 'o', 0);
        traced("a virtual base with others", x, from, "C1.1 C0.1 C2.1 C0.1 C3.1 C4.1 C5.1 C1.1 C6.1");
    }

    private void membersAndNumbers() {
        Overloadery x = withClasses(5);
        x.addMember(1, 0);
        x.addBase(2, 1, false);
        x.addMember(2, 0);
        x.addMember(2, 1);
        x.addBase(3, 1, true);
        x.addMember(3, 2);
        x.addBase(4, 3, false);
        x.addBase(4, 2, false);
        x.make(2, 'o', 0);
        traced("members behind bases", x, 0, "C0.1 C1.0 C0.2 C0.4 C1.3 C2.0");
        x.make(4, 'o', 0);
        String whole = "C0.6 C1.5 C0.8 C1.7 C0.9 C0.11 C1.10 C2.7 C3.5 C0.12 C1.5 C0.13 C0.15 C1.14 C2.5 C4.5";
        traced("a whole member in each part", x, 6, whole);
        totals("both", x, 2, 22, 0);
        int from = x.trace();
        x.raise();
        String back = "D4.5 D2.5 D1.14 D0.15 D0.13 D1.5 D0.12 D3.5 D2.7 D1.10 D0.11 D0.9 D1.7 D0.8 D1.5 D0.6 ";
        traced("with the same numbers", x, from, back + "D2.0 D1.3 D0.4 D0.2 D1.0 D0.1");
        totals("gone", x, 0, 22, 22);
    }

    private void speaking() {
        Overloadery x = withClasses(5);
        x.addBase(1, 0, false);
        x.addBase(3, 1, false);
        x.addBase(3, 2, false);
        for (int i = 0; i < 4; i++) {
            x.setBody(i, 2, false);
        }
        x.override(0, 2, true);
        x.make(3, 'o', 0);
        traced("as each class stands", x, 0, "C0.0 V0.0 C1.0 V0.0 C2.0 V-1.0 C3.0 V0.0");
        x.override(2, 2, true);
        x.override(1, 2, true);
        x.setBody(0, -1, false);
        int from = x.trace();
        x.raise();
        traced("as it stands when it is taken down", x, from, "V-2.0 D3.0 V2.0 D2.0 V1.0 D1.0 D0.0");
        c.due("class of a 'V' with several", () -> x.traceClass(from), -2);
        c.due("class of a 'V' with none", () -> x.traceClass(5), -1);
    }

    private void delegating() {
        Overloadery x = withClasses(2);
        x.addBase(1, 0, false);
        x.override(0, 1, true);
        x.setBody(0, 1, true);
        x.setBody(1, -1, true);
        x.make(1, 'o', 0);
        traced("second bodies", x, 0, "C0.0 V0.0 G0.0 C1.0 G1.0");
        totals("each part once", x, 1, 2, 0);
        x.raise();
        traced("no second bodies", x, 5, "D1.0 V0.0 D0.0");
        totals("gone", x, 0, 2, 2);
    }

    private void throwingBodies() {
        Overloadery x = withClasses(1);
        x.setBody(0, 0, false);
        x.setThrow(0, 1);
        c.due("thrown", () -> x.make(0, 'o', 0), 'u');
        traced("an 'X' and nothing else", x, 0, "X0.0");
        totals("nothing was made", x, 0, 0, 0);
        x.open(true);
        x.setThrow(0, 1);
        c.due("caught", () -> x.make(0, 't', 0), 'c');
        traced("the same", x, 1, "X0.1");
        c.due("the try is closed", x::close, STATE);
    }

    private void throwingParts() {
        Overloadery x = withClasses(5);
        x.addMember(1, 0);
        x.addMember(1, 0);
        x.addBase(2, 0, false);
        x.addBase(3, 2, true);
        x.addBase(3, 1, false);
        x.addMember(3, 1);
        x.addBase(4, 3, false);
        x.setThrow(4, 1);
        x.make(4, 'o', 0);
        String made = "C0.0 C2.0 C0.1 C0.2 C1.0 C0.4 C0.5 C1.3 C3.0 ";
        traced("its own body", x, 0, made + "X4.0 D3.0 D1.3 D0.5 D0.4 D1.0 D0.2 D0.1 D2.0 D0.0");
        x.setThrow(1, 2);
        int second = x.trace();
        x.make(4, 'o', 0);
        traced("the body of a member", x, second,
                "C0.6 C2.6 C0.7 C0.8 C1.6 C0.10 C0.11 X1.9 D0.11 D0.10 D1.6 D0.8 D0.7 D2.6 D0.6");
        x.setThrow(0, 3);
        int third = x.trace();
        x.make(4, 'o', 0);
        traced("a member of a base", x, third, "C0.12 C2.12 C0.13 X0.14 D0.13 D2.12 D0.12");
        x.setThrow(2, 1);
        int fourth = x.trace();
        x.make(4, 'o', 0);
        traced("a virtual base", x, fourth, "C0.15 X2.15 D0.15");
        c.due("each that was made is taken down", () -> x.made() == x.takenDown(), true);
    }

    private void throwingDelegates() {
        Overloadery x = withClasses(2);
        x.addBase(1, 0, false);
        x.addMember(1, 0);
        x.override(1, 3, true);
        x.setBody(1, 3, true);
        x.setThrow(1, 1);
        x.make(1, 'o', 0);
        traced("in the second body", x, 0, "C0.0 C0.1 C1.0 V1.0 X1.0 V1.0 D1.0 D0.1 D0.0");
        totals("the first body was made", x, 0, 3, 3);
        c.due("nothing left", () -> x.setThrow(1, 0), 0);
    }

    private void temporaries() {
        Overloadery x = withClasses(3);
        c.due("none", x::endExpression, 0);
        x.make(0, 't', 0);
        x.make(1, 'o', 0);
        x.open(false);
        x.make(2, 't', 0);
        x.make(0, 'l', 0);
        int from = x.trace();
        c.due("two, of whatever block", x::endExpression, 2);
        traced("those made later first", x, from, "D2.2 D0.0");
        c.due("the others stay", x::living, 2);
        c.due("none again", x::endExpression, 0);
        x.close();
        traced("a lengthened one is of its block", x, from + 2, "D0.3");
        c.due("one is left", x::living, 1);
    }

    private void closing() {
        Overloadery x = withClasses(3);
        x.make(0, 'o', 0);
        x.make(0, 't', 0);
        x.open(true);
        x.make(1, 'a', 2);
        x.make(2, 't', 0);
        x.make(2, 'o', 0);
        int from = x.trace();
        c.due("one block is left", x::close, 1);
        traced("all temporaries first, then its objects", x, from, "D2.4 D0.1 D2.5 D1.3 D1.2");
        totals("the first object is left", x, 1, 6, 5);
    }

    private void unwinding() {
        Overloadery x = withClasses(1);
        x.make(0, 'o', 0);
        x.open(true);
        x.make(0, 'o', 0);
        x.make(0, 't', 0);
        x.open(false);
        x.make(0, 'o', 0);
        x.make(0, 'o', 0);
        x.make(0, 't', 0);
        int from = x.trace();
        c.due("caught", x::raise, 'c');
        traced("up to the try", x, from, "D0.5 D0.2 D0.4 D0.3 D0.1");
        totals("the first object is left", x, 1, 6, 5);
        c.due("one block is left", () -> x.open(false), 2);
        x.make(0, 't', 0);
        c.due("not caught", x::raise, 'u');
        traced("all", x, from + 6, "D0.6 D0.0");
        c.due("one block is there", x::close, STATE);
        totals("none is left", x, 0, 7, 7);
        c.due("not caught, nothing there", x::raise, 'u');
    }

    private void arrays() {
        Overloadery x = withClasses(2);
        x.addMember(1, 0);
        x.make(0, 'o', 0);
        x.open(true);
        x.make(0, 't', 0);
        x.make(0, 'o', 0);
        x.setThrow(1, 3);
        int from = x.trace();
        c.due("caught", () -> x.make(1, 'a', 5), 'c');
        traced("the array's objects, then the temporary, then the block's", x, from,
                "C0.4 C1.3 C0.6 C1.5 C0.8 X1.7 D0.8 D1.5 D0.6 D1.3 D0.4 D0.1 D0.2");
        totals("the first object is left", x, 1, 8, 7);
    }

    private void numbersGoOn() {
        Overloadery x = withClasses(1);
        x.setThrow(0, 2);
        x.make(0, 'a', 2);
        x.make(0, 'o', 0);
        traced("a number for one that threw", x, 0, "C0.0 X0.1 D0.0 C0.2");
    }

    private void longTrace() {
        Overloadery x = withClasses(1);
        x.setBody(0, 0, true);
        for (int i = 0; i < 39; i++) {
            x.make(0, 'a', 5);
            x.raise();
        }
        // each object has 3 entries when it is made, 2 when it is taken down: 39 times 25 are beyond 600
        c.due("at most 600", x::trace, 600);
        c.due("no entry behind", () -> x.traceKind(600), INDEX);
        c.due("the last one", () -> x.traceKind(599), 'D');
        c.due("the last one's object", () -> x.traceObject(599), 115);
        totals("counted beyond the trace", x, 0, 195, 195);
        x.setThrow(0, 3);
        c.due("thrown beyond the trace", () -> x.make(0, 'a', 5), 'u');
        totals("counted with a throw in the second body", x, 0, 198, 198);
        c.due("nothing left", () -> x.setThrow(0, 0), 0);
        x.make(0, 'a', 4);
        x.setThrow(0, 9);
        x.make(0, 'o', 0);
        c.due("one less", () -> x.setThrow(0, 0), 8);
    }

    /** A whole object with millions of parts: what is not traced is counted all the same. */
    private void hugeObjects() {
        Overloadery x = withClasses(12);
        long[] parts = new long[12];
        for (int i = 0; i < 12; i++) {
            parts[i] = 1;
            for (int j = Math.max(0, i - 3); j < i; j++) {
                x.addBase(i, j, false);
                parts[i] += parts[j];
            }
            for (int j = 0; j < 3 && i > 0; j++) {
                x.addMember(i, i - 1);
                parts[i] += parts[i - 1];
            }
        }
        long all = parts[11];
        c.due("made", () -> x.make(11, 'a', 5), 'm');
        c.due("all parts", x::made, 5 * all);
        c.due("trace", x::trace, 600);
        x.setThrow(11, 2);
        c.due("the second throws", () -> x.make(11, 'a', 2), 'u');
        c.due("all parts but one", x::made, 7 * all - 1);
        c.due("all are taken down", x::takenDown, 7 * all - 1);
        x.setThrow(0, 99);
        c.due("deep in it", () -> x.make(11, 't', 0), 'u');
        c.due("each that was made", () -> x.made() == x.takenDown(), true);
        c.due("nothing left", () -> x.setThrow(0, 0), 0);
    }
}
