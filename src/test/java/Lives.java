/** How objects come to the states in which the tests ask them; each with far fewer than 512 calls. */
final class Lives {
    private Lives() {
    }

    static Overloadery withClasses(int count) {
        Overloadery x = new Overloadery();
        addClasses(x, count);
        return x;
    }

    static void addClasses(Overloadery x, int count) {
        for (int i = 0; i < count; i++) {
            x.addClass(0);
        }
    }

    /** A pointer of a size to a type of the size 1. */
    static int tower(Overloadery x, int type, int size) {
        int at = type;
        for (int i = 1; i < size; i++) {
            at = x.pointerTo(at);
        }
        return at;
    }

    /** Asks for pointers until there are so many types; from a new object on, these are 150 at most. */
    static void fillTypes(Overloadery x, int count) {
        int known = x.types();
        for (int basic = 0; basic < 5; basic++) {
            int type = basic;
            for (int size = 2; size <= 30 && known < count; size++) {
                type = x.pointerTo(type);
                known = Math.max(known, type + 1);
            }
        }
    }

    /** A function with one parameter. */
    static int function(Overloadery x, int namespace, int name, char mode, int type) {
        int function = x.addFunction(namespace, name, false);
        x.addParameter(function, mode, type);
        return function;
    }

    /** Lets a type be the only argument. */
    static void argument(Overloadery x, int type, char category) {
        x.clearArguments();
        x.addArgument(type, category);
    }

    /** Class 7 has several bases, virtual ones and others, with members, which have virtual bases. */
    static Overloadery withAllSorts() {
        Overloadery x = withClasses(9);
        x.addMember(1, 0);
        x.addBase(2, 1, true);
        x.addMember(2, 0);
        x.addMember(2, 1);
        x.addBase(3, 2, true);
        x.addBase(3, 0, false);
        x.addMember(3, 1);
        x.addBase(4, 0, true);
        x.addMember(4, 2);
        x.addBase(5, 3, false);
        x.addBase(5, 4, true);
        x.addMember(5, 4);
        x.addBase(6, 5, false);
        x.addBase(6, 1, true);
        x.addMember(6, 3);
        x.addBase(7, 3, false);
        x.addBase(7, 6, false);
        x.addBase(7, 4, false);
        x.addMember(7, 4);
        return x;
    }

    /** Some of everything, nothing full, and no object: class 4 has two parts of 0, type 5 is its type. */
    static Overloadery some() {
        Overloadery x = new Overloadery();
        x.addNamespace(0);
        x.addNamespace(1);
        for (int i = 0; i < 5; i++) {
            x.addClass(i % 3);
        }
        x.addBase(2, 1, true);
        x.addBase(3, 0, false);
        x.addBase(4, 3, false);
        x.addBase(4, 0, false);
        x.addMember(3, 1);
        x.classType(4);
        x.classType(0);
        int t0 = x.parameter(0);
        int pointer = x.pointerTo(t0);
        x.pointerTo(2);
        x.addConversion(4, 2, true);
        x.addConversion(4, 3, false);
        x.addTemplate(1);
        x.addTemplate(2);
        x.specialise(0, pointer, -1);
        x.specialise(1, t0, t0);
        x.constrain(1, 0, 0, 'b', 0);
        x.setBase(0, -1, x.instance(1, t0, 2));
        x.setBase(1, -1, 5);
        x.instance(0, 2, -1);
        x.instance(0, 9, -1);
        someFunctions(x, t0);
        x.override(0, 1, true);
        x.setBody(4, 1, true);
        x.setThrow(2, 7);
        return x;
    }

    private static void someFunctions(Overloadery x, int t0) {
        function(x, 0, 0, 'v', 2);
        function(x, 0, 0, 'c', t0);
        function(x, 1, 0, 'm', 4);
        function(x, 2, 3, 'r', x.pointerTo(5));
        x.require(1, 0, 'b', 0);
        x.addFunction(0, 1, true);
        x.addArgument(2, 'l');
    }

    /** The same with objects, temporaries and blocks. */
    static Overloadery made() {
        Overloadery x = some();
        x.make(4, 'o', 0);
        x.make(0, 't', 0);
        x.open(true);
        x.make(3, 'a', 2);
        x.open(false);
        x.make(1, 't', 0);
        x.make(2, 'l', 0);
        return x;
    }

    /** All that has a bound has come to it, but for the types and the trace: template 0, class 11, function 0 are full. */
    static Overloadery full() {
        Overloadery x = new Overloadery();
        for (int i = 0; i < 5; i++) {
            x.addNamespace(i);
        }
        addClasses(x, 12);
        for (int i = 0; i < 3; i++) {
            x.addBase(11, i, i == 1);
            x.addMember(11, i);
        }
        for (int i = 0; i < 2; i++) {
            x.addConversion(11, i, true);
            x.addConversion(11, i, false);
        }
        int t0 = x.parameter(0);
        for (int i = 0; i < 5; i++) {
            x.addTemplate(1 + i % 2);
        }
        for (int i = 0; i < 4; i++) {
            x.specialise(0, i == 0 ? t0 : i, -1);
            x.constrain(0, 0, i % 3, "pcbd".charAt(i), 0);
        }
        x.instance(0, x.classType(11), -1);
        for (int i = 0; i < 24; i++) {
            x.addFunction(i % 6, i % 6, false);
        }
        for (int i = 0; i < 4; i++) {
            if (i < 3) x.addParameter(0, 'v', t0);
            x.require(0, i % 3, 'b', 0);
        }
        for (int i = 0; i < 3; i++) {
            x.addArgument(i, 'l');
        }
        fillWithObjects(x);
        return x;
    }

    /** Blocks and objects up to their bounds. */
    private static void fillWithObjects(Overloadery x) {
        for (int i = 0; i < 9; i++) {
            x.open(i == 4);
            if (i < 7) x.make(i, 'a', 5);
        }
        for (int i = 0; i < 5; i++) {
            x.make(i < 4 ? 11 : 3, i % 2 == 0 ? 't' : 'l', 0);
        }
    }

    /** All 150 types. */
    static Overloadery manyTypes() {
        Overloadery x = withClasses(2);
        x.addTemplate(1);
        x.addTemplate(2);
        int t0 = x.parameter(0);
        int cls = x.classType(0);
        int open = x.instance(1, t0, 2);
        x.instance(0, 2, -1);
        x.instance(1, 2, 2);
        x.setBase(0, -1, open);
        x.setBase(1, -1, open);
        x.instance(1, 3, 4);
        function(x, 0, 0, 'v', x.pointerTo(t0));
        x.addArgument(cls, 'l');
        fillTypes(x, 150);
        return x;
    }

    /** A trace of 600 entries, of which the last one is one of several that belong together. */
    static Overloadery longTrace() {
        Overloadery x = withClasses(3);
        x.addBase(1, 0, false);
        x.addMember(1, 0);
        x.setBody(1, 0, true);
        x.open(true);
        for (int i = 0; i < 22; i++) {
            x.make(1, 'a', 5);
            x.make(2, 't', 0);
            x.close();
            x.open(true);
        }
        x.make(1, 'a', 3);
        return x;
    }
}
