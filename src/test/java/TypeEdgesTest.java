/** Promises 1 to 9: each sentence that names a bound, at the last value that is taken and the first that is refused. */
public final class TypeEdgesTest {
    private final Checks c = new Checks();
    private final Range range = new Range(c);

    public static void main(String[] args) {
        TypeEdgesTest test = new TypeEdgesTest();
        test.newObject();
        test.newObjectsAreApart();
        test.fiveTypesAtFirst();
        test.numbersAsAskedFor();
        test.pointerToNoType();
        test.pointerSizes();
        test.openPointerSizes();
        test.classTypeOfNoClass();
        test.parameterRange();
        test.instanceOfNothing();
        test.instanceOfOneOrTwo();
        test.instanceSizes();
        test.hundredAndFiftyTypes();
        test.knownTypesWhenFull();
        test.orderWhenFull();
        test.kinds();
        test.typesAreCounted();
        test.baseOfWhat();
        test.noBase();
        test.baseSizes();
        test.baseOfUnmatchedParameter();
        test.baseAsLastType();
        test.baseNumbersItselfAlone();
        test.chosenForWhat();
        test.chosenNumbers();
        test.c.finish("TypeEdgesTest");
    }

    /** "Creates a language with the namespace 0 and one block, without classes, templates and functions." */
    private void newObject() {
        Overloadery x = new Overloadery();
        c.due("five types", x::types, 5);
        range.refused("only the namespace 0", 0, 0, x::addNamespace, Due.INDEX);
        range.refused("no class in another namespace", 0, 0, x::addClass, Due.INDEX);
        range.refused("no function in another namespace", 0, 0, v -> x.addFunction(v, 0, false), Due.INDEX);
        c.due("no class", () -> x.classType(0), Due.INDEX);
        c.due("no class to make", () -> x.make(0, 'o', 0), Due.INDEX);
        c.due("no class for a mean", x::meanParts, Due.ARITHMETIC);
        c.due("no template", () -> x.instance(0, 0, -1), Due.INDEX);
        c.due("no template to specialise", () -> x.specialise(0, 0, -1), Due.INDEX);
        c.due("no function", () -> x.isViable(0), Due.INDEX);
        c.due("no function for a share", x::viableShare, Due.ARITHMETIC);
        c.due("no candidate", () -> x.candidates(0, 0), 0);
        c.due("none to resolve", () -> x.resolve(0, 5), -1);
        c.due("none to resolve anew", () -> x.resolveAnew(0, 5), -1);
        c.due("no argument", x::clearArguments, 0);
        c.due("no temporary", x::endExpression, 0);
        c.due("nothing living", x::living, 0);
        c.due("no trace", x::trace, 0);
        c.due("no entry", () -> x.traceKind(0), Due.INDEX);
        c.due("nothing made", x::made, 0L);
        c.due("nothing taken down", x::takenDown, 0L);
        c.due("no try", x::raise, 'u');
        c.due("one block alone", x::close, Due.STATE);
        c.due("the second block", () -> x.open(false), 2);
        c.due("the first namespace is 0", () -> x.addNamespace(0), 1);
        c.due("the first class", () -> x.addClass(0), 0);
        c.due("the first template", () -> x.addTemplate(1), 0);
        c.due("the first function", () -> x.addFunction(0, 0, false), 0);
    }

    private void newObjectsAreApart() {
        Overloadery full = Lives.full();
        Overloadery many = Lives.manyTypes();
        Overloadery x = new Overloadery();
        c.due("another one has more types", many::types, 150);
        c.due("another one has objects", full::living, 40);
        for (int i = 0; i < Portrait.PARTS; i++) {
            int part = i;
            Overloadery twin = new Overloadery();
            c.due("new ones are alike, part " + i, () -> Portrait.of(twin, part), Portrait.of(new Overloadery(), part));
        }
        c.due("this one has no more types", x::types, 5);
        c.due("nor objects", x::living, 0);
    }

    /** "Types are numbered: 0 truths, 1 letters, 2 whole numbers, 3 long ones, 4 fractions" */
    private void fiveTypesAtFirst() {
        Overloadery x = new Overloadery();
        for (int i = 0; i < 5; i++) {
            int type = i;
            c.due("kind of " + i, () -> x.kindOf(type), 'b');
        }
        range.refused("no type", 0, 4, x::kindOf, Due.INDEX);
        int[] to = new int[5];
        for (int i = 0; i < 5; i++) {
            to[i] = Lives.function(x, 0, 0, 'v', i);
        }
        x.addArgument(0, 'k');
        c.due("a truth grows to 2", () -> x.coming(to[2], 0), 1000);
        c.due("a truth does not grow to 3", () -> x.coming(to[3], 0), 2000);
        Lives.argument(x, 1, 'k');
        c.due("a letter grows to 2", () -> x.coming(to[2], 0), 1000);
        c.due("a letter does not grow to 4", () -> x.coming(to[4], 0), 2000);
        c.due("a letter does not grow to 0", () -> x.coming(to[0], 0), 2000);
        Lives.argument(x, 2, 'k');
        c.due("2 does not grow to 3", () -> x.coming(to[3], 0), 2000);
    }

    /** "then, in the order in which they are first asked for"; "The same type has the same number" */
    private void numbersAsAskedFor() {
        Overloadery x = Lives.withClasses(1);
        x.addTemplate(1);
        x.addTemplate(2);
        c.due("a pointer first", () -> x.pointerTo(4), 5);
        c.due("then a parameter", () -> x.parameter(2), 6);
        c.due("then a class", () -> x.classType(0), 7);
        c.due("then an instance", () -> x.instance(0, 7, -1), 8);
        c.due("then one of two types", () -> x.instance(1, 8, 5), 9);
        c.due("the pointer again", () -> x.pointerTo(4), 5);
        c.due("the parameter again", () -> x.parameter(2), 6);
        c.due("the class again", () -> x.classType(0), 7);
        c.due("the instance again", () -> x.instance(0, 7, -1), 8);
        c.due("that of two types again", () -> x.instance(1, 8, 5), 9);
        c.due("the other way round it is another one", () -> x.instance(1, 5, 8), 10);
        c.due("another parameter is another one", () -> x.parameter(0), 11);
    }

    private void pointerToNoType() {
        Overloadery x = new Overloadery();
        range.refused("pointer to no type", 0, 4, x::pointerTo, Due.INDEX);
        c.due("pointer to the first type", () -> x.pointerTo(0), 5);
        c.due("pointer to the last type", () -> x.pointerTo(5), 6);
        range.refused("pointer to no type", 0, 6, x::pointerTo, Due.INDEX);
        c.due("seven types", x::types, 7);
    }

    /** "none has a size of more than 30" */
    private void pointerSizes() {
        Overloadery x = new Overloadery();
        int before = Lives.tower(x, 2, 29);
        c.due("a pointer of the size 30", () -> x.pointerTo(before), before + 1);
        c.due("a pointer of the size 31", () -> x.pointerTo(before + 1), Due.STATE);
        c.due("no type by that", x::types, before + 2);
        c.due("that of the size 30 again", () -> x.pointerTo(before), before + 1);
        c.due("a smaller one", () -> x.pointerTo(3), before + 2);
        x.addTemplate(1);
        int instance = x.instance(0, before - 1, -1);
        c.due("a pointer to an instance of the size 29", () -> x.pointerTo(instance), instance + 1);
        int larger = x.instance(0, before, -1);
        c.due("a pointer to an instance of the size 30", () -> x.pointerTo(larger), Due.STATE);
    }

    private void openPointerSizes() {
        Overloadery x = Lives.withClasses(1);
        int open = Lives.tower(x, x.parameter(1), 30);
        c.due("open types have the same bound", () -> x.pointerTo(open), Due.STATE);
        int ofClass = Lives.tower(x, x.classType(0), 30);
        c.due("a class has the size 1", () -> x.pointerTo(ofClass), Due.STATE);
        c.due("so many types", x::types, 5 + 30 + 30);
    }

    private void classTypeOfNoClass() {
        Overloadery x = new Overloadery();
        c.due("no class at all", () -> x.classType(0), Due.INDEX);
        Lives.addClasses(x, 1);
        range.refused("one class alone", 0, 0, x::classType, Due.INDEX);
        Lives.addClasses(x, 11);
        c.due("the last class", () -> x.classType(11), 5);
        c.due("the first class", () -> x.classType(0), 6);
        range.refused("no class", 0, 11, x::classType, Due.INDEX);
    }

    /** "one of the parameters 0 to 2" */
    private void parameterRange() {
        Overloadery x = new Overloadery();
        range.refused("no parameter", 0, 2, x::parameter, Due.ARGUMENT);
        for (int i = 0; i <= 2; i++) {
            int parameter = i;
            c.due("parameter " + i, () -> x.parameter(parameter), 5 + i);
        }
        range.refused("no parameter", 0, 2, x::parameter, Due.ARGUMENT);
    }

    private void instanceOfNothing() {
        Overloadery x = new Overloadery();
        c.due("no template at all", () -> x.instance(0, 0, -1), Due.INDEX);
        x.addTemplate(1);
        x.addTemplate(2);
        range.refused("no template", 0, 1, v -> x.instance(v, 0, -1), Due.INDEX);
        range.refused("no template for two", 0, 1, v -> x.instance(v, 0, 0), Due.INDEX);
        range.refused("no first type", 0, 4, v -> x.instance(0, v, -1), Due.INDEX);
        range.refused("no first type of two", 0, 4, v -> x.instance(1, v, 0), Due.INDEX);
        range.refused("no second type of two", -1, 4, v -> x.instance(1, 0, v), Due.INDEX);
        range.refused("no second type of one", -1, 4, v -> x.instance(0, 0, v), Due.INDEX);
        c.due("the last types", () -> x.instance(1, 4, 4), 5);
        c.due("the first type", () -> x.instance(0, 0, -1), 6);
        c.due("the last type", () -> x.instance(0, 6, -1), 7);
        c.due("the first types", () -> x.instance(1, 0, 0), 8);
    }

    /** "if a second type is told for one parameter, or is -1 for two" */
    private void instanceOfOneOrTwo() {
        Overloadery x = new Overloadery();
        x.addTemplate(1);
        x.addTemplate(2);
        c.due("two for one", () -> x.instance(0, 0, 0), Due.ARGUMENT);
        c.due("two for one, the last type", () -> x.instance(0, 0, 4), Due.ARGUMENT);
        c.due("one for two", () -> x.instance(1, 0, -1), Due.ARGUMENT);
        c.due("no template ahead of it", () -> x.instance(2, 0, 0), Due.INDEX);
        c.due("no first type ahead of two for one", () -> x.instance(0, 5, 0), Due.INDEX);
        c.due("no first type ahead of one for two", () -> x.instance(1, -1, -1), Due.INDEX);
        c.due("no second type ahead of two for one", () -> x.instance(0, 0, 5), Due.INDEX);
        int large = Lives.tower(x, 0, 30);
        c.due("two for one ahead of the size", () -> x.instance(0, large, large), Due.ARGUMENT);
        c.due("one for two ahead of the size", () -> x.instance(1, large, -1), Due.ARGUMENT);
        c.due("no type ahead of the size", () -> x.instance(1, large, large + 1), Due.INDEX);
    }

    /** "The size of a type is 1, and 1 more than that of the types that it is made of" */
    private void instanceSizes() {
        Overloadery x = new Overloadery();
        x.addTemplate(1);
        x.addTemplate(2);
        int thirty = Lives.tower(x, 2, 30);
        int one = thirty + 1;
        c.due("1 and 29", () -> x.instance(0, thirty - 1, -1), one);
        c.due("1 and 30", () -> x.instance(0, thirty, -1), Due.STATE);
        c.due("1 and 28 and 1", () -> x.instance(1, thirty - 2, 0), one + 1);
        c.due("1 and 1 and 28", () -> x.instance(1, 0, thirty - 2), one + 2);
        c.due("1 and 29 and 1", () -> x.instance(1, thirty - 1, 0), Due.STATE);
        c.due("1 and 1 and 29", () -> x.instance(1, 0, thirty - 1), Due.STATE);
        c.due("1 and 14 and 15", () -> x.instance(1, thirty - 16, thirty - 15), one + 3);
        c.due("1 and 15 and 15", () -> x.instance(1, thirty - 15, thirty - 15), Due.STATE);
        c.due("1 and 30 and 30", () -> x.instance(1, thirty, thirty), Due.STATE);
        c.due("no types by those", x::types, one + 4);
    }

    /** "at most 150 in all" */
    private void hundredAndFiftyTypes() {
        for (int i = 0; i < 4; i++) {
            int kind = i;
            Overloadery x = Lives.withClasses(1);
            x.addTemplate(1);
            Lives.fillTypes(x, 149);
            c.due("149 types", x::types, 149);
            c.due("the 150th type by the call " + i, () -> fresh(x, kind), 149);
            c.due("150 types", x::types, 150);
            c.due("the 151st type by a pointer", () -> x.pointerTo(149), Due.STATE);
            for (int j = 0; j < 4; j++) {
                int other = j;
                c.due("the 151st type by the call " + j, () -> fresh(x, other), i == j ? 149 : Due.STATE);
            }
            c.due("150 types stay", x::types, 150);
            c.due("no type 150", () -> x.kindOf(150), Due.INDEX);
        }
        Overloadery x = new Overloadery();
        Lives.fillTypes(x, 149);
        c.due("the 150th type by a pointer", () -> x.pointerTo(148), 149);
        c.due("the 151st type", () -> x.pointerTo(149), Due.STATE);
    }

    private static int fresh(Overloadery x, int kind) {
        switch (kind) {
            case 0: return x.classType(0);
            case 1: return x.parameter(0);
            case 2: return x.instance(0, 3, -1);
            default: return x.parameter(2);
        }
    }

    private void knownTypesWhenFull() {
        Overloadery x = Lives.withClasses(1);
        x.addTemplate(1);
        x.addTemplate(2);
        int cls = x.classType(0);
        int parameter = x.parameter(1);
        int one = x.instance(0, parameter, -1);
        int two = x.instance(1, cls, one);
        Lives.fillTypes(x, 150);
        c.due("full", () -> x.parameter(0), Due.STATE);
        c.due("the class", () -> x.classType(0), cls);
        c.due("the parameter", () -> x.parameter(1), parameter);
        c.due("the instance of one", () -> x.instance(0, parameter, -1), one);
        c.due("the instance of two", () -> x.instance(1, cls, one), two);
        c.due("a pointer", () -> x.pointerTo(0), two + 1);
        c.due("the last pointer", () -> x.pointerTo(148), 149);
        c.due("all of 150", x::types, 150);
    }

    private void orderWhenFull() {
        Overloadery x = Lives.withClasses(1);
        x.addTemplate(1);
        x.addTemplate(2);
        Lives.fillTypes(x, 150);
        c.due("full", () -> x.classType(0), Due.STATE);
        range.refused("pointer to no type", 0, 149, x::pointerTo, Due.INDEX);
        range.refused("no class", 0, 0, x::classType, Due.INDEX);
        range.refused("no parameter", 0, 2, x::parameter, Due.ARGUMENT);
        range.refused("no template", 0, 1, v -> x.instance(v, 0, -1), Due.INDEX);
        range.refused("no first type", 0, 149, v -> x.instance(0, v, -1), Due.INDEX);
        range.refused("no second type", -1, 149, v -> x.instance(1, 0, v), Due.INDEX);
        c.due("two for one", () -> x.instance(0, 0, 0), Due.ARGUMENT);
        c.due("one for two", () -> x.instance(1, 0, -1), Due.ARGUMENT);
    }

    /** "'b' one of 0 to 4, 'p' a pointer, 'c' a class, 't' a parameter, 'i' an instance" */
    private void kinds() {
        Overloadery x = Lives.withClasses(12);
        for (int i = 1; i <= 5; i++) {
            x.addTemplate(1 + i % 2);
        }
        StringBuilder want = new StringBuilder("bbbbb");
        for (int i = 0; i < 12; i++) {
            x.classType(i);
            want.append('c');
        }
        for (int i = 0; i < 3; i++) {
            x.parameter(i);
            x.pointerTo(x.types() - 1);
            want.append("tp");
        }
        for (int i = 0; i < 5; i++) {
            x.instance(i, i, i % 2 == 0 ? i : -1);
            x.instance(i, 17, i % 2 == 0 ? 5 : -1);
            want.append("ii");
        }
        for (int i = 0; i < want.length(); i++) {
            int type = i;
            c.due("kind of " + i, () -> x.kindOf(type), want.charAt(i));
        }
        range.refused("kind of no type", 0, want.length() - 1, x::kindOf, Due.INDEX);
        Overloadery full = new Overloadery();
        Lives.fillTypes(full, 150);
        c.due("kind of the last of 150", () -> full.kindOf(149), 'p');
        range.refused("kind of no type of 150", 0, 149, full::kindOf, Due.INDEX);
    }

    private void typesAreCounted() {
        Overloadery x = Lives.withClasses(1);
        c.due("classes are no types before they are asked for", x::types, 5);
        x.addTemplate(1);
        c.due("templates neither", x::types, 5);
        x.classType(0);
        c.due("one more", x::types, 6);
        x.classType(0);
        c.due("once", x::types, 6);
        Lives.fillTypes(x, 150);
        c.due("150", x::types, 150);
    }

    private void baseOfWhat() {
        Overloadery x = Lives.withClasses(1);
        x.addTemplate(1);
        x.addTemplate(2);
        int t0 = x.parameter(0);
        int cls = x.classType(0);
        int pointer = x.pointerTo(cls);
        x.setBase(0, -1, cls);
        x.setBase(1, -1, cls);
        int closed = x.instance(1, 0, 4);
        int[] others = {0, 4, pointer, cls, t0, x.instance(0, t0, -1), x.instance(1, 0, t0), x.instance(1, t0, 0),
            x.instance(0, x.pointerTo(x.instance(0, t0, -1)), -1)};
        for (int other : others) {
            c.due("no instance, or open: " + other, () -> x.baseOf(other), Due.ARGUMENT);
            c.due("none is chosen for " + other, () -> x.chosenFor(other), Due.ARGUMENT);
        }
        c.due("a closed one", () -> x.baseOf(closed), cls);
        c.due("the template itself for it", () -> x.chosenFor(closed), -1);
        int last = x.types() - 1;
        range.refused("base of no type", 0, last, x::baseOf, Due.INDEX);
        range.refused("none is chosen for no type", 0, last, x::chosenFor, Due.INDEX);
        c.due("the last type is taken", () -> x.baseOf(x.instance(0, 3, -1)), cls);
    }

    private void noBase() {
        Overloadery x = Lives.withClasses(1);
        x.addTemplate(1);
        int cls = x.classType(0);
        int t0 = x.parameter(0);
        int pointer = x.pointerTo(t0);
        int instance = x.instance(0, x.pointerTo(2), -1);
        c.due("none was told", () -> x.baseOf(instance), Due.NO_ELEMENT);
        x.setBase(0, -1, cls);
        c.due("that of the template", () -> x.baseOf(instance), cls);
        x.specialise(0, pointer, -1);
        c.due("its specialisation has none", () -> x.baseOf(instance), Due.NO_ELEMENT);
        x.setBase(0, 0, cls);
        c.due("its specialisation has one", () -> x.baseOf(instance), cls);
        x.specialise(0, pointer, -1);
        x.setBase(0, 1, cls);
        c.due("its body is not sure", () -> x.baseOf(instance), Due.NO_ELEMENT);
        x.setBase(0, -1, -1);
        c.due("and so it stays", () -> x.baseOf(instance), Due.NO_ELEMENT);
    }

    /** "It has none if this would have a size of more than 30" */
    private void baseSizes() {
        Overloadery x = new Overloadery();
        x.addTemplate(1);
        x.addTemplate(2);
        int t0 = x.parameter(0);
        x.setBase(0, -1, x.instance(1, t0, t0));
        int fourteen = Lives.tower(x, 2, 14);
        int fifteen = x.pointerTo(fourteen);
        int small = x.instance(0, fourteen, -1);
        int large = x.instance(0, fifteen, -1);
        int types = x.types();
        c.due("a base of the size 31", () -> x.baseOf(large), Due.NO_ELEMENT);
        c.due("no type by that", x::types, types);
        c.due("a base of the size 29", () -> x.baseOf(small), types);
        x.setBase(0, -1, x.instance(1, t0, x.pointerTo(t0)));
        int more = x.types();
        c.due("a base of the size 30", () -> x.baseOf(small), more);
        c.due("a pointer to it would be of the size 31", () -> x.pointerTo(more), Due.STATE);
        c.due("still none", () -> x.baseOf(large), Due.NO_ELEMENT);
    }

    /** "or a parameter in it for which nothing was matched" */
    private void baseOfUnmatchedParameter() {
        Overloadery x = new Overloadery();
        x.addTemplate(1);
        x.addTemplate(2);
        int[] open = new int[3];
        for (int i = 0; i < 3; i++) {
            open[i] = x.instance(0, x.parameter(i), -1);
        }
        int one = x.instance(0, 2, -1);
        int two = x.instance(1, 2, 3);
        int[] bases = {one, x.instance(0, 3, -1)};
        for (int i = 0; i < 3; i++) {
            x.setBase(0, -1, open[i]);
            x.setBase(1, -1, open[i]);
            c.due("parameter " + i + " of one", () -> x.baseOf(one), i == 0 ? one : Due.NO_ELEMENT);
            c.due("parameter " + i + " of two", () -> x.baseOf(two), i < 2 ? bases[i] : Due.NO_ELEMENT);
        }
        int t2 = x.parameter(2);
        x.specialise(1, t2, t2);
        x.specialise(1, t2, 3);
        for (int i = 0; i < 3; i++) {
            x.setBase(1, 1, open[i]);
            c.due("parameter " + i + " of a pattern with 2", () -> x.baseOf(two), i == 2 ? one : Due.NO_ELEMENT);
        }
    }

    /** "if there would be more than 150 types" */
    private void baseAsLastType() {
        for (int room = 0; room <= 2; room++) {
            Overloadery x = Lives.withClasses(1);
            x.addTemplate(1);
            x.addTemplate(1);
            x.addTemplate(1);
            int t0 = x.parameter(0);
            x.setBase(0, -1, x.instance(1, t0, -1));
            x.specialise(0, 0, -1);
            int instance = x.instance(0, 2, -1);
            int other = x.instance(0, 3, -1);
            int without = x.instance(0, 0, -1);
            int its = x.instance(0, 4, -1);
            int known = x.instance(1, 4, -1);
            int count = 150 - room;
            Lives.fillTypes(x, count);
            c.due("a base that is known, " + room + " free", () -> x.baseOf(its), known);
            c.due("the first base, " + room + " free", () -> x.baseOf(instance), room > 0 ? count : Due.STATE);
            c.due("the second base, " + room + " free", () -> x.baseOf(other), room > 1 ? count + 1 : Due.STATE);
            c.due("no base ahead of too many", () -> x.baseOf(without), Due.NO_ELEMENT);
            c.due("no instance ahead of too many", () -> x.baseOf(0), Due.ARGUMENT);
            c.due("no type ahead of too many", () -> x.baseOf(150), Due.INDEX);
            c.due("the first base again", () -> x.baseOf(instance), room > 0 ? count : Due.STATE);
            c.due("150 types", x::types, 150);
        }
    }

    /** "one that comes about otherwise gets its number when a call first returns it, while the types in it do not by this" */
    private void baseNumbersItselfAlone() {
        Overloadery x = new Overloadery();
        x.addTemplate(1);
        x.addTemplate(1);
        int t0 = x.parameter(0);
        x.setBase(0, -1, x.instance(1, x.pointerTo(x.pointerTo(t0)), -1));
        int instance = x.instance(0, 2, -1);
        int types = x.types();
        x.chosenFor(instance);
        c.due("asking for the body numbers nothing", x::types, types);
        c.due("no distance to what has no number", () -> x.distance(instance, types), Due.INDEX);
        c.due("the base", () -> x.baseOf(instance), types);
        c.due("it alone", x::types, types + 1);
        c.due("now there is a distance", () -> x.distance(instance, types), 1);
        c.due("the pointer in it is new", () -> x.pointerTo(2), types + 1);
        c.due("so is the pointer to it", () -> x.pointerTo(types + 1), types + 2);
        c.due("the base is made of that", () -> x.instance(1, types + 2, -1), types);
    }

    private void chosenForWhat() {
        Overloadery x = new Overloadery();
        x.addTemplate(1);
        range.refused("no type", 0, 4, x::chosenFor, Due.INDEX);
        int first = x.instance(0, 0, -1);
        c.due("the first instance", () -> x.chosenFor(first), -1);
        range.refused("no type behind it", 0, first, x::chosenFor, Due.INDEX);
        Lives.fillTypes(x, 150);
        c.due("when there are 150 types", () -> x.chosenFor(first), -1);
        range.refused("no type of 150", 0, 149, x::chosenFor, Due.INDEX);
    }

    /** "the number of the specialisation, -1 for the template itself, -2 if it is not sure" */
    private void chosenNumbers() {
        Overloadery x = new Overloadery();
        x.addTemplate(2);
        int t0 = x.parameter(0);
        int[] of = new int[5];
        for (int i = 0; i < 5; i++) {
            of[i] = x.instance(0, i, 4);
        }
        for (int i = 0; i < 4; i++) {
            int number = i;
            c.due("not before", () -> x.chosenFor(of[number]), -1);
            x.specialise(0, i, t0);
            c.due("specialisation " + i, () -> x.chosenFor(of[number]), i);
        }
        c.due("none of four", () -> x.chosenFor(of[4]), -1);
        Overloadery y = new Overloadery();
        y.addTemplate(2);
        int parameter = y.parameter(0);
        int instance = y.instance(0, 2, 2);
        y.specialise(0, 2, parameter);
        y.specialise(0, parameter, 2);
        c.due("neither of two", () -> y.chosenFor(instance), -2);
        y.specialise(0, parameter, parameter);
        c.due("none of three", () -> y.chosenFor(instance), -2);
        y.specialise(0, 2, 2);
        c.due("the last of four", () -> y.chosenFor(instance), 3);
    }
}
