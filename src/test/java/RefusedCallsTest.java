/**
 * "A method that throws an exception changes nothing." For each promise that names exceptions, and for each of these, a call
 * that is refused; behind it the object answers like one that did not refuse it. Where two conditions of a method apply, "the
 * exception that is listed first is thrown".
 */
public final class RefusedCallsTest {
    private final Checks c = new Checks();
    private final Twins twins = new Twins(c);

    public static void main(String[] args) {
        RefusedCallsTest test = new RefusedCallsTest();
        test.types();
        test.bases();
        test.namespacesAndClasses();
        test.basesAndMembers();
        test.conversions();
        test.templates();
        test.basesOfTemplates();
        test.constraints();
        test.distances();
        test.functions();
        test.parameters();
        test.requirements();
        test.arguments();
        test.questions();
        test.comings();
        test.deducedTypes();
        test.methods();
        test.bodies();
        test.blocks();
        test.makings();
        test.traces();
        test.totals();
        test.c.finish("RefusedCallsTest");
    }

    private void empty(String name, Twins.Call call, Class<?> want) {
        twins.refuse(name + ", of a new one", Overloadery::new, call, want);
    }

    private void some(String name, Twins.Call call, Class<?> want) {
        twins.refuse(name + ", with some of everything", Lives::some, call, want);
    }

    private void made(String name, Twins.Call call, Class<?> want) {
        twins.refuse(name + ", with objects", Lives::made, call, want);
    }

    private void full(String name, Twins.Call call, Class<?> want) {
        twins.refuse(name + ", with no room", Lives::full, call, want);
    }

    private void many(String name, Twins.Call call, Class<?> want) {
        twins.refuse(name + ", with 150 types", Lives::manyTypes, call, want);
    }

    /** Promises 2 to 6. */
    private void types() {
        empty("a pointer to no type", x -> x.pointerTo(5), Due.INDEX);
        some("a pointer to no type", x -> x.pointerTo(-1), Due.INDEX);
        twins.refuse("a pointer of the size 31", RefusedCallsTest::largeTypes, x -> x.pointerTo(33), Due.STATE);
        many("a pointer", x -> x.pointerTo(149), Due.STATE);
        many("a pointer to no type", x -> x.pointerTo(150), Due.INDEX);
        empty("no class", x -> x.classType(0), Due.INDEX);
        some("no class", x -> x.classType(5), Due.INDEX);
        many("a class", x -> x.classType(1), Due.STATE);
        many("no class", x -> x.classType(2), Due.INDEX);
        some("no parameter", x -> x.parameter(3), Due.ARGUMENT);
        many("a parameter", x -> x.parameter(1), Due.STATE);
        many("no parameter", x -> x.parameter(-1), Due.ARGUMENT);
        empty("no template", x -> x.instance(0, 0, -1), Due.INDEX);
        some("no template and two for one", x -> x.instance(2, 0, 0), Due.INDEX);
        some("no first type", x -> x.instance(0, 14, -1), Due.INDEX);
        some("no first type and one for two", x -> x.instance(1, 14, -1), Due.INDEX);
        some("no second type", x -> x.instance(1, 0, -2), Due.INDEX);
        some("no second type and two for one", x -> x.instance(0, 0, 14), Due.INDEX);
        some("two for one", x -> x.instance(0, 0, 0), Due.ARGUMENT);
        some("one for two", x -> x.instance(1, 0, -1), Due.ARGUMENT);
        twins.refuse("an instance of the size 31", RefusedCallsTest::largeTypes, x -> x.instance(0, 33, -1), Due.STATE);
        twins.refuse("too large, and two for one", RefusedCallsTest::largeTypes, x -> x.instance(0, 33, 33), Due.ARGUMENT);
        many("an instance", x -> x.instance(0, 0, -1), Due.STATE);
        many("an instance of two for one", x -> x.instance(0, 0, 0), Due.ARGUMENT);
        many("an instance of no type", x -> x.instance(0, 150, -1), Due.INDEX);
        some("kind of no type", x -> x.kindOf(14), Due.INDEX);
    }

    /** Pointers up to the size 30, which is type 33; a template with one parameter, and one with two. */
    private static Overloadery largeTypes() {
        Overloadery x = new Overloadery();
        x.addTemplate(1);
        x.addTemplate(2);
        Lives.tower(x, 0, 30);
        return x;
    }

    /** Promises 8 and 9. */
    private void bases() {
        some("base of no type", x -> x.baseOf(14), Due.INDEX);
        some("base of a pointer", x -> x.baseOf(9), Due.ARGUMENT);
        some("base of an open instance", x -> x.baseOf(10), Due.ARGUMENT);
        some("a specialisation without a base", x -> x.baseOf(12), Due.NO_ELEMENT);
        many("a base without a number", x -> x.baseOf(10), Due.STATE);
        twins.refuse("no base, 150 types", RefusedCallsTest::manyWithoutBase, x -> x.baseOf(10), Due.NO_ELEMENT);
        many("base of no instance", x -> x.baseOf(149), Due.ARGUMENT);
        many("base of no type", x -> x.baseOf(150), Due.INDEX);
        some("none is chosen for no type", x -> x.chosenFor(-1), Due.INDEX);
        some("none is chosen for a class", x -> x.chosenFor(5), Due.ARGUMENT);
        some("none is chosen for an open instance", x -> x.chosenFor(10), Due.ARGUMENT);
    }

    /** 150 types, among which the instance 10 has no base. */
    private static Overloadery manyWithoutBase() {
        Overloadery x = Lives.manyTypes();
        x.setBase(1, -1, -1);
        return x;
    }

    /** Promises 10 and 11. */
    private void namespacesAndClasses() {
        empty("in no namespace", x -> x.addNamespace(1), Due.INDEX);
        some("in no namespace", x -> x.addNamespace(-1), Due.INDEX);
        full("a namespace", x -> x.addNamespace(5), Due.STATE);
        full("in no namespace", x -> x.addNamespace(6), Due.INDEX);
        empty("a class of no namespace", x -> x.addClass(1), Due.INDEX);
        some("a class of no namespace", x -> x.addClass(3), Due.INDEX);
        full("a class", x -> x.addClass(0), Due.STATE);
        full("a class of no namespace", x -> x.addClass(6), Due.INDEX);
    }

    /** Promises 12 and 13. */
    private void basesAndMembers() {
        empty("a base of no class", x -> x.addBase(0, 0, false), Due.INDEX);
        some("a base of no class", x -> x.addBase(5, 0, false), Due.INDEX);
        some("no base", x -> x.addBase(4, 5, false), Due.INDEX);
        some("itself", x -> x.addBase(4, 4, true), Due.ARGUMENT);
        some("a base once more", x -> x.addBase(4, 3, true), Due.ARGUMENT);
        made("a base", x -> x.addBase(1, 0, false), Due.STATE);
        made("itself", x -> x.addBase(1, 1, false), Due.ARGUMENT);
        made("a base of no class", x -> x.addBase(1, 5, false), Due.INDEX);
        full("a fourth base", x -> x.addBase(11, 3, false), Due.STATE);
        full("a base once more", x -> x.addBase(11, 1, true), Due.ARGUMENT);
        full("no base", x -> x.addBase(11, 12, true), Due.INDEX);
        twins.refuse("a fourth base", RefusedCallsTest::threeOfEach, x -> x.addBase(4, 3, true), Due.STATE);
        empty("a member of no class", x -> x.addMember(0, 0), Due.INDEX);
        some("a member of no class", x -> x.addMember(-1, 0), Due.INDEX);
        some("no member", x -> x.addMember(4, -1), Due.INDEX);
        some("a member that is higher", x -> x.addMember(3, 4), Due.ARGUMENT);
        made("a member", x -> x.addMember(1, 0), Due.STATE);
        made("a member that is higher", x -> x.addMember(1, 2), Due.ARGUMENT);
        made("no member", x -> x.addMember(1, 5), Due.INDEX);
        full("a fourth member", x -> x.addMember(11, 3), Due.STATE);
        full("a member that is itself", x -> x.addMember(11, 11), Due.ARGUMENT);
        twins.refuse("a fourth member", RefusedCallsTest::threeOfEach, x -> x.addMember(4, 0), Due.STATE);
    }

    /** Class 4 has three bases and three members, and no object was made. */
    private static Overloadery threeOfEach() {
        Overloadery x = Lives.withClasses(5);
        for (int i = 0; i < 3; i++) {
            x.addBase(4, i, i == 0);
            x.addMember(4, i);
        }
        return x;
    }

    /** Promise 14. */
    private void conversions() {
        empty("of no class", x -> x.addConversion(0, 0, true), Due.INDEX);
        some("of no class", x -> x.addConversion(5, 0, true), Due.INDEX);
        some("of no type", x -> x.addConversion(4, 14, false), Due.INDEX);
        some("of an open type", x -> x.addConversion(4, 8, false), Due.ARGUMENT);
        some("of the class itself", x -> x.addConversion(4, 5, true), Due.ARGUMENT);
        some("told already", x -> x.addConversion(4, 2, true), Due.ARGUMENT);
        some("told already, the other way", x -> x.addConversion(4, 3, false), Due.ARGUMENT);
        full("a third from", x -> x.addConversion(11, 2, true), Due.STATE);
        full("a third to", x -> x.addConversion(11, 2, false), Due.STATE);
        full("told already", x -> x.addConversion(11, 0, true), Due.ARGUMENT);
        full("of an open type", x -> x.addConversion(11, 5, false), Due.ARGUMENT);
        full("of no type", x -> x.addConversion(11, 99, false), Due.INDEX);
    }

    /** Promises 15 and 16. */
    private void templates() {
        empty("no parameters", x -> x.addTemplate(0), Due.ARGUMENT);
        some("three parameters", x -> x.addTemplate(3), Due.ARGUMENT);
        full("a template", x -> x.addTemplate(1), Due.STATE);
        full("three parameters", x -> x.addTemplate(3), Due.ARGUMENT);
        empty("of no template", x -> x.specialise(0, 0, -1), Due.INDEX);
        some("of no template", x -> x.specialise(2, 0, 0), Due.INDEX);
        some("of no type", x -> x.specialise(0, 14, -1), Due.INDEX);
        some("of no second type", x -> x.specialise(1, 0, 14), Due.INDEX);
        some("two for one", x -> x.specialise(0, 0, 0), Due.ARGUMENT);
        some("one for two", x -> x.specialise(1, 0, -1), Due.ARGUMENT);
        full("a fifth", x -> x.specialise(0, 4, -1), Due.STATE);
        full("two for one", x -> x.specialise(0, 4, 4), Due.ARGUMENT);
        full("of no type", x -> x.specialise(0, 99, -1), Due.INDEX);
    }

    /** Promise 17. */
    private void basesOfTemplates() {
        empty("of no template", x -> x.setBase(0, -1, -1), Due.INDEX);
        some("of no template", x -> x.setBase(2, -1, 5), Due.INDEX);
        some("of no specialisation", x -> x.setBase(0, 1, 5), Due.INDEX);
        some("of no specialisation, no class", x -> x.setBase(0, -2, 0), Due.INDEX);
        some("no type", x -> x.setBase(0, -1, 14), Due.INDEX);
        some("no type for a specialisation", x -> x.setBase(0, 0, -2), Due.INDEX);
        some("a basic type", x -> x.setBase(0, -1, 0), Due.ARGUMENT);
        some("a parameter", x -> x.setBase(1, -1, 7), Due.ARGUMENT);
        some("a pointer for a specialisation", x -> x.setBase(1, 0, 9), Due.ARGUMENT);
        full("of no specialisation", x -> x.setBase(0, 4, -1), Due.INDEX);
    }

    /** Promise 18. */
    private void constraints() {
        empty("of no template", x -> x.constrain(0, 0, 0, 'b', 0), Due.INDEX);
        some("of no template", x -> x.constrain(2, 0, 0, 'b', 0), Due.INDEX);
        some("of the template itself", x -> x.constrain(0, -1, 0, 'b', 0), Due.INDEX);
        some("of no specialisation, no letter", x -> x.constrain(0, 1, 0, 'x', 0), Due.INDEX);
        some("no class, no parameter", x -> x.constrain(0, 0, 3, 'd', 5), Due.INDEX);
        some("no parameter", x -> x.constrain(0, 0, 3, 'd', 4), Due.ARGUMENT);
        some("no letter", x -> x.constrain(1, 0, 0, 'B', 0), Due.ARGUMENT);
        full("a fifth", x -> x.constrain(0, 0, 0, 'b', 0), Due.STATE);
        full("no letter", x -> x.constrain(0, 0, 0, 'B', 0), Due.ARGUMENT);
        full("no class", x -> x.constrain(0, 0, 0, 'd', 12), Due.INDEX);
    }

    /** Promise 19. */
    private void distances() {
        some("from no type", x -> x.distance(14, 0), Due.INDEX);
        some("to no type", x -> x.distance(0, -1), Due.INDEX);
        some("from a basic type", x -> x.distance(0, 5), Due.ARGUMENT);
        some("to an open one", x -> x.distance(5, 10), Due.ARGUMENT);
        some("from an open one to itself", x -> x.distance(10, 10), Due.ARGUMENT);
        some("no base", x -> x.distance(6, 5), Due.NO_ELEMENT);
        some("no base of an instance", x -> x.distance(12, 6), Due.NO_ELEMENT);
        some("several parts", x -> x.distance(5, 6), Due.UNSUPPORTED);
    }

    /** Promise 20. */
    private void functions() {
        empty("of no namespace", x -> x.addFunction(1, 0, false), Due.INDEX);
        some("of no namespace, no name", x -> x.addFunction(3, 6, true), Due.INDEX);
        some("of no name", x -> x.addFunction(0, 6, true), Due.ARGUMENT);
        full("a function", x -> x.addFunction(0, 0, false), Due.STATE);
        full("of no name", x -> x.addFunction(0, -1, false), Due.ARGUMENT);
        full("of no namespace", x -> x.addFunction(6, 0, false), Due.INDEX);
    }

    /** Promise 21. */
    private void parameters() {
        empty("of no function", x -> x.addParameter(0, 'v', 0), Due.INDEX);
        some("of no function, no mode", x -> x.addParameter(5, 'x', 0), Due.INDEX);
        some("of no type, no mode", x -> x.addParameter(0, 'x', 14), Due.INDEX);
        some("of no mode", x -> x.addParameter(0, 'k', 0), Due.ARGUMENT);
        full("a fourth", x -> x.addParameter(0, 'v', 0), Due.STATE);
        full("of no mode", x -> x.addParameter(0, 'x', 0), Due.ARGUMENT);
        full("of no type", x -> x.addParameter(0, 'v', -1), Due.INDEX);
    }

    /** Promise 22. */
    private void requirements() {
        empty("of no function", x -> x.require(0, 0, 'b', 0), Due.INDEX);
        some("of no function, no letter", x -> x.require(5, 0, 'x', 0), Due.INDEX);
        some("no class, no parameter", x -> x.require(0, 3, 'd', 5), Due.INDEX);
        some("no parameter", x -> x.require(0, 3, 'b', 0), Due.ARGUMENT);
        some("no letter", x -> x.require(0, 0, 'v', 0), Due.ARGUMENT);
        full("a fifth", x -> x.require(0, 0, 'b', 0), Due.STATE);
        full("no letter", x -> x.require(0, 0, 'v', 0), Due.ARGUMENT);
        full("no class", x -> x.require(0, 0, 'd', -1), Due.INDEX);
    }

    /** Promise 23. */
    private void arguments() {
        some("of no type, no category", x -> x.addArgument(14, 'x'), Due.INDEX);
        some("of an open type", x -> x.addArgument(8, 'l'), Due.ARGUMENT);
        some("of no category", x -> x.addArgument(0, 'v'), Due.ARGUMENT);
        full("a fourth", x -> x.addArgument(0, 'l'), Due.STATE);
        full("of an open type", x -> x.addArgument(5, 'l'), Due.ARGUMENT);
        full("of no category", x -> x.addArgument(0, 'L'), Due.ARGUMENT);
        full("of no type", x -> x.addArgument(99, 'l'), Due.INDEX);
    }

    /** Promises 25, 26, 29 and 30. */
    private void questions() {
        some("candidates in no namespace, no name", x -> x.candidates(3, 6), Due.INDEX);
        some("candidates of no name", x -> x.candidates(0, 6), Due.ARGUMENT);
        empty("whether no function is viable", x -> x.isViable(0), Due.INDEX);
        some("whether no function is viable", x -> x.isViable(5), Due.INDEX);
        some("resolving in no namespace, no name", x -> x.resolve(-1, -1), Due.INDEX);
        some("resolving no name", x -> x.resolve(0, -1), Due.ARGUMENT);
        some("resolving anew in no namespace, no name", x -> x.resolveAnew(3, 6), Due.INDEX);
        some("resolving anew no name", x -> x.resolveAnew(0, 6), Due.ARGUMENT);
    }

    /** Promise 27. */
    private void comings() {
        empty("to no function", x -> x.coming(0, 0), Due.INDEX);
        some("to no function", x -> x.coming(5, 0), Due.INDEX);
        some("of no argument", x -> x.coming(0, 1), Due.INDEX);
        some("of no argument, not viable", x -> x.coming(3, 1), Due.INDEX);
        some("not viable", x -> x.coming(3, 0), Due.STATE);
        some("not viable without parameters", x -> x.coming(4, 0), Due.STATE);
    }

    /** Promise 28. */
    private void deducedTypes() {
        some("in no function", x -> x.deduced(5, 0), Due.INDEX);
        some("for no parameter, not viable", x -> x.deduced(3, 3), Due.INDEX);
        some("not viable", x -> x.deduced(3, 0), Due.STATE);
        some("stands for nothing", x -> x.deduced(0, 0), Due.NO_ELEMENT);
        some("stands for nothing in a template", x -> x.deduced(1, 1), Due.NO_ELEMENT);
        Twins.Life life = RefusedCallsTest::deducedTooMany;
        twins.refuse("one type too many", life, x -> x.deduced(0, 0), Due.UNSUPPORTED);
        twins.refuse("stands for nothing, too many types", life, x -> x.deduced(0, 1), Due.NO_ELEMENT);
        twins.refuse("not viable, too many types", life, x -> x.deduced(1, 0), Due.STATE);
        twins.refuse("for no parameter, too many types", life, x -> x.deduced(0, 3), Due.INDEX);
    }

    /** Function 0 takes a base of the argument, with a type in it that has no number, when there are 150 types. */
    private static Overloadery deducedTooMany() {
        Overloadery x = new Overloadery();
        x.addTemplate(1);
        x.addTemplate(1);
        Notation all = new Notation(x, 1, 1);
        x.setBase(0, -1, all.type("QQx"));
        Lives.function(x, 0, 0, 'v', all.type("Qx"));
        Lives.function(x, 0, 1, 'r', 4);
        x.addArgument(all.type("P2"), 'l');
        Lives.fillTypes(x, 150);
        return x;
    }

    /** Promises 31 and 32. */
    private void methods() {
        empty("of no class", x -> x.override(0, 0, true), Due.INDEX);
        some("of no class, no method", x -> x.override(5, 4, true), Due.INDEX);
        some("no method", x -> x.override(0, 4, true), Due.ARGUMENT);
        some("no method, not any more", x -> x.override(0, -1, false), Due.ARGUMENT);
        some("overrider of no class, no method", x -> x.overrider(-1, -1), Due.INDEX);
        some("overrider of no method", x -> x.overrider(0, 4), Due.ARGUMENT);
    }

    /** Promises 33 and 34. */
    private void bodies() {
        empty("of no class", x -> x.setBody(0, 0, true), Due.INDEX);
        some("of no class, no method", x -> x.setBody(5, 4, true), Due.INDEX);
        some("no method", x -> x.setBody(4, 4, true), Due.ARGUMENT);
        made("no method", x -> x.setBody(4, -2, true), Due.ARGUMENT);
        empty("throwing of no class", x -> x.setThrow(0, 1), Due.INDEX);
        some("throwing of no class, too many times", x -> x.setThrow(5, 100), Due.INDEX);
        some("too many times", x -> x.setThrow(2, 100), Due.ARGUMENT);
        made("too few times", x -> x.setThrow(2, -1), Due.ARGUMENT);
    }

    /** Promises 35 and 36. */
    private void blocks() {
        full("an eleventh block", x -> x.open(true), Due.STATE);
        empty("the first block", x -> x.close(), Due.STATE);
        some("the first block", x -> x.close(), Due.STATE);
        twins.refuse("the first block, with objects in it", RefusedCallsTest::objectsInFirstBlock, x -> x.close(), Due.STATE);
    }

    private static Overloadery objectsInFirstBlock() {
        Overloadery x = Lives.withClasses(2);
        x.make(0, 'a', 3);
        x.make(1, 't', 0);
        return x;
    }

    /** Promise 37. */
    private void makings() {
        empty("of no class", x -> x.make(0, 'o', 0), Due.INDEX);
        some("of no class, no way", x -> x.make(5, 'x', 0), Due.INDEX);
        some("no way", x -> x.make(4, 'x', 1), Due.ARGUMENT);
        some("an array of none", x -> x.make(4, 'a', 0), Due.ARGUMENT);
        made("an array of six", x -> x.make(2, 'a', 6), Due.ARGUMENT);
        full("one more", x -> x.make(0, 'o', 0), Due.STATE);
        full("one temporary more", x -> x.make(11, 't', 0), Due.STATE);
        full("an array", x -> x.make(0, 'a', 5), Due.STATE);
        full("an array of six", x -> x.make(0, 'a', 6), Due.ARGUMENT);
        full("no way", x -> x.make(0, 'x', 1), Due.ARGUMENT);
        full("of no class", x -> x.make(12, 'o', 0), Due.INDEX);
        twins.refuse("more than forty, and one would throw", RefusedCallsTest::throwingBeforeForty, x -> x.make(0, 'a', 5),
                Due.STATE);
    }

    /** There are 36 objects, and the next one of class 0 throws. */
    private static Overloadery throwingBeforeForty() {
        Overloadery x = Lives.withClasses(1);
        x.open(true);
        for (int i = 0; i < 9; i++) {
            x.make(0, 'a', 4);
        }
        x.setThrow(0, 1);
        return x;
    }

    /** Promises 42 to 44. */
    private void traces() {
        empty("a letter", x -> x.traceKind(0), Due.INDEX);
        empty("a class", x -> x.traceClass(0), Due.INDEX);
        empty("an object", x -> x.traceObject(0), Due.INDEX);
        made("a letter behind all", x -> x.traceKind(x.trace()), Due.INDEX);
        made("a class behind all", x -> x.traceClass(x.trace()), Due.INDEX);
        made("an object ahead of all", x -> x.traceObject(-1), Due.INDEX);
        twins.refuse("a letter behind 600", Lives::longTrace, x -> x.traceKind(600), Due.INDEX);
        twins.refuse("a class behind 600", Lives::longTrace, x -> x.traceClass(600), Due.INDEX);
        twins.refuse("an object behind 600", Lives::longTrace, x -> x.traceObject(600), Due.INDEX);
    }

    /** Promises 47 and 48. */
    private void totals() {
        empty("a share of none", x -> x.viableShare(), Due.ARITHMETIC);
        empty("a mean of none", x -> x.meanParts(), Due.ARITHMETIC);
        twins.refuse("a share without functions", RefusedCallsTest::largeTypes, x -> x.viableShare(), Due.ARITHMETIC);
        twins.refuse("a mean without classes", RefusedCallsTest::largeTypes, x -> x.meanParts(), Due.ARITHMETIC);
    }
}
