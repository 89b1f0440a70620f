/** Promises 10 to 14, 19 and 48: each sentence that names a bound, at the last value that is taken and the first refused. */
public final class ClassEdgesTest {
    private final Checks c = new Checks();
    private final Range range = new Range(c);

    public static void main(String[] args) {
        ClassEdgesTest test = new ClassEdgesTest();
        test.namespaceOfNone();
        test.sixNamespaces();
        test.classOfNoNamespace();
        test.twelveClasses();
        test.baseOfNoClass();
        test.baseOfLowerNumber();
        test.eachBaseOnce();
        test.threeBases();
        test.baseBehindObjects();
        test.memberOfNoClass();
        test.memberOfLowerNumber();
        test.threeMembers();
        test.memberBehindObjects();
        test.conversionOfNothing();
        test.conversionOfWhat();
        test.twoConversions();
        test.distanceOfNothing();
        test.distanceOfWhat();
        test.distanceOfNoBase();
        test.distanceOfItself();
        test.severalParts();
        test.eachWayAPart();
        test.leastDistance();
        test.leastDistanceByOne();
        test.longestDistance();
        test.instanceToSixthStep();
        test.instanceToSixthStepByClasses();
        test.instanceToSeveralParts();
        test.meanOfNone();
        test.means();
        test.meanOfTwelve();
        test.c.finish("ClassEdgesTest");
    }

    private void namespaceOfNone() {
        Overloadery x = new Overloadery();
        range.refused("in no namespace", 0, 0, x::addNamespace, Due.INDEX);
        c.due("in the first one", () -> x.addNamespace(0), 1);
        range.refused("in no namespace", 0, 1, x::addNamespace, Due.INDEX);
        c.due("in the last one", () -> x.addNamespace(1), 2);
    }

    /** "the namespace 0, and at most 5 more" */
    private void sixNamespaces() {
        Overloadery x = new Overloadery();
        for (int i = 1; i <= 5; i++) {
            c.due("one more", () -> x.addNamespace(0), i);
        }
        for (int i = 0; i < 6; i++) {
            int outer = i;
            c.due("a seventh in " + i, () -> x.addNamespace(outer), Due.STATE);
        }
        range.refused("a seventh in none", 0, 5, x::addNamespace, Due.INDEX);
        c.due("a class in the last one", () -> x.addClass(5), 0);
    }

    private void classOfNoNamespace() {
        Overloadery x = new Overloadery();
        range.refused("of no namespace", 0, 0, x::addClass, Due.INDEX);
        c.due("of the first one", () -> x.addClass(0), 0);
        for (int i = 0; i < 5; i++) {
            x.addNamespace(0);
        }
        range.refused("of no namespace of six", 0, 5, x::addClass, Due.INDEX);
        c.due("of the last one", () -> x.addClass(5), 1);
    }

    /** "At most 12 classes are numbered from 0" */
    private void twelveClasses() {
        Overloadery x = new Overloadery();
        x.addNamespace(0);
        for (int i = 0; i < 12; i++) {
            c.due("class " + i, () -> x.addClass(0), i);
        }
        c.due("a thirteenth", () -> x.addClass(0), Due.STATE);
        c.due("a thirteenth of another namespace", () -> x.addClass(1), Due.STATE);
        range.refused("a thirteenth of none", 0, 1, x::addClass, Due.INDEX);
        c.due("twelve stay", () -> x.classType(12), Due.INDEX);
    }

    private void baseOfNoClass() {
        Overloadery x = new Overloadery();
        c.due("no class at all", () -> x.addBase(0, 0, false), Due.INDEX);
        Lives.addClasses(x, 3);
        range.refused("no class", 0, 2, v -> x.addBase(v, 0, false), Due.INDEX);
        range.refused("no base", 0, 2, v -> x.addBase(2, v, true), Due.INDEX);
        range.refused("neither", 0, 2, v -> x.addBase(v, v, false), Due.INDEX);
        c.due("the last class, the first base", () -> x.addBase(2, 0, false), 1);
    }

    /** "classes with lower numbers" */
    private void baseOfLowerNumber() {
        Overloadery x = Lives.withClasses(12);
        c.due("the first class itself", () -> x.addBase(0, 0, false), Due.ARGUMENT);
        c.due("a class itself", () -> x.addBase(5, 5, true), Due.ARGUMENT);
        c.due("the next one", () -> x.addBase(5, 6, false), Due.ARGUMENT);
        c.due("the last one", () -> x.addBase(5, 11, false), Due.ARGUMENT);
        c.due("no class ahead of a higher number", () -> x.addBase(5, 12, false), Due.INDEX);
        c.due("the next lower one", () -> x.addBase(5, 4, false), 1);
        c.due("the lowest one", () -> x.addBase(5, 0, false), 2);
        c.due("of the last class", () -> x.addBase(11, 10, false), 1);
    }

    /** "each once, virtual or not" */
    private void eachBaseOnce() {
        Overloadery x = Lives.withClasses(4);
        x.addBase(3, 0, false);
        x.addBase(3, 1, true);
        c.due("again", () -> x.addBase(3, 0, false), Due.ARGUMENT);
        c.due("again, virtual", () -> x.addBase(3, 0, true), Due.ARGUMENT);
        c.due("a virtual one again", () -> x.addBase(3, 1, true), Due.ARGUMENT);
        c.due("a virtual one again, not virtual", () -> x.addBase(3, 1, false), Due.ARGUMENT);
        c.due("that of a base is no own one", () -> x.addBase(1, 0, false), 1);
        c.due("the third", () -> x.addBase(3, 2, true), 3);
        for (int i = 0; i < 3; i++) {
            int base = i;
            c.due("again ahead of a fourth", () -> x.addBase(3, base, false), Due.ARGUMENT);
        }
    }

    /** "a class has at most 3 bases" */
    private void threeBases() {
        Overloadery x = Lives.withClasses(6);
        for (int i = 0; i < 3; i++) {
            int base = i;
            c.due("base " + i, () -> x.addBase(4, base, base == 1), i + 1);
        }
        c.due("a fourth", () -> x.addBase(4, 3, false), Due.STATE);
        c.due("a fourth, virtual", () -> x.addBase(4, 3, true), Due.STATE);
        c.due("a class itself ahead of a fourth", () -> x.addBase(4, 4, false), Due.ARGUMENT);
        c.due("a higher one ahead of a fourth", () -> x.addBase(4, 5, false), Due.ARGUMENT);
        range.refused("no class ahead of a fourth", 0, 5, v -> x.addBase(4, v, false), Due.INDEX);
        c.due("another class has its own three", () -> x.addBase(5, 4, false), 1);
        int four = x.classType(4);
        int three = x.classType(3);
        c.due("the fourth is none", () -> x.distance(four, three), Due.NO_ELEMENT);
    }

    /** "if it has 3, or an object was made" */
    private void baseBehindObjects() {
        for (char how : "oatl".toCharArray()) {
            Overloadery x = Lives.withClasses(4);
            c.due("ahead of it", () -> x.addBase(3, 0, false), 1);
            x.make(0, how, 1);
            c.due("behind " + how, () -> x.addBase(3, 1, false), Due.STATE);
            c.due("of another class", () -> x.addBase(2, 1, true), Due.STATE);
            c.due("again ahead of it", () -> x.addBase(3, 0, false), Due.ARGUMENT);
            c.due("a higher one ahead of it", () -> x.addBase(2, 3, false), Due.ARGUMENT);
            c.due("no class ahead of it", () -> x.addBase(4, 0, false), Due.INDEX);
            x.endExpression();
            x.raise();
            c.due("none is left", x::living, 0);
            c.due("behind " + how + " that is gone", () -> x.addBase(3, 1, false), Due.STATE);
            c.due("a new class", () -> x.addClass(0), 4);
            c.due("of a new class", () -> x.addBase(4, 1, false), Due.STATE);
        }
        Overloadery x = Lives.withClasses(2);
        c.due("a make that is refused", () -> x.make(0, 'a', 6), Due.ARGUMENT);
        c.due("makes no object", () -> x.addBase(1, 0, false), 1);
    }

    private void memberOfNoClass() {
        Overloadery x = new Overloadery();
        c.due("no class at all", () -> x.addMember(0, 0), Due.INDEX);
        Lives.addClasses(x, 3);
        range.refused("no class", 0, 2, v -> x.addMember(v, 0), Due.INDEX);
        range.refused("no member", 0, 2, v -> x.addMember(2, v), Due.INDEX);
        range.refused("neither", 0, 2, v -> x.addMember(v, v), Due.INDEX);
        c.due("the last class, the first member", () -> x.addMember(2, 0), 1);
    }

    private void memberOfLowerNumber() {
        Overloadery x = Lives.withClasses(12);
        c.due("the first class itself", () -> x.addMember(0, 0), Due.ARGUMENT);
        c.due("a class itself", () -> x.addMember(5, 5), Due.ARGUMENT);
        c.due("the next one", () -> x.addMember(5, 6), Due.ARGUMENT);
        c.due("the last one", () -> x.addMember(5, 11), Due.ARGUMENT);
        c.due("no class ahead of a higher number", () -> x.addMember(5, 12), Due.INDEX);
        c.due("the next lower one", () -> x.addMember(5, 4), 1);
        c.due("the lowest one", () -> x.addMember(5, 0), 2);
        c.due("a base can be a member", () -> x.addBase(5, 4, false), 1);
    }

    /** "at most 3 members" */
    private void threeMembers() {
        Overloadery x = Lives.withClasses(4);
        for (int i = 1; i <= 3; i++) {
            c.due("the same one, time " + i, () -> x.addMember(2, 1), i);
        }
        c.due("a fourth", () -> x.addMember(2, 1), Due.STATE);
        c.due("another fourth", () -> x.addMember(2, 0), Due.STATE);
        c.due("a class itself ahead of a fourth", () -> x.addMember(2, 2), Due.ARGUMENT);
        c.due("a higher one ahead of a fourth", () -> x.addMember(2, 3), Due.ARGUMENT);
        range.refused("no class ahead of a fourth", 0, 3, v -> x.addMember(2, v), Due.INDEX);
        c.due("another class has its own three", () -> x.addMember(3, 1), 1);
        x.make(2, 'o', 0);
        c.due("three are made", x::made, 4);
    }

    private void memberBehindObjects() {
        for (char how : "oatl".toCharArray()) {
            Overloadery x = Lives.withClasses(3);
            c.due("ahead of it", () -> x.addMember(2, 0), 1);
            x.make(0, how, 1);
            c.due("behind " + how, () -> x.addMember(2, 0), Due.STATE);
            c.due("a higher one ahead of it", () -> x.addMember(1, 2), Due.ARGUMENT);
            c.due("no class ahead of it", () -> x.addMember(1, 3), Due.INDEX);
            x.raise();
            c.due("behind " + how + " that is gone", () -> x.addMember(1, 0), Due.STATE);
        }
        Overloadery x = Lives.withClasses(2);
        c.due("a make that is refused", () -> x.make(1, 'x', 0), Due.ARGUMENT);
        c.due("makes no object", () -> x.addMember(1, 0), 1);
    }

    private void conversionOfNothing() {
        Overloadery x = new Overloadery();
        c.due("no class at all", () -> x.addConversion(0, 0, true), Due.INDEX);
        Lives.addClasses(x, 2);
        for (boolean isFrom : new boolean[] {true, false}) {
            range.refused("no class", 0, 1, v -> x.addConversion(v, 0, isFrom), Due.INDEX);
            range.refused("no type", 0, 4, v -> x.addConversion(1, v, isFrom), Due.INDEX);
            c.due("the last type", () -> x.addConversion(1, 4, isFrom), 1);
            c.due("the first type", () -> x.addConversion(1, 0, isFrom), 2);
            range.refused("no type ahead of a third", 0, 4, v -> x.addConversion(1, v, isFrom), Due.INDEX);
        }
    }

    /** "if the type is open, or that of the class itself, or is told already" */
    private void conversionOfWhat() {
        Overloadery x = Lives.withClasses(3);
        x.addTemplate(1);
        int t0 = x.parameter(0);
        int own = x.classType(1);
        int other = x.classType(2);
        int pointer = x.pointerTo(own);
        int instance = x.instance(0, own, -1);
        int[] open = {t0, x.pointerTo(t0), x.instance(0, t0, -1), x.instance(0, x.pointerTo(t0), -1)};
        for (boolean isFrom : new boolean[] {true, false}) {
            for (int type : open) {
                c.due("an open one", () -> x.addConversion(1, type, isFrom), Due.ARGUMENT);
            }
            c.due("the class itself", () -> x.addConversion(1, own, isFrom), Due.ARGUMENT);
            c.due("a pointer to it", () -> x.addConversion(1, pointer, isFrom), 1);
            c.due("that again", () -> x.addConversion(1, pointer, isFrom), Due.ARGUMENT);
            c.due("an instance with it", () -> x.addConversion(1, instance, isFrom), 2);
            c.due("an open one ahead of a third", () -> x.addConversion(1, t0, isFrom), Due.ARGUMENT);
            c.due("the class itself ahead of a third", () -> x.addConversion(1, own, isFrom), Due.ARGUMENT);
            c.due("the first again ahead of a third", () -> x.addConversion(1, pointer, isFrom), Due.ARGUMENT);
            c.due("the second again ahead of a third", () -> x.addConversion(1, instance, isFrom), Due.ARGUMENT);
            c.due("a third", () -> x.addConversion(1, other, isFrom), Due.STATE);
            c.due("for another class", () -> x.addConversion(2, own, isFrom), 1);
            c.due("no class ahead of an open type", () -> x.addConversion(3, t0, isFrom), Due.INDEX);
        }
    }

    /** "It can be made from a type, at most 2 are told so, and become a type, at most 2 likewise" */
    private void twoConversions() {
        Overloadery x = Lives.withClasses(12);
        for (int cls = 0; cls < 12; cls += 11) {
            int one = cls;
            c.due("from one", () -> x.addConversion(one, 2, true), 1);
            c.due("to one", () -> x.addConversion(one, 2, false), 1);
            c.due("from two", () -> x.addConversion(one, 3, true), 2);
            c.due("from three", () -> x.addConversion(one, 4, true), Due.STATE);
            c.due("to two", () -> x.addConversion(one, 4, false), 2);
            c.due("to three", () -> x.addConversion(one, 3, false), Due.STATE);
        }
        c.due("behind an object", () -> x.make(1, 'o', 0), 'm');
        c.due("as well", () -> x.addConversion(1, 0, true), 1);
    }

    private void distanceOfNothing() {
        Overloadery x = Lives.withClasses(1);
        int cls = x.classType(0);
        range.refused("from no type", 0, cls, v -> x.distance(v, cls), Due.INDEX);
        range.refused("to no type", 0, cls, v -> x.distance(cls, v), Due.INDEX);
        range.refused("no type and no class", 0, cls, v -> x.distance(v, 0), Due.INDEX);
        range.refused("no class and no type", 0, cls, v -> x.distance(0, v), Due.INDEX);
        c.due("the last type", () -> x.distance(cls, cls), 0);
    }

    /** "if one of both is neither a class nor an instance, or is open" */
    private void distanceOfWhat() {
        Overloadery x = Lives.withClasses(1);
        x.addTemplate(1);
        int cls = x.classType(0);
        int t0 = x.parameter(0);
        int instance = x.instance(0, cls, -1);
        x.setBase(0, -1, cls);
        int[] others = {0, 4, t0, x.pointerTo(cls), x.pointerTo(t0), x.instance(0, t0, -1)};
        for (int other : others) {
            c.due("from " + other, () -> x.distance(other, cls), Due.ARGUMENT);
            c.due("to " + other, () -> x.distance(instance, other), Due.ARGUMENT);
            c.due("to itself, " + other, () -> x.distance(other, other), Due.ARGUMENT);
        }
        c.due("from an instance to a class", () -> x.distance(instance, cls), 1);
    }

    private void distanceOfNoBase() {
        Overloadery x = Lives.withClasses(3);
        x.addTemplate(1);
        x.addBase(1, 0, false);
        int zero = x.classType(0);
        int one = x.classType(1);
        int two = x.classType(2);
        int instance = x.instance(0, 0, -1);
        int other = x.instance(0, 1, -1);
        c.due("a base", () -> x.distance(one, zero), 1);
        c.due("the other way round", () -> x.distance(zero, one), Due.NO_ELEMENT);
        c.due("another class", () -> x.distance(two, zero), Due.NO_ELEMENT);
        c.due("an instance without a base", () -> x.distance(instance, zero), Due.NO_ELEMENT);
        c.due("a class and an instance", () -> x.distance(zero, instance), Due.NO_ELEMENT);
        c.due("two instances", () -> x.distance(instance, other), Due.NO_ELEMENT);
        x.setBase(0, -1, zero);
        c.due("a base of the class's kin", () -> x.distance(instance, one), Due.NO_ELEMENT);
        c.due("an instance's base", () -> x.distance(instance, zero), 1);
    }

    /** "or 0 for the type itself" */
    private void distanceOfItself() {
        Overloadery x = Lives.withClasses(1);
        x.addTemplate(1);
        int cls = x.classType(0);
        int instance = x.instance(0, cls, -1);
        c.due("a class", () -> x.distance(cls, cls), 0);
        c.due("an instance", () -> x.distance(instance, instance), 0);
        x.setBase(0, -1, instance);
        c.due("an instance that is its own base", () -> x.distance(instance, instance), 0);
    }

    /** "if there are several parts of it" */
    private void severalParts() {
        for (int virtuals = 0; virtuals < 4; virtuals++) {
            Overloadery x = Lives.withClasses(4);
            x.addBase(1, 0, (virtuals & 1) != 0);
            x.addBase(2, 0, (virtuals & 2) != 0);
            x.addBase(3, 1, false);
            x.addBase(3, 2, false);
            int zero = x.classType(0);
            int one = x.classType(1);
            int three = x.classType(3);
            boolean isSole = virtuals == 3;
            c.due("two ways, virtual " + virtuals, () -> x.distance(three, zero), isSole ? 2 : Due.UNSUPPORTED);
            c.due("one way", () -> x.distance(three, one), 1);
            c.due("to a base of which there is one part", () -> x.distance(one, zero), 1);
        }
    }

    /** "A class has one part for each way to a base; but all ways through a virtual base come to one part of this" */
    private void eachWayAPart() {
        Overloadery x = Lives.withClasses(6);
        x.addBase(1, 0, false);
        x.addBase(2, 1, true);
        x.addBase(3, 1, true);
        x.addBase(4, 2, false);
        x.addBase(4, 3, false);
        x.addBase(5, 4, false);
        x.addBase(5, 0, false);
        int zero = x.classType(0);
        int four = x.classType(4);
        int five = x.classType(5);
        c.due("one part behind a virtual base", () -> x.distance(four, zero), 3);
        c.due("and one beside it", () -> x.distance(five, zero), Due.UNSUPPORTED);
        c.due("parts", x::meanParts, (1 + 2 + 3 + 3 + 5 + 7) / 6.0);
    }

    /** "The distance to a base is the least number of steps to it." */
    private void leastDistance() {
        for (boolean isShortFirst : new boolean[] {true, false}) {
            Overloadery x = Lives.withClasses(5);
            x.addBase(1, 0, true);
            x.addBase(2, 1, false);
            x.addBase(3, 2, false);
            if (isShortFirst) x.addBase(4, 0, true);
            x.addBase(4, 3, false);
            if (!isShortFirst) x.addBase(4, 0, true);
            int zero = x.classType(0);
            int four = x.classType(4);
            int three = x.classType(3);
            c.due("the short way", () -> x.distance(four, zero), 1);
            c.due("the only way", () -> x.distance(three, zero), 3);
        }
    }

    private void leastDistanceByOne() {
        for (boolean isShortFirst : new boolean[] {true, false}) {
            Overloadery x = Lives.withClasses(3);
            x.addBase(1, 0, true);
            x.addBase(2, isShortFirst ? 0 : 1, true);
            x.addBase(2, isShortFirst ? 1 : 0, true);
            int zero = x.classType(0);
            int two = x.classType(2);
            c.due("one step, though there is a way of two", () -> x.distance(two, zero), 1);
        }
    }

    /** The sixth step is a bound for instances alone: classes can lead to one another by eleven. */
    private void longestDistance() {
        Overloadery x = Lives.withClasses(12);
        for (int i = 1; i < 12; i++) {
            x.addBase(i, i - 1, i % 2 == 0);
        }
        for (int i = 0; i < 12; i++) {
            x.classType(i);
        }
        for (int i = 0; i < 12; i++) {
            int steps = i;
            c.due(i + " steps", () -> x.distance(5 + 11, 5 + 11 - steps), i);
        }
    }

    /** "Instances and classes that are bases of it, looked at to the 6th step at most" */
    private void instanceToSixthStep() {
        Overloadery x = Lives.withClasses(1);
        x.addTemplate(1);
        int t0 = x.parameter(0);
        int cls = x.classType(0);
        x.specialise(0, x.pointerTo(t0), -1);
        x.setBase(0, 0, x.instance(0, t0, -1));
        x.setBase(0, -1, cls);
        int[] instances = new int[8];
        for (int i = 0; i < 8; i++) {
            instances[i] = x.instance(0, Lives.tower(x, 2, i + 1), -1);
        }
        for (int i = 0; i < 8; i++) {
            int steps = i;
            Object toInstance = i <= 6 ? i : Due.NO_ELEMENT;
            Object toClass = i + 1 <= 6 ? i + 1 : Due.NO_ELEMENT;
            c.due("an instance by " + i, () -> x.distance(instances[steps], instances[0]), toInstance);
            c.due("a class by " + (i + 1), () -> x.distance(instances[steps], cls), toClass);
        }
    }

    /** "those of a class counted on" */
    private void instanceToSixthStepByClasses() {
        Overloadery x = Lives.withClasses(9);
        for (int i = 1; i < 9; i++) {
            x.addBase(i, i - 1, i % 3 == 0);
        }
        x.addTemplate(1);
        int t0 = x.parameter(0);
        x.specialise(0, x.pointerTo(t0), -1);
        x.setBase(0, 0, x.instance(0, t0, -1));
        int[] classes = new int[9];
        for (int i = 0; i < 9; i++) {
            classes[i] = x.classType(i);
        }
        x.setBase(0, -1, classes[8]);
        for (int i = 0; i < 7; i++) {
            int instance = x.instance(0, Lives.tower(x, 2, i + 1), -1);
            for (int j = 0; j < 9; j++) {
                int cls = classes[8 - j];
                int steps = i + 1 + j;
                c.due(steps + " steps, " + j + " of them by classes", () -> x.distance(instance, cls),
                        steps <= 6 ? steps : Due.NO_ELEMENT);
            }
        }
    }

    /** "an instance leads to each of them, also to a class of which there are several parts" */
    private void instanceToSeveralParts() {
        Overloadery x = Lives.withClasses(4);
        x.addBase(1, 0, false);
        x.addBase(2, 0, false);
        x.addBase(3, 1, false);
        x.addBase(3, 2, false);
        x.addTemplate(1);
        int zero = x.classType(0);
        int three = x.classType(3);
        x.setBase(0, -1, three);
        int instance = x.instance(0, 2, -1);
        c.due("a class with several parts", () -> x.distance(three, zero), Due.UNSUPPORTED);
        c.due("an instance of it", () -> x.distance(instance, zero), 3);
    }

    private void meanOfNone() {
        Overloadery x = new Overloadery();
        c.due("no classes", x::meanParts, Due.ARITHMETIC);
        x.addTemplate(1);
        x.addFunction(0, 0, false);
        c.due("templates and functions are none", x::meanParts, Due.ARITHMETIC);
        x.addClass(0);
        c.due("one class", x::meanParts, 1.0);
    }

    /** "Their sum divided by the number of classes, both converted to double." */
    private void means() {
        Overloadery x = Lives.withClasses(3);
        c.due("three of one part", x::meanParts, 1.0);
        x.addBase(1, 0, false);
        c.due("4 by 3", x::meanParts, 4.0 / 3.0);
        x.addBase(2, 1, true);
        c.due("6 by 3", x::meanParts, 2.0);
        x.addMember(2, 0);
        c.due("members are none", x::meanParts, 2.0);
        x.addBase(2, 0, false);
        c.due("7 by 3", x::meanParts, 7.0 / 3.0);
        x.addClass(0);
        c.due("8 by 4", x::meanParts, 2.0);
    }

    private void meanOfTwelve() {
        Overloadery x = Lives.withClasses(12);
        int[] parts = new int[12];
        int sum = 0;
        for (int i = 0; i < 12; i++) {
            parts[i] = 1;
            for (int j = Math.max(0, i - 3); j < i; j++) {
                x.addBase(i, j, false);
                parts[i] += parts[j];
            }
            sum += parts[i];
        }
        double want = sum / 12.0;
        c.due("twelve classes with all their ways", x::meanParts, want);
    }
}
