/** Promises 31 to 46: each sentence that names a bound, at the last value that is taken and the first that is refused. */
public final class ObjectEdgesTest {
    private final Checks c = new Checks();
    private final Range range = new Range(c);

    public static void main(String[] args) {
        ObjectEdgesTest test = new ObjectEdgesTest();
        test.overrideOfNothing();
        test.overrideOfEachMethod();
        test.overriderOfNothing();
        test.overriderAtFirst();
        test.overriderOfNoneOneOrSeveral();
        test.overriderWithLaterBases();
        test.bodyOfNothing();
        test.methodsOfBodies();
        test.throwOfNothing();
        test.timesUpToTheLast();
        test.timesOnce();
        test.timesCountedFromThenOn();
        test.timesOfParts();
        test.tenBlocks();
        test.firstBlockStays();
        test.makeOfNothing();
        test.everyBodyThrows();
        test.virtualBasesToldLater();
        test.oneToFiveOfAnArray();
        test.manyOfNoMeaning();
        test.fortyObjects();
        test.fortyObjectsByArrays();
        test.fortyObjectsWithMembers();
        test.roomAgain();
        test.refusedWhenFull();
        test.answersOfMake();
        test.endOfExpression();
        test.fortyTemporaries();
        test.raising();
        test.raisingThroughTenBlocks();
        test.c.finish("ObjectEdgesTest");
    }

    private void totals(String name, Overloadery x, int living, int made, int takenDown) {
        c.due(name + ", living", x::living, living);
        c.due(name + ", made", x::made, made);
        c.due(name + ", taken down", x::takenDown, takenDown);
    }

    private void overrideOfNothing() {
        Overloadery x = new Overloadery();
        c.due("no class at all", () -> x.override(0, 0, true), Due.INDEX);
        Lives.addClasses(x, 12);
        range.refused("no class", 0, 11, v -> x.override(v, 0, true), Due.INDEX);
        range.refused("no method", 0, 3, v -> x.override(0, v, true), Due.ARGUMENT);
        range.refused("neither", 0, 11, v -> x.override(v, v, false), Due.INDEX);
        c.due("the last class, the last method", () -> x.override(11, 3, true), false);
        c.due("the first class, the first method", () -> x.override(0, 0, true), false);
        c.due("the last ones again", () -> x.override(11, 3, true), true);
    }

    private void overrideOfEachMethod() {
        Overloadery x = Lives.withClasses(2);
        for (int i = 0; i < 8; i++) {
            int cls = i / 4;
            int method = i % 4;
            c.due("not before " + i, () -> x.override(cls, method, true), false);
            for (int j = 0; j < 8; j++) {
                int other = j / 4;
                int its = j % 4;
                c.due("each alone, " + i + " and " + j, () -> x.overrider(other, its), j <= i ? other : -1);
            }
        }
        c.due("it did", () -> x.override(0, 0, false), true);
        c.due("it does not", () -> x.override(0, 0, false), false);
        c.due("the others do", () -> x.override(0, 3, false), true);
    }

    private void overriderOfNothing() {
        Overloadery x = new Overloadery();
        c.due("no class at all", () -> x.overrider(0, 0), Due.INDEX);
        Lives.addClasses(x, 12);
        range.refused("no class", 0, 11, v -> x.overrider(v, 0), Due.INDEX);
        range.refused("no method", 0, 3, v -> x.overrider(0, v), Due.ARGUMENT);
        range.refused("neither", 0, 11, v -> x.overrider(v, v), Due.INDEX);
        x.override(11, 3, true);
        c.due("the last class, the last method", () -> x.overrider(11, 3), 11);
        c.due("the first class, the first method", () -> x.overrider(0, 0), -1);
    }

    private void overriderAtFirst() {
        Overloadery x = Lives.withClasses(12);
        for (int i = 0; i < 48; i++) {
            int cls = i / 4;
            int method = i % 4;
            c.due("none yet, " + i, () -> x.overrider(cls, method), -1);
        }
        x.setBody(0, 0, false);
        x.make(0, 'o', 0);
        c.due("none to speak", () -> x.traceClass(1), -1);
    }

    /** "-1 if none does, -2 if there are several" */
    private void overriderOfNoneOneOrSeveral() {
        Overloadery x = Lives.withClasses(7);
        for (int i = 0; i < 3; i++) {
            x.addBase(3, i, i == 1);
        }
        x.addBase(4, 3, false);
        x.addBase(5, 0, false);
        x.addBase(6, 4, true);
        x.addBase(6, 5, true);
        c.due("none", () -> x.overrider(4, 2), -1);
        for (int i = 0; i < 3; i++) {
            x.override(i, 2, true);
            c.due((i + 1) + " of three", () -> x.overrider(4, 2), i == 0 ? 0 : -2);
        }
        x.override(3, 2, true);
        c.due("the one behind all three", () -> x.overrider(4, 2), 3);
        c.due("itself", () -> x.overrider(3, 2), 3);
        c.due("a base that is one of another base is none", () -> x.overrider(6, 2), 3);
        x.override(5, 2, true);
        c.due("two that are no bases of one another", () -> x.overrider(6, 2), -2);
        x.override(6, 2, true);
        c.due("its own ahead of several", () -> x.overrider(6, 2), 6);
        x.override(6, 2, false);
        x.override(3, 2, false);
        x.override(1, 2, false);
        x.override(2, 2, false);
        c.due("one is a base of the other", () -> x.overrider(6, 2), 5);
        c.due("the class by two ways is one", () -> x.overrider(4, 2), 0);
    }

    private void overriderWithLaterBases() {
        Overloadery x = Lives.withClasses(4);
        x.addBase(3, 2, false);
        x.override(0, 0, true);
        x.override(1, 0, true);
        c.due("no base yet", () -> x.overrider(3, 0), -1);
        x.addBase(2, 1, true);
        c.due("a base of a base", () -> x.overrider(3, 0), 1);
        x.addBase(1, 0, false);
        c.due("one behind it", () -> x.overrider(3, 0), 1);
        x.addBase(3, 0, false);
        c.due("that once more", () -> x.overrider(3, 0), 1);
        x.override(1, 0, false);
        c.due("that alone", () -> x.overrider(3, 0), 0);
    }

    private void bodyOfNothing() {
        Overloadery x = new Overloadery();
        c.due("no class at all", () -> x.setBody(0, 0, false), Due.INDEX);
        Lives.addClasses(x, 12);
        range.refused("no class", 0, 11, v -> x.setBody(v, 0, true), Due.INDEX);
        range.refused("no method", -1, 3, v -> x.setBody(0, v, true), Due.ARGUMENT);
        range.refused("neither", -1, 11, v -> x.setBody(v, v, true), Due.INDEX);
        c.due("the last class, the last method", () -> x.setBody(11, 3, false), -1);
        c.due("the first class, none", () -> x.setBody(0, -1, false), -1);
        c.due("the last class, none", () -> x.setBody(11, -1, false), 3);
    }

    /** "the method that it speaks, 0 to 3, or -1 for none, as at first"; "whether it delegates, not at first" */
    private void methodsOfBodies() {
        Overloadery x = Lives.withClasses(1);
        x.make(0, 'o', 0);
        c.due("a 'C' alone at first", x::trace, 1);
        int before = -1;
        for (int method = -1; method <= 3; method++) {
            int next = method;
            int was = before;
            c.due("before " + method, () -> x.setBody(0, next, true), was);
            c.due("refused", () -> x.setBody(0, 4, false), Due.ARGUMENT);
            int from = x.trace();
            x.make(0, 'o', 0);
            c.due("entries with " + method, () -> x.trace() - from, method < 0 ? 2 : 3);
            before = method;
        }
        int last = before;
        c.due("not any more", () -> x.setBody(0, -1, false), last);
        int from = x.trace();
        x.make(0, 'o', 0);
        c.due("a 'C' alone", () -> x.trace() - from, 1);
    }

    private void throwOfNothing() {
        Overloadery x = new Overloadery();
        c.due("no class at all", () -> x.setThrow(0, 0), Due.INDEX);
        Lives.addClasses(x, 12);
        range.refused("no class", 0, 11, v -> x.setThrow(v, 1), Due.INDEX);
        range.refused("times", 0, 99, v -> x.setThrow(0, v), Due.ARGUMENT);
        range.refused("neither", 0, 99, v -> x.setThrow(v, v), Due.INDEX);
        c.due("the last class, the most times", () -> x.setThrow(11, 99), 0);
        c.due("the first class, the fewest times", () -> x.setThrow(0, 0), 0);
        c.due("one", () -> x.setThrow(0, 1), 0);
        c.due("the last class again", () -> x.setThrow(11, 0), 99);
        c.due("the first class again", () -> x.setThrow(0, 0), 1);
    }

    /** "at the so many-th time that it is made", "1 to 99, or 0 for not" */
    private void timesUpToTheLast() {
        for (int times : new int[] {1, 2, 50, 98, 99}) {
            Overloadery x = Lives.withClasses(1);
            x.setThrow(0, times);
            for (int i = 1; i < times; i++) {
                c.due("time " + i + " of " + times, () -> x.make(0, 't', 0), 'm');
                x.endExpression();
            }
            c.due("the last time of " + times, () -> x.make(0, 't', 0), 'u');
            totals("of " + times, x, 0, times - 1, times - 1);
            c.due("none is left", () -> x.setThrow(0, 0), 0);
        }
        Overloadery x = Lives.withClasses(1);
        x.setThrow(0, 1);
        x.setThrow(0, 0);
        for (int i = 0; i < 110; i++) {
            c.due("told not to", () -> x.make(0, 't', 0), 'm');
            x.endExpression();
        }
    }

    /** "once" */
    private void timesOnce() {
        Overloadery x = Lives.withClasses(1);
        x.setThrow(0, 2);
        c.due("the first", () -> x.make(0, 't', 0), 'm');
        c.due("the second", () -> x.make(0, 't', 0), 'u');
        for (int i = 0; i < 5; i++) {
            c.due("behind it", () -> x.make(0, 't', 0), 'm');
        }
        c.due("nothing left", () -> x.setThrow(0, 1), 0);
        c.due("told once more", () -> x.make(0, 't', 0), 'u');
    }

    /** "counted from then on", "in place of an earlier telling", "Returns how many times were left" */
    private void timesCountedFromThenOn() {
        Overloadery x = Lives.withClasses(2);
        x.make(0, 'a', 3);
        c.due("what was made ahead does not count", () -> x.setThrow(0, 3), 0);
        x.make(0, 'a', 2);
        x.make(1, 'a', 5);
        c.due("two of three are counted, another class not", () -> x.setThrow(0, 3), 1);
        x.make(0, 'a', 2);
        c.due("two of the new three", () -> x.make(0, 'o', 0), 'u');
        c.due("none left", () -> x.setThrow(0, 99), 0);
        c.due("a refused telling", () -> x.setThrow(0, 100), Due.ARGUMENT);
        c.due("leaves the earlier one", () -> x.setThrow(0, 0), 99);
    }

    private void timesOfParts() {
        Overloadery x = Lives.withClasses(3);
        x.addBase(1, 0, false);
        x.addMember(1, 0);
        x.addMember(1, 0);
        x.addBase(2, 1, false);
        x.addBase(2, 0, true);
        x.setThrow(0, 99);
        x.make(2, 'o', 0);
        c.due("each part and each member counts", () -> x.setThrow(0, 5), 95);
        c.due("four more by one object", () -> x.make(2, 'o', 0), 'm');
        c.due("the fifth is the first part of the next one", () -> x.make(1, 'o', 0), 'u');
        totals("all others", x, 0, 12, 12);
    }

    /** "Throws IllegalStateException if there are 10" */
    private void tenBlocks() {
        for (boolean isTry : new boolean[] {true, false}) {
            Overloadery x = new Overloadery();
            for (int i = 2; i <= 10; i++) {
                c.due("block " + i, () -> x.open(isTry), i);
            }
            c.due("an eleventh", () -> x.open(isTry), Due.STATE);
            c.due("an eleventh of the other sort", () -> x.open(!isTry), Due.STATE);
            c.due("nine are left", x::close, 9);
            c.due("the tenth again", () -> x.open(isTry), 10);
            c.due("an eleventh again", () -> x.open(isTry), Due.STATE);
            for (int i = 9; i >= 1; i--) {
                c.due("left are " + i, x::close, i);
            }
        }
    }

    /** "if it is the first one" */
    private void firstBlockStays() {
        Overloadery x = Lives.withClasses(1);
        x.make(0, 'o', 0);
        x.make(0, 't', 0);
        c.due("the first one", x::close, Due.STATE);
        totals("nothing is taken down", x, 2, 2, 0);
        c.due("a second one", () -> x.open(true), 2);
        c.due("it can be closed", x::close, 1);
        totals("temporaries are gone", x, 1, 2, 1);
        c.due("the first one again", x::close, Due.STATE);
    }

    private void makeOfNothing() {
        Overloadery x = new Overloadery();
        c.due("no class at all", () -> x.make(0, 'o', 0), Due.INDEX);
        Lives.addClasses(x, 12);
        range.refused("no class", 0, 11, v -> x.make(v, 'o', 1), Due.INDEX);
        range.refused("no class and no way", 0, 11, v -> x.make(v, 'x', 1), Due.INDEX);
        range.refused("no class and no number", 0, 11, v -> x.make(v, 'a', 6), Due.INDEX);
        range.refusedBut("oatl", "no way", v -> x.make(0, v, 1), Due.ARGUMENT);
        totals("nothing is made", x, 0, 0, 0);
        c.due("no entry", x::trace, 0);
        c.due("the last class", () -> x.make(11, 'o', 0), 'm');
        c.due("the first class", () -> x.make(0, 'o', 0), 'm');
        c.due("the first number is 0", () -> x.traceObject(0), 0);
        c.due("the second is 1", () -> x.traceObject(1), 1);
    }

    private static String trace(Overloadery x) {
        StringBuilder text = new StringBuilder();
        int length = x.trace();
        for (int i = 0; i < length; i++) {
            text.append(x.traceKind(i)).append(x.traceClass(i)).append('.').append(x.traceObject(i)).append(' ');
        }
        return text.toString();
    }

    /** "what was made of this object is taken down in reverse, and it is thrown on" */
    private void everyBodyThrows() {
        Overloadery all = Lives.withAllSorts();
        all.make(7, 'o', 0);
        String[] bodies = trace(all).split("C");
        int count = bodies.length - 1;
        c.due("all bodies", all::made, (long) count);
        StringBuilder made = new StringBuilder();
        StringBuilder back = new StringBuilder();
        int[] times = new int[8];
        for (int i = 1; i <= count; i++) {
            String body = bodies[i];
            int before = i - 1;
            int cls = body.charAt(0) - '0';
            times[cls]++;
            Overloadery x = Lives.withAllSorts();
            x.setThrow(cls, times[cls]);
            String want = made + "X" + body + back;
            c.due("body " + i + " throws", () -> x.make(7, 'o', 0), 'u');
            c.due("body " + i + " in the trace", () -> trace(x), want);
            totals("body " + i, x, 0, before, before);
            made.append('C').append(body);
            back.insert(0, "D" + body);
        }
        Overloadery last = Lives.withAllSorts();
        last.make(7, 'o', 0);
        last.raise();
        c.due("in exact reverse", () -> trace(last), "" + made + back);
    }

    /** "in the order in which they are met, .. walking through bases from the first one on" */
    private void virtualBasesToldLater() {
        Overloadery x = Lives.withClasses(5);
        x.addBase(4, 2, false);
        x.addBase(4, 3, false);
        x.addBase(3, 0, true);
        x.addBase(2, 1, true);
        x.make(4, 'o', 0);
        c.due("that of the first base first", () -> trace(x), "C1.0 C0.0 C2.0 C3.0 C4.0 ");
        Overloadery y = Lives.withClasses(5);
        y.addBase(4, 3, true);
        y.addBase(4, 0, true);
        y.addBase(3, 2, false);
        y.addBase(2, 1, true);
        y.addBase(2, 0, true);
        y.make(4, 'o', 0);
        c.due("those that it has itself first", () -> trace(y), "C1.0 C0.0 C2.0 C3.0 C4.0 ");
    }

    /** "the number of objects of the array, 1 to 5" */
    private void oneToFiveOfAnArray() {
        Overloadery x = Lives.withClasses(1);
        range.refused("an array", 1, 5, v -> x.make(0, 'a', v), Due.ARGUMENT);
        int sum = 0;
        for (int i = 1; i <= 5; i++) {
            int many = i;
            sum += i;
            c.due("an array of " + i, () -> x.make(0, 'a', many), 'm');
            totals("arrays up to " + i, x, sum, sum, 0);
        }
        for (int i = 1; i <= 5; i++) {
            Overloadery y = Lives.withClasses(1);
            y.setThrow(0, i);
            int before = i - 1;
            c.due("one of five throws", () -> y.make(0, 'a', 5), 'u');
            totals("those ahead of it, " + before, y, 0, before, before);
            c.due("no more are begun", y::trace, 2 * before + 1);
        }
    }

    /** "of no meaning but for 'a'" */
    private void manyOfNoMeaning() {
        for (char how : "otl".toCharArray()) {
            Overloadery x = Lives.withClasses(1);
            int made = 0;
            for (int many : new int[] {Integer.MIN_VALUE, -1, 0, 1, 5, 6, 40, 41, Integer.MAX_VALUE}) {
                made++;
                c.due(how + " and " + many, () -> x.make(0, how, many), 'm');
                totals(how + " and " + many, x, made, made, 0);
            }
        }
    }

    /** "if more than 40 objects that were made so would be there" */
    private void fortyObjects() {
        for (char how : "otl".toCharArray()) {
            Overloadery x = Lives.withClasses(1);
            for (int i = 1; i <= 40; i++) {
                c.due(how + " number " + i, () -> x.make(0, how, 0), 'm');
            }
            for (char other : "otl".toCharArray()) {
                c.due("one more " + other, () -> x.make(0, other, 0), Due.STATE);
            }
            c.due("an array of one more", () -> x.make(0, 'a', 1), Due.STATE);
            totals("forty", x, 40, 40, 0);
            c.due("forty entries", x::trace, 40);
        }
    }

    private void fortyObjectsByArrays() {
        for (int first = 1; first <= 5; first++) {
            Overloadery x = Lives.withClasses(1);
            for (int i = 0; i < 7; i++) {
                x.make(0, 'a', 5);
            }
            int some = first;
            c.due("35 and " + first, () -> x.make(0, 'a', some), 'm');
            for (int i = 5; i >= 1; i--) {
                int more = i;
                boolean isRoom = 35 + first + more <= 40;
                if (!isRoom) c.due("35 and " + first + " and " + i, () -> x.make(0, 'a', more), Due.STATE);
            }
            if (first < 5) c.due("up to 40", () -> x.make(0, 'a', 5 - some), 'm');
            totals("forty", x, 40, 40, 0);
        }
    }

    /** "each one of an array counted, members not" */
    private void fortyObjectsWithMembers() {
        Overloadery x = Lives.withClasses(2);
        for (int i = 0; i < 3; i++) {
            x.addMember(1, 0);
        }
        x.addBase(1, 0, false);
        for (int i = 1; i <= 8; i++) {
            int count = i;
            c.due("array " + i, () -> x.make(1, 'a', 5), 'm');
            totals("arrays " + i, x, 5 * count, 25 * count, 0);
        }
        c.due("one more", () -> x.make(0, 'o', 0), Due.STATE);
    }

    private void roomAgain() {
        Overloadery x = Lives.withClasses(1);
        x.open(true);
        for (int i = 0; i < 38; i++) {
            x.make(0, 'o', 0);
        }
        x.make(0, 't', 0);
        x.make(0, 't', 0);
        c.due("forty", () -> x.make(0, 'o', 0), Due.STATE);
        c.due("two temporaries end", x::endExpression, 2);
        c.due("two instead", () -> x.make(0, 'a', 2), 'm');
        c.due("forty again", () -> x.make(0, 'a', 1), Due.STATE);
        c.due("the block is closed", x::close, 1);
        c.due("none is there", x::living, 0);
        for (int i = 0; i < 8; i++) {
            c.due("forty others", () -> x.make(0, 'a', 5), 'm');
        }
        c.due("and one more", () -> x.make(0, 'l', 0), Due.STATE);
        c.due("all are taken down", x::raise, 'u');
        c.due("one of them", () -> x.make(0, 'l', 0), 'm');
    }

    private void refusedWhenFull() {
        Overloadery x = Lives.withClasses(1);
        for (int i = 0; i < 8; i++) {
            x.make(0, 'a', 5);
        }
        range.refused("no class ahead of too many", 0, 0, v -> x.make(v, 'o', 0), Due.INDEX);
        c.due("no way ahead of too many", () -> x.make(0, 'q', 0), Due.ARGUMENT);
        range.refused("no number ahead of too many", 1, 5, v -> x.make(0, 'a', v), Due.ARGUMENT);
        x.setThrow(0, 1);
        c.due("too many ahead of a throw", () -> x.make(0, 'o', 0), Due.STATE);
        c.due("which did not come", () -> x.setThrow(0, 0), 1);
        totals("forty", x, 40, 40, 0);
    }

    /** "'m' made, 'c' something was thrown and caught by a try, 'u' something was thrown, and there was none" */
    private void answersOfMake() {
        for (char how : "oatl".toCharArray()) {
            Overloadery x = Lives.withClasses(1);
            c.due(how + " made", () -> x.make(0, how, 1), 'm');
            x.setThrow(0, 1);
            c.due(how + " not caught", () -> x.make(0, how, 1), 'u');
            x.open(false);
            x.setThrow(0, 1);
            c.due(how + " not caught by a block that is no try", () -> x.make(0, how, 1), 'u');
            c.due(how + " one block is left", x::close, Due.STATE);
            x.open(true);
            x.open(false);
            x.setThrow(0, 1);
            c.due(how + " caught", () -> x.make(0, how, 1), 'c');
            c.due(how + " the try is closed", x::close, Due.STATE);
            c.due(how + " nothing is left", x::living, 0);
        }
    }

    /** "Returns how many temporaries are taken down." */
    private void endOfExpression() {
        Overloadery x = Lives.withClasses(1);
        c.due("none", x::endExpression, 0);
        x.make(0, 'o', 0);
        x.make(0, 'a', 2);
        x.make(0, 'l', 0);
        c.due("none of those", x::endExpression, 0);
        x.make(0, 't', 0);
        c.due("one", x::endExpression, 1);
        c.due("once", x::endExpression, 0);
        for (int i = 0; i < 5; i++) {
            x.make(0, 't', 0);
            x.open(i % 2 == 0);
        }
        c.due("five of five blocks", x::endExpression, 5);
        c.due("the blocks stay", () -> x.open(false), 7);
        totals("the others", x, 4, 10, 6);
    }

    private void fortyTemporaries() {
        Overloadery x = Lives.withClasses(1);
        for (int i = 0; i < 40; i++) {
            x.make(0, 't', 0);
        }
        c.due("forty", x::endExpression, 40);
        for (int i = 0; i < 40; i++) {
            int index = 40 + i;
            int object = 39 - i;
            c.due("those made later first, " + i, () -> x.traceObject(index), object);
        }
        totals("none is left", x, 0, 40, 40);
    }

    /** "up to the innermost try, which is closed, too; without one, the first block is emptied, and stays" */
    private void raising() {
        for (int tries = 0; tries < 8; tries++) {
            Overloadery x = Lives.withClasses(1);
            x.make(0, 'o', 0);
            for (int i = 0; i < 3; i++) {
                x.open((tries >> i & 1) == 1);
                x.make(0, 'o', 0);
                x.make(0, 't', 0);
            }
            // The innermost try is the last one of the three blocks that is one.
            int left = (tries & 4) != 0 ? 3 : (tries & 2) != 0 ? 2 : 1;
            boolean isCaught = tries != 0;
            c.due("caught or not, tries " + tries, x::raise, isCaught ? 'c' : 'u');
            c.due("objects left, tries " + tries, x::living, isCaught ? left : 0);
            c.due("blocks left, tries " + tries, () -> x.open(false), left + 1);
            c.due("taken down, tries " + tries, x::takenDown, isCaught ? 7 - left : 7);
        }
    }

    private void raisingThroughTenBlocks() {
        Overloadery x = Lives.withClasses(1);
        for (int i = 2; i <= 10; i++) {
            x.open(i == 2);
            x.make(0, 'a', 4);
        }
        c.due("36 are there", x::living, 36);
        c.due("caught by the second block", x::raise, 'c');
        totals("none is left", x, 0, 36, 36);
        c.due("the first block is left", x::close, Due.STATE);
        for (int i = 2; i <= 10; i++) {
            x.open(false);
            x.make(0, 'a', 4);
        }
        c.due("not caught", x::raise, 'u');
        totals("none is left", x, 0, 72, 72);
        c.due("the first block is left again", x::close, Due.STATE);
        c.due("nothing to take down", x::raise, 'u');
    }
}
