/** Promises 41 to 46, and the 512 calls of an object: the ends of the trace, and what is counted behind it. */
public final class TraceEdgesTest {
    private final Checks c = new Checks();
    private final Range range = new Range(c);

    public static void main(String[] args) {
        TraceEdgesTest test = new TraceEdgesTest();
        test.emptyTrace();
        test.indexOfTrace();
        test.lettersOfTrace();
        test.classesOfTrace();
        test.sixHundredEntries();
        test.cutBetweenEntriesOfOneBody();
        test.cutWhenTakenDown();
        test.cutByThrow();
        test.thrownBehindTheTrace();
        test.spokenBehindTheTrace();
        test.virtualBasesBehindTheTrace();
        test.everyBodyThrowsBehindTheTrace();
        test.partsAreCounted();
        test.countedBeyondInts();
        test.lastOfAllCalls();
        test.c.finish("TraceEdgesTest");
    }

    private static String entry(Overloadery x, int index) {
        return "" + x.traceKind(index) + x.traceClass(index) + "." + x.traceObject(index);
    }

    private void totals(String name, Overloadery x, long living, long made, long takenDown) {
        c.due(name + ", living", () -> (long) x.living(), living);
        c.due(name + ", made", x::made, made);
        c.due(name + ", taken down", x::takenDown, takenDown);
    }

    private void noSuchIndex(Overloadery x, int length) {
        range.refused("letter of no index", 0, length - 1, x::traceKind, Due.INDEX);
        range.refused("class of no index", 0, length - 1, x::traceClass, Due.INDEX);
        range.refused("object of no index", 0, length - 1, x::traceObject, Due.INDEX);
    }

    private void emptyTrace() {
        Overloadery x = Lives.withClasses(1);
        c.due("no entry", x::trace, 0);
        noSuchIndex(x, 0);
        x.raise();
        x.endExpression();
        c.due("nothing was there to be taken down", x::trace, 0);
        totals("nothing", x, 0, 0, 0);
    }

    private void indexOfTrace() {
        Overloadery x = Lives.withClasses(3);
        for (int i = 0; i < 3; i++) {
            x.make(i, 'o', 0);
            noSuchIndex(x, i + 1);
            for (int j = 0; j <= i; j++) {
                int index = j;
                c.due("entry " + j, () -> entry(x, index), "C" + j + "." + j);
            }
        }
        c.due("three entries", x::trace, 3);
        x.raise();
        c.due("six entries", x::trace, 6);
        for (int i = 0; i < 3; i++) {
            int index = 5 - i;
            c.due("entry " + index, () -> entry(x, index), "D" + i + "." + i);
        }
    }

    /** "'C', 'D', 'V', 'X' or 'G'" */
    private void lettersOfTrace() {
        Overloadery x = Lives.withClasses(2);
        x.setBody(1, 3, true);
        x.make(1, 'o', 0);
        x.setThrow(0, 1);
        x.make(0, 'o', 0);
        String want = "CVGXVD";
        c.due("length", x::trace, want.length());
        for (int i = 0; i < want.length(); i++) {
            int index = i;
            c.due("letter " + i, () -> x.traceKind(index), want.charAt(index));
        }
    }

    /** "that of the body, or for 'V' that of the method", "the class, -1 or -2" */
    private void classesOfTrace() {
        Overloadery x = Lives.withClasses(12);
        x.addBase(10, 9, false);
        x.addBase(11, 10, false);
        x.addBase(11, 0, false);
        for (int i = 0; i < 12; i++) {
            x.setBody(i, 0, false);
        }
        x.override(9, 0, true);
        x.override(0, 0, true);
        x.make(11, 'o', 0);
        String[] want = {"C9.0", "V9.0", "C10.0", "V9.0", "C0.0", "V0.0", "C11.0", "V-2.0"};
        for (int i = 0; i < want.length; i++) {
            int index = i;
            c.due("entry " + i, () -> entry(x, index), want[index]);
        }
        x.make(1, 'o', 0);
        c.due("none does", () -> entry(x, 9), "V-1.1");
    }

    /** "The trace has at most 600 entries" */
    private void sixHundredEntries() {
        Overloadery x = Lives.withClasses(2);
        for (int i = 0; i < 14; i++) {
            for (int j = 0; j < 4; j++) {
                x.make(0, 'a', 5);
            }
            x.raise();
        }
        for (int i = 0; i < 7; i++) {
            x.make(0, 'a', 5);
        }
        for (int i = 0; i < 4; i++) {
            x.make(0, 'o', 0);
        }
        c.due("599 entries", x::trace, 599);
        noSuchIndex(x, 599);
        x.make(1, 'o', 0);
        c.due("600 entries", x::trace, 600);
        c.due("the last entry", () -> entry(x, 599), "C1.319");
        noSuchIndex(x, 600);
        x.raise();
        c.due("600 entries stay", x::trace, 600);
        noSuchIndex(x, 600);
        c.due("the last entry stays", () -> entry(x, 599), "C1.319");
        c.due("the first entry stays", () -> entry(x, 0), "C0.0");
        totals("all", x, 0, 320, 320);
        x.make(0, 't', 0);
        c.due("what comes behind is not kept", x::trace, 600);
        c.due("the last entry is what it was", () -> entry(x, 599), "C1.319");
        totals("one more", x, 1, 321, 320);
    }

    /** Objects of class 0 with one entry each, so that there are so many entries; the objects are gone. */
    private static Overloadery withEntries(int count) {
        Overloadery x = Lives.withClasses(3);
        int left = count;
        while (left > 0) {
            int pairs = Math.min(40, left / 2);
            for (int i = 0; i < pairs; i += 5) {
                x.make(0, 'a', Math.min(5, pairs - i));
            }
            x.raise();
            left -= 2 * pairs;
            if (left == 1) {
                x.setThrow(0, 1);
                x.make(0, 'o', 0);
                left = 0;
            }
        }
        return x;
    }

    private void cutBetweenEntriesOfOneBody() {
        for (int room = 0; room <= 4; room++) {
            Overloadery x = withEntries(600 - room);
            int before = 600 - room;
            c.due("entries ahead", x::trace, before);
            long made = x.made();
            x.setBody(2, 1, true);
            c.due("made", () -> x.make(2, 'o', 0), 'm');
            int kept = Math.min(room, 3);
            c.due("kept with room for " + room, x::trace, before + kept);
            for (int i = 0; i < kept; i++) {
                int index = before + i;
                char letter = "CVG".charAt(i);
                c.due("the letter " + i, () -> x.traceKind(index), letter);
            }
            c.due("made once", x::made, made + 1);
            c.due("no more", () -> x.traceKind(before + kept), Due.INDEX);
        }
    }

    private void cutWhenTakenDown() {
        for (int room = 0; room <= 4; room++) {
            Overloadery x = withEntries(600 - 1 - room);
            int before = 600 - room;
            x.make(2, 't', 0);
            x.setBody(2, 0, false);
            c.due("entries ahead", x::trace, before);
            c.due("taken down", x::endExpression, 1);
            int kept = Math.min(room, 2);
            c.due("kept with room for " + room, x::trace, before + kept);
            for (int i = 0; i < kept; i++) {
                int index = before + i;
                char letter = "VD".charAt(i);
                c.due("the letter " + i, () -> x.traceKind(index), letter);
            }
            c.due("no more", () -> x.traceClass(before + kept), Due.INDEX);
            c.due("each was taken down", () -> x.made() == x.takenDown(), true);
        }
    }

    private void cutByThrow() {
        for (int room = 0; room <= 6; room++) {
            Overloadery x = withEntries(600 - room);
            int before = 600 - room;
            x.setBody(2, 0, true);
            x.setThrow(2, 1);
            c.due("thrown", () -> x.make(2, 'o', 0), 'u');
            int kept = Math.min(room, 5);
            c.due("kept with room for " + room, x::trace, before + kept);
            for (int i = 0; i < kept; i++) {
                int index = before + i;
                char letter = "CVXVD".charAt(i);
                c.due("the letter " + i, () -> x.traceKind(index), letter);
            }
            c.due("each was taken down", () -> x.made() == x.takenDown(), true);
        }
    }

    private void thrownBehindTheTrace() {
        Overloadery x = withEntries(600);
        totals("300 objects", x, 0, 300, 300);
        x.setThrow(0, 3);
        c.due("the first two", () -> x.make(0, 'a', 2), 'm');
        c.due("the third", () -> x.make(0, 'a', 2), 'u');
        c.due("none left", () -> x.setThrow(0, 4), 0);
        c.due("three of four", () -> x.make(0, 'a', 3), 'm');
        c.due("one left", () -> x.setThrow(0, 99), 1);
        c.due("600 stay", x::trace, 600);
        totals("five more", x, 3, 305, 302);
        x.setThrow(0, 0);
        x.setThrow(1, 1);
        c.due("another class throws", () -> x.make(1, 'o', 0), 'u');
        totals("none is left", x, 0, 305, 305);
    }

    private void spokenBehindTheTrace() {
        Overloadery x = withEntries(600);
        x.setBody(2, 2, true);
        c.due("with a method and a second body", () -> x.make(2, 'a', 5), 'm');
        totals("five", x, 5, 305, 300);
        x.setThrow(2, 1);
        c.due("thrown in the second body", () -> x.make(2, 'o', 0), 'u');
        totals("six", x, 0, 306, 306);
        c.due("600 stay", x::trace, 600);
    }

    /** Class 3 has the virtual bases 0 and 1, of which 1 has a member; class 4 has 3 as a member, and the virtual base 2. */
    private static Overloadery withVirtualBases() {
        Overloadery x = Lives.withClasses(6);
        x.addMember(1, 0);
        x.addBase(3, 0, true);
        x.addBase(3, 1, true);
        x.addMember(4, 3);
        x.addBase(4, 2, true);
        for (int i = 0; i < 15; i++) {
            for (int j = 0; j < 4; j++) {
                x.make(5, 'a', 5);
            }
            x.raise();
        }
        return x;
    }

    private void virtualBasesBehindTheTrace() {
        Overloadery x = withVirtualBases();
        c.due("600 entries", x::trace, 600);
        totals("300 objects", x, 0, 300, 300);
        for (int i = 0; i < 6; i++) {
            x.setThrow(i, 0);
        }
        x.make(3, 'o', 0);
        totals("two virtual bases, one with a member", x, 1, 304, 300);
        x.make(4, 'a', 2);
        totals("those in a member, too", x, 3, 316, 300);
        for (int i = 0; i < 6; i++) {
            int cls = i;
            c.due("nothing was told for " + i, () -> x.setThrow(cls, 99), 0);
        }
        x.make(4, 'o', 0);
        int[] left = {97, 98, 98, 98, 98, 99};
        for (int i = 0; i < 6; i++) {
            int cls = i;
            c.due("left for " + i, () -> x.setThrow(cls, 0), left[cls]);
        }
        x.raise();
        totals("all taken down", x, 0, 322, 322);
        throwsBehindTheTrace(x);
    }

    private void throwsBehindTheTrace(Overloadery x) {
        // Classes are made in this order for an object of class 4: 2, then the member with 0, 0, 1, 3, then 4.
        int[] order = {2, 0, 0, 1, 3, 4};
        long sum = 322;
        for (int i = 0; i < order.length; i++) {
            x.setThrow(order[i], i == 2 ? 2 : 1);
            c.due("the throw " + i, () -> x.make(4, 'o', 0), 'u');
            sum += i;
            totals("those ahead of the throw " + i, x, 0, sum, sum);
        }
    }

    private void everyBodyThrowsBehindTheTrace() {
        Overloadery all = Lives.withAllSorts();
        all.make(7, 'o', 0);
        int count = all.trace();
        int[] times = new int[8];
        for (int i = 0; i < count; i++) {
            int cls = all.traceClass(i);
            times[cls]++;
            Overloadery x = Lives.withAllSorts();
            for (int j = 0; j < 60; j++) {
                x.make(8, 'a', 5);
                x.raise();
            }
            x.setThrow(cls, times[cls]);
            c.due("body " + i + " throws", () -> x.make(7, 't', 0), 'u');
            totals("body " + i, x, 0, 300 + i, 300 + i);
            c.due("told no more", () -> x.setThrow(cls, 0), 0);
            c.due("all bodies", () -> x.make(7, 'o', 0), 'm');
            totals("all bodies behind " + i, x, 1, 300 + i + count, 300 + i);
            c.due("600 entries", x::trace, 600);
        }
    }

    /** "bodies that did not throw, and those that threw in their second one" */
    private void partsAreCounted() {
        Overloadery x = Lives.withClasses(3);
        x.addBase(1, 0, true);
        x.addMember(1, 0);
        x.addBase(2, 1, false);
        x.make(2, 'o', 0);
        totals("a virtual base, a member, a base, a body", x, 1, 4, 0);
        x.setThrow(2, 1);
        x.make(2, 'o', 0);
        totals("a body that threw does not count", x, 0, 7, 7);
        x.setBody(2, -1, true);
        x.setThrow(2, 1);
        x.make(2, 'o', 0);
        totals("one that threw in its second body counts", x, 0, 11, 11);
        x.make(2, 'o', 0);
        totals("one with a second body counts once", x, 1, 15, 11);
        x.raise();
        totals("and is taken down once", x, 0, 15, 15);
    }

    /** Classes with so many parts that some calls make more of them than an int can count. */
    private void countedBeyondInts() {
        Overloadery x = Lives.withClasses(12);
        long[] parts = new long[12];
        for (int i = 0; i < 12; i++) {
            parts[i] = 1;
            for (int j = Math.max(0, i - 3); j < i; j++) {
                x.addBase(i, j, false);
                parts[i] += parts[j];
            }
            for (int j = 0; j < 3 && i > 0; j++) {
                x.addMember(i, i - 1);
                parts[i] += parts[i - 1];
            }
        }
        long all = parts[11];
        long made = 0;
        for (int i = 0; i < 100; i++) {
            x.make(11, 'a', 5);
            x.raise();
            made += 5 * all;
        }
        long want = made;
        c.due("more than an int counts", () -> want > 1L << 32, true);
        totals("all of them", x, 0, want, want);
        c.due("600 entries", x::trace, 600);
        x.setThrow(11, 1);
        c.due("the very last body throws", () -> x.make(11, 'o', 0), 'u');
        totals("all but one more", x, 0, want + all - 1, want + all - 1);
        x.setThrow(0, 1);
        c.due("the very first body throws", () -> x.make(11, 'o', 0), 'u');
        totals("none more", x, 0, want + all - 1, want + all - 1);
    }

    /** "An object is used for at most 512 calls after it has been made" */
    private void lastOfAllCalls() {
        Overloadery x = new Overloadery();
        x.addClass(0);
        for (int i = 0; i < 85; i++) {
            int times = i;
            c.due("an object", () -> x.make(0, 'o', 0), 'm');
            c.due("a temporary", () -> x.make(0, 't', 0), 'm');
            c.due("the temporary ends", x::endExpression, 1);
            c.due("one is there", x::living, 1);
            c.due("all is taken down", x::raise, 'u');
            c.due("two each time", x::made, 2 * (times + 1));
        }
        // 511 calls by now
        c.due("the 512th call", x::takenDown, 170);
    }
}
