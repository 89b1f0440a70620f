import java.util.ArrayList;
import java.util.HashSet;
import java.util.List;
import java.util.NoSuchElementException;
import java.util.Random;
import java.util.Set;

/**
 * Templates whose instances ask for one another, with functions and arguments: each answer is right for one of the ways to
 * choose bodies which the document leaves, all of which Model tries; so it is the same if it is the same for all. There are
 * gates and wires in some runs, and in others cells, each of which may have two ways, and watches, which may leave one alone.
 */
public final class WayRuns {
    private static final int RUNS = Integer.getInteger("runs", 400);
    private static final int FIRST = Integer.getInteger("first", 0);
    private static final int INSTANCES = 30;
    private static final int TRIES = 2_000;

    private final Checks checks;
    private final Random random;
    private final String run;
    private final Overloadery x = new Overloadery();
    private final Model m = new Model();
    private final List<String> log = new ArrayList<>();
    private final List<Integer> classes = new ArrayList<>();
    private final List<Integer> closed = new ArrayList<>();
    private final int[] parameters = new int[3];
    private int wires;
    private int gates;
    private int twofold;
    private boolean hasCells;
    private int ways;
    private static int several;
    private static int many;
    private static int all;

    private WayRuns(int seed, Checks checks) {
        this.checks = checks;
        random = new Random(seed);
        run = "run " + seed + ": ";
    }

    public static void main(String[] args) {
        Checks checks = new Checks();
        int used = 0;
        for (int seed = FIRST; seed < FIRST + RUNS; seed++) {
            WayRuns one = new WayRuns(seed, checks);
            one.putClasses();
            if (seed % 4 > 1) one.putCells(seed % 4 == 3);
            else one.putGatesAndWires(seed % 4 == 1);
            one.putFunctions();
            one.ways = one.m.findWays(INSTANCES, TRIES);
            if (one.ways <= 0) continue;
            used++;
            if (one.ways > 1) many++;
            one.ask();
        }
        System.out.println(used + " runs with ways, " + many + " with several; " + several + " of " + all
                + " answers differ by the way");
        checks.finish("WayRuns");
    }

    private int both(String call, int own, int other) {
        log.add(call + " -> " + own);
        checks.due(run + call, () -> own, other);
        return own;
    }

    private void putClasses() {
        int count = 1 + random.nextInt(3);
        for (int i = 0; i < count; i++) {
            both("addNamespace(0)", x.addNamespace(0), m.addNamespace(0));
            both("addClass(" + (i + 1) + ")", x.addClass(i + 1), m.addClass(i + 1));
            classes.add(both("classType(" + i + ")", x.classType(i), m.classType(i)));
        }
        for (int i = 0; i < 2 && count == 3 && random.nextBoolean(); i++) {
            both("addBase(2, " + i + ", false)", x.addBase(2, i, false), m.addBase(2, i, false));
        }
        for (int i = 0; i < 3; i++) {
            parameters[i] = both("parameter(" + i + ")", x.parameter(i), m.parameter(i));
        }
    }

    private void putGatesAndWires(boolean areMore) {
        putGates();
        putWires();
        if (areMore) putMoreBases();
    }

    private void putGates() {
        gates = 1 + random.nextInt(4);
        both("addTemplate(1)", x.addTemplate(1), m.addTemplate(1));
        for (int gate = 1; gate <= gates; gate++) {
            int count = 1 + random.nextInt(2);
            if (count == 2) twofold |= 1 << gate;
            both("addTemplate(" + count + ")", x.addTemplate(count), m.addTemplate(count));
            putClassAsBase(gate, -1);
            int howMany = 1 + random.nextInt(3);
            for (int i = 0; i < howMany; i++) {
                int other = count == 2 ? parameters[1] : -1;
                both("specialise(" + gate + ", " + parameters[0] + ", " + other + ")",
                        x.specialise(gate, parameters[0], other), m.specialise(gate, parameters[0], other));
                putClassAsBase(gate, i);
                int constraints = 1 + random.nextInt(3);
                for (int j = 0; j < constraints; j++) {
                    int parameter = random.nextInt(count);
                    int cls = random.nextInt(classes.size());
                    both("constrain(" + gate + ", " + i + ", " + parameter + ", 'd', " + cls + ")",
                            x.constrain(gate, i, parameter, 'd', cls), m.constrain(gate, i, parameter, 'd', cls));
                }
            }
        }
    }

    private void putClassAsBase(int template, int specialisation) {
        int at = random.nextInt(classes.size() + 1);
        if (at > 0) putBase(template, specialisation, classes.get(at - 1));
    }

    private void putBase(int template, int specialisation, int base) {
        both("setBase(" + template + ", " + specialisation + ", " + base + ")",
                x.setBase(template, specialisation, base), m.setBase(template, specialisation, base));
    }

    /** Each wire leads on to the gates of the next ones, or of itself; some have other bases. */
    private void putWires() {
        wires = 2 + random.nextInt(4);
        putBase(0, -1, gate(1 + random.nextInt(2), true));
        int howMany = 1 + random.nextInt(3);
        for (int i = 0; i < howMany; i++) {
            int pattern = i == 0 ? pointers(parameters[0], wires) : pointers(0, random.nextInt(wires));
            both("specialise(0, " + pattern + ", -1)", x.specialise(0, pattern, -1), m.specialise(0, pattern, -1));
            putBase(0, i, gate(1 + random.nextInt(2), false));
        }
        int asked = 1 + random.nextInt(5);
        for (int i = 0; i < asked; i++) {
            closed.add(gate(random.nextInt(3), false));
        }
    }

    /** Some gates have other instances as their bases. */
    private void putMoreBases() {
        for (int gate = 1; gate <= gates; gate++) {
            for (int body = -1; body < 1; body++) {
                if (random.nextInt(3) == 0) putBase(gate, body, gate(random.nextInt(2), random.nextInt(3) > 0));
                else if (random.nextInt(4) == 0) putBase(gate, body, inner(gate));
            }
        }
    }

    /** A gate with what a parameter stands for. */
    private int inner(int gate) {
        int template = 1 + random.nextInt(gates);
        int one = parameters[0];
        int other = (twofold >> template & 1) == 1 ? gate(0, false) : -1;
        return both("instance(" + template + ", " + one + ", " + other + ")",
                x.instance(template, one, other), m.instance(template, one, other));
    }

    private int pointers(int type, int howMany) {
        int at = type;
        for (int i = 0; i < howMany; i++) {
            at = both("pointerTo(" + at + ")", x.pointerTo(at), m.pointerTo(at));
        }
        return at;
    }

    private int gate(int depth, boolean isOpen) {
        if (depth == 0) {
            int wire = isOpen ? pointers(parameters[0], random.nextInt(3)) : pointers(0, random.nextInt(wires));
            return both("instance(0, " + wire + ", -1)", x.instance(0, wire, -1), m.instance(0, wire, -1));
        }
        int template = 1 + random.nextInt(gates);
        int one = gate(depth - 1, isOpen);
        int other = (twofold >> template & 1) == 1 ? gate(depth - 1, isOpen) : -1;
        return both("instance(" + template + ", " + one + ", " + other + ")",
                x.instance(template, one, other), m.instance(template, one, other));
    }

    // ---- cells

    /**
     * The base of an instance of template 0, a cell, asks for this one; that of one of template 2, a watch, asks for the
     * watch and for others. Instances of template 4 have these in their bases, where they have no numbers.
     */
    private void putCells(boolean areWatchesBehind) {
        hasCells = true;
        for (int i = 0; i < 5; i++) {
            int howMany = i == 3 ? 2 : 1;
            both("addTemplate(" + howMany + ")", x.addTemplate(howMany), m.addTemplate(howMany));
        }
        int any = parameters[0];
        int cell = instance(0, any, -1);
        if (areWatchesBehind) putBase(0, -1, instance(3, cell, any));
        else if (random.nextInt(4) > 0) putBase(0, -1, instance(1, cell, -1));
        else putBase(0, -1, instance(3, cell, instance(0, pointers(any, 1), -1)));
        putTable(1, any, -1, false);
        putTable(3, any, parameters[1], areWatchesBehind);
        putBase(2, -1, instance(3, cellOrWatch(any), cellOrWatch(any)));
        if (random.nextInt(3) == 0) {
            specialise(2, pointers(any, 1), -1);
            putBase(2, 0, instance(3, cellOrWatch(any), cellOrWatch(any)));
        }
        specialise(4, pointers(any, 1), -1);
        putBase(4, 0, instance(4, anyOf(any), -1));
        if (random.nextBoolean()) {
            specialise(4, instance(2, any, -1), -1);
            putBase(4, 1, instance(4, anyOf(any), -1));
        }
        if (areWatchesBehind || random.nextInt(4) == 0) putClassAsBase(4, -1);
        int asked = 1 + random.nextInt(4);
        for (int i = 0; i < asked; i++) {
            closed.add(cellOrSo());
        }
    }

    /** A template with constraints, the first one of which is about the one that asks. */
    private void putTable(int template, int first, int second, boolean areWatchesBehind) {
        putClassAsBase(template, -1);
        int howMany = 1 + random.nextInt(3);
        for (int i = 0; i < howMany; i++) {
            specialise(template, first, second);
            if (areWatchesBehind && random.nextInt(3) > 0) putBase(template, i, instance(4, anyOf(second), -1));
            else putClassAsBase(template, i);
            int constraints = 1 + random.nextInt(second == -1 ? 2 : 3);
            for (int j = 0; j < constraints; j++) {
                int parameter = second == -1 || j == 0 ? 0 : random.nextInt(2);
                int cls = random.nextInt(classes.size());
                both("constrain(" + template + ", " + i + ", " + parameter + ", 'd', " + cls + ")",
                        x.constrain(template, i, parameter, 'd', cls), m.constrain(template, i, parameter, 'd', cls));
            }
        }
    }

    private int cellOrWatch(int type) {
        int template = random.nextInt(3) == 0 ? 0 : 2;
        return instance(template, pointers(type, random.nextInt(4) == 0 ? 1 : 0), -1);
    }

    private int anyOf(int type) {
        int one = cellOrWatch(type);
        return random.nextInt(4) == 0 ? instance(4, one, -1) : one;
    }

    private int cellOrSo() {
        int type = pointers(random.nextInt(2), random.nextInt(3));
        return instance(random.nextInt(2) * (1 + random.nextInt(2)) * 2, type, -1);
    }

    private int instance(int template, int first, int second) {
        return both("instance(" + template + ", " + first + ", " + second + ")",
                x.instance(template, first, second), m.instance(template, first, second));
    }

    private void specialise(int template, int first, int second) {
        both("specialise(" + template + ", " + first + ", " + second + ")",
                x.specialise(template, first, second), m.specialise(template, first, second));
    }

    // ---- what is asked

    private void putFunctions() {
        int count = 1 + random.nextInt(5);
        for (int i = 0; i < count; i++) {
            int namespace = random.nextInt(classes.size() + 1);
            both("addFunction(" + namespace + ", 0, false)", x.addFunction(namespace, 0, false), m.addFunction(namespace, 0, false));
            int howMany = 1 + random.nextInt(3);
            for (int j = 0; j < howMany; j++) {
                int function = i;
                char mode = "vrcm".charAt(random.nextInt(4));
                int told = random.nextInt(3) > 0 ? parameters[j] : random.nextBoolean() ? classes.get(random.nextInt(classes.size()))
                        : both("instance(0, " + parameters[j] + ", -1)", x.instance(0, parameters[j], -1), m.instance(0, parameters[j], -1));
                both("addParameter(" + i + ", '" + mode + "', " + told + ")",
                        x.addParameter(function, mode, told), m.addParameter(function, mode, told));
            }
            int constraints = random.nextInt(4);
            for (int j = 0; j < constraints; j++) {
                int parameter = random.nextInt(howMany);
                int cls = random.nextInt(classes.size());
                both("require(" + i + ", " + parameter + ", 'd', " + cls + ")",
                        x.require(i, parameter, 'd', cls), m.require(i, parameter, 'd', cls));
            }
        }
    }

    private int any(List<Integer> list) {
        return list.get(random.nextInt(list.size()));
    }

    private void ask() {
        for (int i = 0; i < 6; i++) {
            if (i > 0 && random.nextBoolean()) {
                closed.add(hasCells ? cellOrSo() : gate(random.nextInt(3), false));
                ways = m.findWays(INSTANCES, TRIES);
                if (ways <= 0) return;
            }
            x.clearArguments();
            m.clearArguments();
            log.add("clearArguments()");
            int arguments = 1 + random.nextInt(3);
            for (int j = 0; j < arguments; j++) {
                int type = any(closed);
                char category = "lkr".charAt(random.nextInt(3));
                both("addArgument(" + type + ", '" + category + "')", x.addArgument(type, category), m.addArgument(type, category));
            }
            for (int j = 0; j < 4; j++) askOne();
        }
    }

    private void askOne() {
        int type = any(closed);
        int cls = any(classes);
        int function = 0;
        int parameter = random.nextInt(3);
        switch (random.nextInt(9)) {
            case 0: same("chosenFor(" + type + ")", () -> x.chosenFor(type), () -> m.chosenFor(type)); break;
            case 1: same("distance(" + type + ", " + cls + ")", () -> x.distance(type, cls), () -> m.distance(type, cls)); break;
            case 2: same("candidates(0, 0)", () -> x.candidates(0, 0), () -> m.candidates(0, 0)); break;
            case 3: same("resolve(0, 0)", () -> x.resolve(0, 0), () -> m.resolve(0, 0)); break;
            case 4: same("resolveAnew(0, 0)", () -> x.resolveAnew(0, 0), () -> m.resolve(0, 0)); break;
            case 5: same("viableShare()", () -> x.viableShare(), () -> m.viableShare()); break;
            case 6: same("isViable(0)", () -> x.isViable(function), () -> m.isViable(function)); break;
            case 7: same("coming(0, 0)", () -> x.coming(function, 0), () -> m.coming(function, 0)); break;
            default: same("baseOf(" + type + ")", () -> x.baseOf(type), () -> m.baseOf(type));
        }
    }

    private static Object answer(Checks.Call call) {
        try {
            return call.answer();
        } catch (IllegalStateException | NoSuchElementException | UnsupportedOperationException | IllegalArgumentException e) {
            return e.getClass();
        }
    }

    private void same(String name, Checks.Call asked, Checks.Call due) {
        Set<Object> want = new HashSet<>();
        boolean isBeyond = false;
        if (name.startsWith("baseOf")) {
            return;
        }
        for (int i = 0; i < ways; i++) {
            m.fix(i);
            want.add(answer(due));
            isBeyond = isBeyond || m.isBeyond;
        }
        m.fix(-1);
        Object got = answer(asked);
        if (isBeyond) return;
        all++;
        if (want.size() > 1) several++;
        boolean isRight = want.contains(got);
        log.add(name + " -> " + got);
        checks.due(run + name + " answered " + got + " of " + want + " in " + ways + " ways", () -> isRight, true);
        if (!isRight && System.getProperty("log") != null) {
            System.out.println(String.join("\n", log));
            System.exit(1);
        }
    }
}
