import java.util.ArrayList;
import java.util.List;
import java.util.NoSuchElementException;
import java.util.Random;

/**
 * Templates that are put together like circuits: template 0 is a row of wires, told apart by pointers, and the base of
 * each one is an instance of another template, a gate, whose body depends on what its types lead to; so there are rings.
 * The answers are those of Model, which tries all ways of choosing the bodies, wherever just one goes with the document.
 */
public final class CircuitRuns {
    private static final int RUNS = Integer.getInteger("runs", 60);

    private final Checks checks;
    private final Random random;
    private final String run;
    private final Overloadery x = new Overloadery();
    private final Model m = new Model();
    private final List<Integer> classes = new ArrayList<>();
    private final List<Integer> asked = new ArrayList<>();
    private final int ring;
    private int gates;
    private int twofold;
    private int first;
    private int second;
    private int silent;
    private int inCircles;

    private CircuitRuns(int seed, Checks checks) {
        this.checks = checks;
        random = new Random(seed);
        ring = 2 + random.nextInt(5);
        run = "run " + seed + ": ";
    }

    public static void main(String[] args) {
        Checks checks = new Checks();
        int silent = 0;
        int inCircles = 0;
        for (int seed = 0; seed < RUNS; seed++) {
            CircuitRuns one = new CircuitRuns(seed, checks);
            one.putClasses();
            one.putGates();
            one.putWires();
            one.ask();
            silent += one.silent;
            inCircles += one.inCircles;
        }
        System.out.println(inCircles + " answers with circles, " + silent + " calls about which the document is silent");
        checks.finish("CircuitRuns");
    }

    private int both(int own, int other) {
        checks.due(run + "both number types alike", () -> own, other);
        return own;
    }

    private void putClasses() {
        int count = 1 + random.nextInt(3);
        for (int i = 0; i < count; i++) {
            both(x.addNamespace(0), m.addNamespace(0));
            both(x.addClass(i + 1), m.addClass(i + 1));
            both(x.addFunction(i + 1, 0, false), m.addFunction(i + 1, 0, false));
            classes.add(both(x.classType(i), m.classType(i)));
        }
        for (int i = 0; i < 2 && count == 3 && random.nextBoolean(); i++) {
            both(x.addBase(2, i, false), m.addBase(2, i, false));
        }
        first = both(x.parameter(0), m.parameter(0));
        second = both(x.parameter(1), m.parameter(1));
    }

    private void putGates() {
        gates = 1 + random.nextInt(4);
        both(x.addTemplate(1), m.addTemplate(1));
        for (int gate = 1; gate <= gates; gate++) {
            int parameters = 1 + random.nextInt(2);
            if (parameters == 2) twofold |= 1 << gate;
            both(x.addTemplate(parameters), m.addTemplate(parameters));
            putClassAsBase(gate, -1);
            int howMany = 1 + random.nextInt(3);
            for (int i = 0; i < howMany; i++) {
                int other = parameters == 2 ? second : -1;
                both(x.specialise(gate, first, other), m.specialise(gate, first, other));
                putClassAsBase(gate, i);
                int constraints = 1 + random.nextInt(3);
                for (int j = 0; j < constraints; j++) {
                    int parameter = random.nextInt(parameters);
                    int cls = random.nextInt(classes.size());
                    both(x.constrain(gate, i, parameter, 'd', cls), m.constrain(gate, i, parameter, 'd', cls));
                }
            }
        }
    }

    private void putClassAsBase(int template, int specialisation) {
        int at = random.nextInt(classes.size() + 1);
        if (at > 0) putBase(template, specialisation, classes.get(at - 1));
    }

    private void putBase(int template, int specialisation, int base) {
        both(x.setBase(template, specialisation, base), m.setBase(template, specialisation, base));
    }

    /** Each wire leads on to the gates of the next ones; specialisations close the ring, and tell other bases of some. */
    private void putWires() {
        putBase(0, -1, gate(1 + random.nextInt(2), true));
        int howMany = 1 + random.nextInt(3);
        for (int i = 0; i < howMany; i++) {
            int pattern = i == 0 ? pointers(first, ring) : pointers(0, random.nextInt(ring));
            both(x.specialise(0, pattern, -1), m.specialise(0, pattern, -1));
            putBase(0, i, gate(1 + random.nextInt(2), false));
        }
        for (int i = 0; i < 6; i++) {
            asked.add(gate(1 + random.nextInt(2), false));
        }
    }

    private int pointers(int type, int howMany) {
        int at = type;
        for (int i = 0; i < howMany; i++) {
            at = both(x.pointerTo(at), m.pointerTo(at));
        }
        return at;
    }

    private int gate(int depth, boolean isOpen) {
        if (depth == 0) {
            int wire = isOpen ? pointers(first, random.nextInt(3)) : pointers(0, random.nextInt(ring));
            return both(x.instance(0, wire, -1), m.instance(0, wire, -1));
        }
        int template = 1 + random.nextInt(gates);
        int one = gate(depth - 1, isOpen);
        int other = (twofold >> template & 1) == 1 ? gate(depth - 1, isOpen) : -1;
        return both(x.instance(template, one, other), m.instance(template, one, other));
    }

    private void ask() {
        for (int type : asked) {
            same("chosenFor " + type, () -> x.chosenFor(type), () -> m.chosenFor(type));
            int cls = classes.get(random.nextInt(classes.size()));
            same("distance " + type + " " + cls, () -> x.distance(type, cls), () -> m.distance(type, cls));
            m.clearArguments();
            x.clearArguments();
            both(x.addArgument(type, 'l'), m.addArgument(type, 'l'));
            same("candidates " + type, () -> x.candidates(0, 0), () -> m.candidates(0, 0));
        }
    }

    private void same(String name, Checks.Call asked, Checks.Call due) {
        Object want;
        m.forget();
        try {
            want = due.answer();
        } catch (NoSuchElementException | UnsupportedOperationException e) {
            want = e.getClass();
        }
        if (m.isBeyond) silent++;
        else if (m.circles > 0) inCircles++;
        if (m.isBeyond) asked(asked);
        else checks.due(run + name, asked, want);
    }

    /** The call ends all the same. */
    private static void asked(Checks.Call call) {
        try {
            call.answer();
        } catch (NoSuchElementException | UnsupportedOperationException e) {
            return;
        }
    }
}
