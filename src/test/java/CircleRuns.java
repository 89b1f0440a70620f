import java.util.ArrayList;
import java.util.List;
import java.util.NoSuchElementException;
import java.util.Random;

/**
 * Templates with constraints 'd' whose instances ask for one another, often in circles: the answers are those of Model,
 * which tries all ways of choosing the bodies, wherever just one way goes with the document.
 */
public final class CircleRuns {
    private static final int RUNS = Integer.getInteger("runs", 1200);

    private final Checks checks;
    private final Random random;
    private final String run;
    private final boolean isNarrow;
    private final Overloadery x = new Overloadery();
    private final Model m = new Model();
    private final List<Integer> closed = new ArrayList<>();
    private final List<Integer> open = new ArrayList<>();
    private int templates;
    private int twofold;
    private int silent;
    private int inCircles;

    private CircleRuns(int seed, Checks checks) {
        this.checks = checks;
        isNarrow = seed % 4 > 0;
        random = new Random(seed);
        run = "run " + seed + ": ";
    }

    public static void main(String[] args) {
        Checks checks = new Checks();
        int silent = 0;
        int inCircles = 0;
        for (int seed = 0; seed < RUNS; seed++) {
            CircleRuns one = new CircleRuns(seed, checks);
            one.put();
            one.ask();
            silent += one.silent;
            inCircles += one.inCircles;
        }
        System.out.println(inCircles + " answers with circles, " + silent + " calls about which the document is silent");
        checks.finish("CircleRuns");
    }

    private int both(int own, int other) {
        checks.due(run + "both number types alike", () -> own, other);
        return own;
    }

    private void put() {
        for (int i = 0; i < 3; i++) {
            both(x.addNamespace(0), m.addNamespace(0));
            both(x.addClass(i + 1), m.addClass(i + 1));
            if (i > 0 && random.nextInt(3) == 0) both(x.addBase(i, 0, false), m.addBase(i, 0, false));
            closed.add(both(x.classType(i), m.classType(i)));
            both(x.addFunction(i + 1, 0, false), m.addFunction(i + 1, 0, false));
        }
        closed.add(0);
        open.add(both(x.parameter(0), m.parameter(0)));
        templates = 2 + random.nextInt(4);
        for (int i = 0; i < templates; i++) {
            boolean isTwofold = !isNarrow && random.nextInt(5) == 0;
            if (isTwofold) twofold |= 1 << i;
            both(x.addTemplate(isTwofold ? 2 : 1), m.addTemplate(isTwofold ? 2 : 1));
        }
        if (twofold != 0) open.add(both(x.parameter(1), m.parameter(1)));
        if (isNarrow) putNarrowTypes();
        int howMany = isNarrow ? 0 : 4 + random.nextInt(10);
        for (int i = 0; i < howMany; i++) {
            putType(open);
            putType(closed);
        }
        for (int i = 0; i < templates; i++) {
            putBodies(i);
        }
    }

    /** Few types, of which nearly all ask for one another. */
    private void putNarrowTypes() {
        open.add(both(x.instance(0, open.get(0), -1), m.instance(0, open.get(0), -1)));
        for (int i = 0; i < templates; i++) {
            int template = i;
            closed.add(both(x.instance(template, 0, -1), m.instance(template, 0, -1)));
        }
        for (int i = 0; i < templates * templates; i++) {
            int template = i % templates;
            int part = closed.get(4 + i / templates);
            closed.add(both(x.instance(template, part, -1), m.instance(template, part, -1)));
        }
    }

    private void putType(List<Integer> list) {
        int part = any(list.subList(0, Math.min(list.size(), 12)));
        if (random.nextInt(8) == 0) {
            list.add(both(x.pointerTo(part), m.pointerTo(part)));
            return;
        }
        int template = random.nextInt(templates);
        boolean isTwofold = (twofold >> template & 1) == 1;
        int second = isTwofold ? random.nextBoolean() ? list.get(0) : closed.get(0) : -1;
        list.add(both(x.instance(template, part, second), m.instance(template, part, second)));
    }

    private int any(List<Integer> list) {
        return list.get(random.nextInt(list.size()));
    }

    /** A type for a base: an instance or a class. */
    private int base() {
        for (int i = 0; i < 20; i++) {
            int type = any(isNarrow || random.nextInt(4) == 0 ? closed : open);
            if (m.kindOf(type) == 'i' || m.kindOf(type) == 'c') return type;
        }
        return -1;
    }

    private void putBodies(int template) {
        boolean isTwofold = (twofold >> template & 1) == 1;
        if (random.nextInt(5) > 0) putBase(template, -1);
        int howMany = random.nextInt(4);
        for (int i = 0; i < howMany; i++) {
            int first = random.nextInt(3) > 0 ? open.get(0) : any(open);
            int second = isTwofold ? any(open) : -1;
            both(x.specialise(template, first, second), m.specialise(template, first, second));
            if (random.nextInt(5) > 0) putBase(template, i);
            int constraints = random.nextInt(3);
            for (int j = 0; j < constraints; j++) {
                int parameter = isTwofold ? random.nextInt(2) : 0;
                char letter = "ddddddcpb".charAt(random.nextInt(9));
                int cls = random.nextInt(3);
                both(x.constrain(template, i, parameter, letter, cls), m.constrain(template, i, parameter, letter, cls));
            }
        }
    }

    private void putBase(int template, int specialisation) {
        int base = base();
        both(x.setBase(template, specialisation, base), m.setBase(template, specialisation, base));
    }

    private void ask() {
        for (int type : closed) {
            if (m.kindOf(type) != 'i') continue;
            same("chosenFor " + type, () -> x.chosenFor(type), () -> m.chosenFor(type));
            for (int i = 0; i < 3; i++) {
                int cls = closed.get(i);
                same("distance " + type + " " + cls, () -> x.distance(type, cls), () -> m.distance(type, cls));
            }
            m.clearArguments();
            x.clearArguments();
            int arguments = 1 + random.nextInt(2);
            for (int i = 0; i < arguments; i++) {
                int other = i == 0 ? type : any(closed);
                both(x.addArgument(other, 'l'), m.addArgument(other, 'l'));
            }
            same("candidates " + type, () -> x.candidates(0, 0), () -> m.candidates(0, 0));
        }
    }

    private void same(String name, Checks.Call asked, Checks.Call due) {
        Object want;
        m.forget();
        try {
            want = due.answer();
        } catch (NoSuchElementException | UnsupportedOperationException e) {
            want = e.getClass();
        }
        if (m.isBeyond) silent++;
        else if (m.circles > 0) inCircles++;
        if (m.isBeyond) asked(asked);
        else checks.due(run + name, asked, want);
    }

    /** The call ends all the same. */
    private static void asked(Checks.Call call) {
        try {
            call.answer();
        } catch (NoSuchElementException | UnsupportedOperationException e) {
            return;
        }
    }
}
