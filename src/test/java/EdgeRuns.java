import java.lang.reflect.InvocationTargetException;
import java.lang.reflect.Method;
import java.lang.reflect.Modifier;
import java.util.ArrayList;
import java.util.Arrays;
import java.util.Comparator;
import java.util.List;
import java.util.Random;

/**
 * Runs of calls, the same ones every time, that go up to the bounds of the document and ask on both sides of them: each run
 * prefers some calls, and numbers at the ends of their ranges. The answers are those of Model.
 */
public final class EdgeRuns {
    private static final int RUNS = Integer.getInteger("runs", 2000);
    private static final int CALLS = 512;

    /** What the calls take: t a type, 2 a second type, c a class, n a namespace, p a template, s a specialisation, .. */
    private static final String[] CALLED = {
        "pointerTo t", "classType c", "parameter q", "instance p t 2", "kindOf t", "types", "baseOf t", "chosenFor t",
        "addNamespace n", "addClass n", "addBase c c b", "addMember c c", "addConversion c t b", "addTemplate d",
        "specialise p t 2", "setBase p s t", "constrain p s q L c", "distance t t", "addFunction n a b", "addParameter f M t",
        "require f q L c", "addArgument t K", "clearArguments", "candidates n a", "isViable f", "coming f g", "deduced f q",
        "resolve n a", "resolveAnew n a", "override c m b", "overrider c m", "setBody c m b", "setThrow c h", "open b",
        "close", "make c H y", "endExpression", "raise", "living", "trace", "traceKind i", "traceClass i", "traceObject i",
        "made", "takenDown", "viableShare", "meanParts",
    };

    /** The calls that a run prefers, by what it goes up to. */
    private static final String[] THEMES = {
        "pointerTo pointerTo pointerTo instance classType parameter baseOf deduced types addTemplate setBase",
        "pointerTo instance instance instance addTemplate specialise setBase constrain chosenFor baseOf distance",
        "addNamespace addClass addClass addBase addBase addMember classType addConversion distance meanParts overrider",
        "addFunction addParameter addParameter require addArgument clearArguments isViable coming deduced resolve candidates",
        "make make make open close endExpression setThrow living trace traceKind setBody addClass addBase addMember",
        "make make make make setBody trace traceKind traceClass traceObject made takenDown raise addClass addBase addMember",
    };

    private final Checks checks;
    private final Random random;
    private final String run;
    private final Overloadery x = new Overloadery();
    private final Model m = new Model();
    private final Method[] own = new Method[CALLED.length];
    private final Method[] due = new Method[CALLED.length];
    private final List<Integer> preferred = new ArrayList<>();
    private final int[] counts = new int[128];
    private final boolean isTidy;

    private EdgeRuns(int seed, Checks checks) {
        this.checks = checks;
        random = new Random(seed);
        run = "run " + seed + ", call ";
        for (int i = 0; i < CALLED.length; i++) {
            String name = CALLED[i].split(" ")[0];
            own[i] = named(Overloadery.class, name);
            due[i] = named(Model.class, name.equals("resolveAnew") ? "resolve" : name);
        }
        String theme = THEMES[seed % THEMES.length];
        for (String name : theme.split(" ")) {
            for (int i = 0; i < CALLED.length; i++) {
                if (CALLED[i].split(" ")[0].equals(name)) preferred.add(i);
            }
        }
        isTidy = random.nextBoolean();
    }

    public static void main(String[] args) throws ReflectiveOperationException {
        Checks checks = new Checks();
        namesAll(checks);
        int ended = 0;
        for (int seed = 0; seed < RUNS; seed++) {
            EdgeRuns one = new EdgeRuns(seed, checks);
            one.go(seed % 12 < 2);
            if (one.m.isBeyond) ended++;
        }
        System.out.println(ended + " runs ended early, where the document is silent");
        checks.finish("EdgeRuns");
    }

    private static Method named(Class<?> of, String name) {
        return Arrays.stream(of.getDeclaredMethods()).filter(method -> method.getName().equals(name))
                .min(Comparator.comparingInt(Method::getParameterCount)).orElseThrow();
    }

    /** The face has no other methods, so that each one is asked here. */
    private static void namesAll(Checks checks) {
        long faces = Arrays.stream(Overloadery.class.getDeclaredMethods())
                .filter(method -> Modifier.isPublic(method.getModifiers())).count();
        checks.due("methods of the face", () -> faces, (long) CALLED.length);
    }

    private void go(boolean hasManyTypes) throws ReflectiveOperationException {
        int most = hasManyTypes ? 100 + random.nextInt(50) : 0;
        int calls = 0;
        for (int type = 0; m.types() < most; calls++) {
            same(calls, 0, new Object[] {type});
            type = calls % 29 == 28 ? calls / 29 + 1 : m.types() - 1;
        }
        for (int call = calls; call < CALLS && !m.isBeyond; call++) {
            boolean isPreferred = random.nextInt(4) > 0;
            int at = isPreferred ? preferred.get(random.nextInt(preferred.size())) : random.nextInt(CALLED.length);
            if (CALLED[at].equals("raise") && random.nextInt(4) > 0) continue;
            String[] takes = CALLED[at].split(" ");
            Object[] values = new Object[takes.length - 1];
            for (int i = 0; i < values.length; i++) {
                values[i] = value(takes[i + 1].charAt(0));
            }
            same(call, at, values);
        }
    }

    private void same(int call, int at, Object[] values) throws ReflectiveOperationException {
        m.forget();
        Object want = answer(due[at], m, values);
        if (m.isBeyond) return;
        Object got = answer(own[at], x, values);
        String name = run + call + ", " + own[at].getName() + Arrays.toString(values);
        checks.due(name, () -> got, want);
        count(own[at].getName(), want);
    }

    /** The class of an exception is an answer, too. */
    private static Object answer(Method method, Object of, Object[] values) throws ReflectiveOperationException {
        try {
            return method.invoke(of, values);
        } catch (InvocationTargetException e) {
            return e.getCause().getClass();
        }
    }

    private void count(String name, Object answer) {
        boolean isNumber = answer instanceof Integer;
        if (name.equals("addNamespace") && isNumber) counts['n'] = (Integer) answer;
        if (name.equals("addClass") && isNumber) counts['c'] = (Integer) answer + 1;
        if (name.equals("addTemplate") && isNumber) counts['p'] = (Integer) answer + 1;
        if (name.equals("addFunction") && isNumber) counts['f'] = (Integer) answer + 1;
    }

    private Object value(char what) {
        switch (what) {
            case 'b': return random.nextBoolean();
            case 'M': return letter("vrcm");
            case 'K': return letter("lkr");
            case 'L': return letter("pcbd");
            case 'H': return letter("oaaatl");
            case 't': return type();
            case '2': return random.nextBoolean() ? -1 : type();
            default: return within(what);
        }
    }

    private char letter(String letters) {
        return random.nextInt(40) == 0 ? (char) ('a' + random.nextInt(26)) : letters.charAt(random.nextInt(letters.length()));
    }

    private int type() {
        int count = m.types();
        if (isTidy && random.nextInt(3) > 0) return count - 1 - random.nextInt(Math.min(count, 3));
        return random.nextInt(3) == 0 ? near(0, count - 1) : random.nextInt(count);
    }

    private int within(char what) {
        switch (what) {
            case 'c': return near(0, counts['c'] - 1);
            case 'n': return near(0, counts['n']);
            case 'p': return near(0, counts['p'] - 1);
            case 's': return near(-1, random.nextInt(4));
            case 'f': return near(0, counts['f'] - 1);
            case 'q': return near(0, 2);
            case 'g': return near(0, random.nextInt(3));
            case 'd': return near(1, 2);
            case 'a': return random.nextInt(3) > 0 ? 0 : near(0, 5);
            case 'm': return near(0, 3);
            case 'h': return random.nextInt(3) > 0 ? near(0, 6) : near(0, 99);
            case 'y': return random.nextInt(3) > 0 ? 5 : near(1, 5);
            default: return near(0, m.trace() - 1);
        }
    }

    /** A number of a range, now and then one just beyond it or far away from it. */
    private int near(int first, int last) {
        int[] edges = {first - 1, last + 1, first, last, first - 2, last + 2, Integer.MIN_VALUE, Integer.MAX_VALUE};
        if (last < first || random.nextInt(12) == 0) return edges[random.nextInt(random.nextInt(6) == 0 ? 8 : 4)];
        return first + random.nextInt(last - first + 1);
    }
}
