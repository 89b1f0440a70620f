import java.util.ArrayList;
import java.util.HashMap;
import java.util.List;
import java.util.Map;
import java.util.Random;

/**
 * Promise 25 where very many types are met: template 0 tells two rows of letters, others stand around it, and each base moves
 * letters from row to row; some constraints ask what the letters lead to. What is met is compared with Land.
 */
public final class WalkRuns {
    private static final int RUNS = Integer.getInteger("runs", 3000);
    private static final int FIRST = Integer.getInteger("first", 0);
    private static final int LEAST = Integer.getInteger("least", 1500);
    private static final int MOST = 1_300_000;
    private static final int MOST_CALLS = 500;
    private static final int TRIES = 60;
    private static final int TEMPLATES = 5;

    private static int used;
    private static int largest;

    private final Checks checks;
    private final Random random;
    private final int seed;
    private final List<Land.Template> templates = new ArrayList<>();
    private final int classes;
    private final int letters;
    private final int around;
    private final int constrained;
    private Land.Form argument;

    private Overloadery x;
    private int calls;
    private Map<String, Integer> numbers;

    private WalkRuns(int seed, Checks checks) {
        this.seed = seed;
        this.checks = checks;
        random = new Random(seed);
        classes = 1 + random.nextInt(5);
        letters = 1 + random.nextInt(3);
        around = random.nextInt(TEMPLATES - letters + 1);
        constrained = random.nextInt(3);
        for (int i = 0; i < TEMPLATES; i++) {
            templates.add(new Land.Template(i == 0 && random.nextInt(8) > 0));
        }
        for (int i = 0; i <= around; i++) {
            putMoves(i);
        }
        for (int i = 1; i < letters; i++) {
            putLetter(TEMPLATES - i);
        }
        putArgument();
    }

    public static void main(String[] args) throws InterruptedException {
        Checks checks = new Checks();
        Thread thread = new Thread(null, new Runnable() {
            @Override
            public void run() {
                for (int seed = FIRST; seed < FIRST + RUNS; seed++) {
                    try {
                        new WalkRuns(seed, checks).compare();
                    } catch (Land.Unknown e) {
                        // Land does not tell it, so there is nothing to compare with.
                    }
                }
            }
        }, "runs", 2L << 30);
        thread.start();
        thread.join();
        System.out.println(used + " lands, the largest one of " + largest + " types");
        checks.finish("WalkRuns");
    }

    // ---- a land

    private static Land.Form basic(int number) {
        return new Land.Form(number, 0, null, null);
    }

    private static Land.Form parameter(int number) {
        return new Land.Form(Land.PARAMETER, number, null, null);
    }

    private static Land.Form cls(int number) {
        return new Land.Form(Land.CLASS, number, null, null);
    }

    private Land.Form instance(int template, Land.Form first, Land.Form second) {
        return new Land.Form(Land.INSTANCE + template, 0, first, templates.get(template).isTwofold ? second : null);
    }

    private Land.Form row(int length, Land.Form end) {
        Land.Form at = end;
        for (int i = 0; i < length; i++) {
            int letter = random.nextInt(letters);
            at = letter == 0 ? new Land.Form(Land.POINTER, 0, at, null) : instance(TEMPLATES - letter, at, null);
        }
        return at;
    }

    private Land.Form end(int parameter) {
        return random.nextInt(4) == 0 ? basic(random.nextInt(2)) : parameter(parameter);
    }

    private Land.Form sameOrOtherEnd(Land.Form end) {
        return end.kind == Land.PARAMETER ? end : basic(random.nextInt(2));
    }

    private Land.Form wrapped(Land.Form form, int howMany) {
        Land.Form at = form;
        for (int i = 1; i <= howMany; i++) {
            at = instance(i, at, null);
        }
        return at;
    }

    private void putMoves(int template) {
        int howMany = 1 + random.nextInt(3);
        for (int i = 0; i < howMany; i++) {
            putMove(template);
        }
        if (random.nextInt(8) == 0) templates.get(template).base = cls(random.nextInt(classes));
    }

    /** No letter is put that was not taken away, so that the types that are met have an end. */
    private void putMove(int template) {
        Land.Specialisation one = new Land.Specialisation();
        boolean isTwofold = templates.get(0).isTwofold;
        int first = random.nextInt(3);
        int second = isTwofold ? random.nextInt(3) : 0;
        Land.Form firstEnd = end(0);
        Land.Form secondEnd = end(1);
        Land.Form state = instance(0, row(first, firstEnd), row(second, secondEnd));
        one.first = template == 0 ? state.first : wrapped(state, template - 1);
        one.second = template == 0 ? state.second : null;
        int left = Math.max(0, first + second - (random.nextInt(6) == 0 ? 1 : 0));
        int toFirst = isTwofold ? random.nextInt(left + 1) : left;
        Land.Form one1 = sameOrOtherEnd(firstEnd);
        Land.Form one2 = sameOrOtherEnd(secondEnd);
        boolean isExchanged = isTwofold && random.nextBoolean();
        Land.Form next = instance(0, row(toFirst, isExchanged ? one2 : one1), row(left - toFirst, isExchanged ? one1 : one2));
        one.base = wrapped(next, around);
        putConstraints(one, isTwofold ? 2 : 1);
        templates.get(template).specialisations.add(one);
    }

    private void putLetter(int template) {
        Land.Template letter = templates.get(template);
        if (random.nextBoolean()) letter.base = cls(random.nextInt(classes));
        int howMany = random.nextInt(3);
        for (int i = 0; i < howMany; i++) {
            Land.Specialisation one = new Land.Specialisation();
            Land.Form end = end(0);
            int length = random.nextInt(3);
            one.first = row(length, end);
            if (random.nextBoolean()) one.base = cls(random.nextInt(classes));
            else if (random.nextBoolean()) one.base = instance(TEMPLATES - 1 - random.nextInt(letters - 1), row(length, end), null);
            putConstraints(one, 1);
            letter.specialisations.add(one);
        }
    }

    private void putConstraints(Land.Specialisation one, int parameters) {
        for (int i = 0; i < constrained; i++) {
            if (random.nextInt(3) > 0) continue;
            char letter = "pcbddd".charAt(random.nextInt(6));
            one.constraints.add(new Land.Constraint(random.nextInt(parameters), letter, letter == 'd' ? random.nextInt(classes) : 0));
        }
    }

    private void putArgument() {
        int most = 27 - around;
        int length = random.nextBoolean() ? most : 10 + random.nextInt(most - 9);
        int first = templates.get(0).isTwofold ? random.nextInt(length + 1) : length;
        Land.Form one = row(first, basic(random.nextInt(2)));
        argument = wrapped(instance(0, one, row(length - first, basic(random.nextInt(2)))), around);
    }

    // ---- what is met

    private void compare() {
        Land land = new Land(templates, MOST);
        land.met(argument);
        if (land.types() < LEAST) return;
        putAim(land);
        compareOnce();
        dropFirstClass();
        compareOnce();
    }

    /** One that was met, mostly one of the last, gets class 0 as its base. */
    private void putAim(Land land) {
        for (int i = 0; i < TRIES; i++) {
            int place = i < TRIES / 3 ? land.walked() - 1 - i : random.nextInt(land.walked());
            Land.Form form = land.form(place);
            if (form.kind < Land.INSTANCE || templates.get(form.kind - Land.INSTANCE).specialisations.size() >= 4) continue;
            Land.Specialisation aim = new Land.Specialisation();
            aim.first = form.first;
            aim.second = form.second;
            aim.base = cls(0);
            templates.get(form.kind - Land.INSTANCE).specialisations.add(aim);
            return;
        }
    }

    /** Leaves class 0 to the aim alone. */
    private void dropFirstClass() {
        for (Land.Template template : templates) {
            if (template.base != null && template.base.isSame(cls(0))) template.base = cls(classes - 1);
            for (Land.Specialisation one : template.specialisations) {
                boolean isAim = one == template.specialisations.get(template.specialisations.size() - 1);
                if (!isAim && one.base != null && one.base.isSame(cls(0))) one.base = cls(classes - 1);
            }
        }
    }

    private void compareOnce() {
        Land land = new Land(templates, MOST);
        int met = land.met(argument);
        if (!isBuilt()) return;
        used++;
        largest = Math.max(largest, land.types());
        int asked = land.types() > MOST / 10 ? 1 : classes;
        for (int i = 0; i < asked; i++) {
            int name = i;
            checks.due("run " + seed + ": candidates(0, " + name + ")", () -> x.candidates(0, name), met >> i & 1);
        }
    }

    // ---- the calls that tell a land

    private int told(int number) {
        calls++;
        return number;
    }

    private int number(Land.Form form) {
        if (form == null) return -1;
        if (form.kind < Land.POINTER) return form.kind;
        Integer old = numbers.get(form.toString());
        if (old != null) return old;
        int first = number(form.first);
        int second = number(form.second);
        int number;
        if (form.kind == Land.POINTER) number = x.pointerTo(first);
        else if (form.kind == Land.CLASS) number = x.classType(form.number);
        else if (form.kind == Land.PARAMETER) number = x.parameter(form.number);
        else number = x.instance(form.kind - Land.INSTANCE, first, second);
        numbers.put(form.toString(), told(number));
        return number;
    }

    /** Whether all of it can be told. */
    private boolean isBuilt() {
        x = new Overloadery();
        calls = 0;
        numbers = new HashMap<>();
        try {
            for (int i = 0; i < classes; i++) {
                told(x.addNamespace(0));
                told(x.addClass(i + 1));
                told(x.addFunction(i + 1, i, false));
            }
            for (Land.Template template : templates) {
                told(x.addTemplate(template.isTwofold ? 2 : 1));
            }
            for (int i = 0; i < TEMPLATES; i++) {
                build(i, templates.get(i));
            }
            told(x.addArgument(number(argument), 'l'));
        } catch (IllegalStateException e) {
            return false;
        }
        return calls + classes <= MOST_CALLS;
    }

    private void build(int at, Land.Template template) {
        if (template.base != null) told(x.setBase(at, -1, number(template.base)));
        for (int i = 0; i < template.specialisations.size(); i++) {
            Land.Specialisation one = template.specialisations.get(i);
            int first = number(one.first);
            told(x.specialise(at, first, number(one.second)));
            for (Land.Constraint c : one.constraints) {
                told(x.constrain(at, i, c.parameter(), c.letter(), c.cls()));
            }
            if (one.base != null) told(x.setBase(at, i, number(one.base)));
        }
    }
}
