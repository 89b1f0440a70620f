import java.util.ArrayList;
import java.util.Arrays;
import java.util.HashMap;
import java.util.HashSet;
import java.util.List;
import java.util.Map;
import java.util.Set;

/**
 * A plain telling of templates, bodies and looking up, for very many types: each type is made once, each body is found by
 * itself, and each type is gone through once. It knows nothing of instances that ask for their own bodies.
 */
final class Land {
    static final int POINTER = 5;
    static final int CLASS = 6;
    static final int PARAMETER = 7;
    static final int INSTANCE = 8;
    private static final int STEPS = 6;
    private static final int LARGEST = 30;
    private static final byte ITSELF = 6;
    private static final byte UNSURE = 7;
    private static final byte ASKED = 9;

    /** What this telling does not answer: too many types, or an instance that asks for its own body. */
    static final class Unknown extends RuntimeException {
        Unknown() {
            super(null, null, false, false);
        }
    }

    /** A type as it is told: 0 to 4, a pointer, a class, a parameter, an instance. */
    static final class Form {
        final int kind;
        final int number;
        final Form first;
        final Form second;

        Form(int kind, int number, Form first, Form second) {
            this.kind = kind;
            this.number = number;
            this.first = first;
            this.second = second;
        }

        boolean isSame(Form other) {
            if (kind != other.kind || number != other.number) return false;
            if (first != null && !first.isSame(other.first)) return false;
            return second == null || second.isSame(other.second);
        }

        @Override
        public String toString() {
            if (kind < POINTER) return "" + kind;
            if (kind == POINTER) return first + "*";
            if (kind == CLASS) return "C" + number;
            if (kind == PARAMETER) return "p" + number;
            return "t" + (kind - INSTANCE) + "<" + first + (second == null ? "" : "," + second) + ">";
        }
    }

    record Constraint(int parameter, char letter, int cls) {
    }

    static final class Specialisation {
        Form first;
        Form second;
        Form base;
        final List<Constraint> constraints = new ArrayList<>();

        private boolean isAsSpecialAs(Specialisation other) {
            Form[] bound = new Form[3];
            return fits(other.first, first, bound) && (other.second == null || fits(other.second, second, bound));
        }

        boolean isMoreSpecialThan(Specialisation other) {
            if (!isAsSpecialAs(other)) return false;
            if (!other.isAsSpecialAs(this)) return true;
            Set<Constraint> own = told();
            Set<Constraint> others = other.told();
            return own.containsAll(others) && own.size() > others.size();
        }

        private Set<Constraint> told() {
            Set<Constraint> all = new HashSet<>();
            for (Constraint c : constraints) {
                all.add(new Constraint(c.parameter, c.letter, c.letter == 'd' ? c.cls : 0));
            }
            return all;
        }

        private static boolean fits(Form pattern, Form form, Form[] bound) {
            if (pattern.kind == PARAMETER) {
                if (bound[pattern.number] != null) return bound[pattern.number].isSame(form);
                bound[pattern.number] = form;
                return true;
            }
            if (pattern.kind != form.kind || pattern.number != form.number) return false;
            if (pattern.first != null && !fits(pattern.first, form.first, bound)) return false;
            return pattern.second == null || fits(pattern.second, form.second, bound);
        }
    }

    static final class Template {
        final boolean isTwofold;
        Form base;
        final List<Specialisation> specialisations = new ArrayList<>();

        Template(boolean isTwofold) {
            this.isTwofold = isTwofold;
        }
    }

    private final List<Template> templates;
    private final int most;
    private final Map<Long, Integer> ids = new HashMap<>();
    private int[] kinds = new int[1 << 12];
    private int[] firsts = new int[1 << 12];
    private int[] seconds = new int[1 << 12];
    private int[] sizes = new int[1 << 12];
    private int[] bases = new int[1 << 12];
    private byte[] bodies = new byte[1 << 12];
    private boolean[] seen = new boolean[1 << 12];
    private int[] queue = new int[1 << 12];
    private int queued;

    Land(List<Template> templates, int most) {
        this.templates = templates;
        this.most = most;
    }

    int types() {
        return ids.size();
    }

    int walked() {
        return queued;
    }

    /** The classes that are met by way of a type, as bits; no class has bases here. */
    int met(Form argument) {
        int found = 0;
        queued = 0;
        put(made(argument, new int[3]));
        for (int i = 0; i < queued; i++) {
            int id = queue[i];
            if (kinds[id] == CLASS) found |= 1 << firsts[id];
            if (kinds[id] == POINTER || kinds[id] >= INSTANCE) put(firsts[id]);
            if (isTwofold(id)) put(seconds[id]);
            if (kinds[id] >= INSTANCE) put(base(id));
        }
        return found;
    }

    /** What was met as one of the first, or of the last, as it would be told. */
    Form form(int place) {
        return formOf(queue[place]);
    }

    private Form formOf(int id) {
        if (kinds[id] < POINTER) return new Form(kinds[id], 0, null, null);
        if (kinds[id] == CLASS) return new Form(CLASS, firsts[id], null, null);
        return new Form(kinds[id], 0, formOf(firsts[id]), isTwofold(id) ? formOf(seconds[id]) : null);
    }

    private void put(int id) {
        if (id < 0) return;
        if (id >= seen.length) seen = Arrays.copyOf(seen, Math.max(id + 1, seen.length * 2));
        if (seen[id]) return;
        seen[id] = true;
        if (queued == queue.length) queue = Arrays.copyOf(queue, queued * 2);
        queue[queued++] = id;
    }

    private boolean isTwofold(int id) {
        return kinds[id] >= INSTANCE && templates.get(kinds[id] - INSTANCE).isTwofold;
    }

    private int id(int kind, int first, int second) {
        long key = (long) kind << 56 ^ (long) first << 28 ^ second;
        Integer old = ids.get(key);
        if (old != null) return old;
        int id = ids.size();
        if (id >= most) throw new Unknown();
        if (id == kinds.length) grow(id * 2);
        kinds[id] = kind;
        firsts[id] = first;
        seconds[id] = second;
        ids.put(key, id);
        boolean isMade = kind == POINTER || kind >= INSTANCE;
        sizes[id] = 1 + (isMade ? sizes[first] : 0) + (isTwofold(id) ? sizes[second] : 0);
        return id;
    }

    private void grow(int length) {
        kinds = Arrays.copyOf(kinds, length);
        firsts = Arrays.copyOf(firsts, length);
        seconds = Arrays.copyOf(seconds, length);
        sizes = Arrays.copyOf(sizes, length);
        bases = Arrays.copyOf(bases, length);
        bodies = Arrays.copyOf(bodies, length);
    }

    /** The type of a form with what was matched in it; -1 if there is none. */
    private int made(Form form, int[] bound) {
        if (form.kind == PARAMETER) return bound[form.number];
        if (form.kind < POINTER || form.kind == CLASS) return id(form.kind, form.number, 0);
        int first = made(form.first, bound);
        int second = form.second == null ? 0 : made(form.second, bound);
        if (first < 0 || second < 0) return -1;
        int size = 1 + sizes[first] + (form.second == null ? 0 : sizes[second]);
        return size > LARGEST ? -1 : id(form.kind, first, second);
    }

    private boolean fits(Form pattern, int id, int[] bound) {
        if (pattern.kind == PARAMETER) {
            if (bound[pattern.number] >= 0) return bound[pattern.number] == id;
            bound[pattern.number] = id;
            return true;
        }
        if (pattern.kind != kinds[id]) return false;
        if (pattern.kind < POINTER) return true;
        if (pattern.kind == CLASS) return pattern.number == firsts[id];
        if (!fits(pattern.first, firsts[id], bound)) return false;
        return pattern.second == null || fits(pattern.second, seconds[id], bound);
    }

    private int[] bound(Specialisation one, int id) {
        int[] bound = {-1, -1, -1};
        if (!fits(one.first, firsts[id], bound)) return null;
        return one.second == null || fits(one.second, seconds[id], bound) ? bound : null;
    }

    private int base(int id) {
        if (bodies[id] == ASKED) throw new Unknown();
        if (bodies[id] != 0) return bases[id];
        bodies[id] = ASKED;
        Template template = templates.get(kinds[id] - INSTANCE);
        int body = body(template, id);
        int[] bound = {firsts[id], template.isTwofold ? seconds[id] : -1, -1};
        Form base = body == ITSELF ? template.base : null;
        if (body < ITSELF) {
            base = template.specialisations.get(body - 1).base;
            bound = bound(template.specialisations.get(body - 1), id);
        }
        int found = base == null ? -1 : made(base, bound);
        bases[id] = found;
        bodies[id] = (byte) body;
        return found;
    }

    private int body(Template template, int id) {
        List<Specialisation> all = new ArrayList<>();
        for (Specialisation one : template.specialisations) {
            int[] bound = bound(one, id);
            if (bound != null && hold(one, bound)) all.add(one);
        }
        if (all.isEmpty()) return ITSELF;
        for (Specialisation one : all) {
            boolean isBest = true;
            for (Specialisation other : all) {
                if (other != one && !one.isMoreSpecialThan(other)) isBest = false;
            }
            if (isBest) return template.specialisations.indexOf(one) + 1;
        }
        return UNSURE;
    }

    private boolean hold(Specialisation one, int[] bound) {
        for (Constraint c : one.constraints) {
            int id = bound[c.parameter];
            if (id < 0 || !holds(c, id)) return false;
        }
        return true;
    }

    private boolean holds(Constraint c, int id) {
        switch (c.letter) {
            case 'p': return kinds[id] == POINTER;
            case 'c': return kinds[id] == CLASS || kinds[id] >= INSTANCE;
            case 'b': return kinds[id] < POINTER;
            default: return leads(id, c.cls);
        }
    }

    private boolean leads(int id, int cls) {
        int at = id;
        for (int step = 0; step <= STEPS && at >= 0; step++) {
            if (kinds[at] == CLASS) return firsts[at] == cls;
            if (kinds[at] < INSTANCE) return false;
            at = base(at);
        }
        return false;
    }
}
