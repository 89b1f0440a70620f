import java.util.ArrayDeque;
import java.util.ArrayList;
import java.util.Collections;
import java.util.HashMap;
import java.util.HashSet;
import java.util.LinkedHashMap;
import java.util.LinkedHashSet;
import java.util.List;
import java.util.Map;
import java.util.NoSuchElementException;
import java.util.Set;
import java.util.TreeSet;

/**
 * The document once more, with trees, sets and logs of the Java library and as plainly as it goes; RandomRuns compares the
 * program with it. Where instances ask for one another in a circle, it tries all ways of choosing their bodies; if not
 * just one goes with the document, or if there are too many types or ways, it sets isBeyond.
 */
final class Model {
    static final class Type {
        final char kind;
        final int number;
        final List<Type> parts;
        private final int hash;
        private final int size;

        Type(char kind, int number, List<Type> parts) {
            this.kind = kind;
            this.number = number;
            this.parts = parts;
            int mixed = (kind * 31 + number) * 0x9E3779B1;
            for (Type part : parts) mixed = (mixed ^ mixed >>> 15 ^ part.hash) * 0x85EBCA6B + 1;
            hash = mixed ^ mixed >>> 13;
            int sum = 1;
            for (Type part : parts) sum += part.size;
            size = sum;
        }

        int size() {
            return size;
        }

        boolean isOpen() {
            return kind == 't' || parts.stream().anyMatch(Type::isOpen);
        }

        boolean hasBases() {
            return kind == 'c' || kind == 'i';
        }

        @Override
        public int hashCode() {
            return hash;
        }

        @Override
        public boolean equals(Object other) {
            if (this == other) return true;
            if (!(other instanceof Type)) return false;
            Type type = (Type) other;
            boolean isAlike = hash == type.hash && kind == type.kind && number == type.number;
            return isAlike && parts.equals(type.parts);
        }
    }

    record Constraint(int parameter, char letter, int cls) {
    }

    record Base(int cls, boolean isVirtual) {
    }

    record Body(int cls, int object) {
    }

    static final class Cls {
        int namespace;
        List<Base> bases = new ArrayList<>();
        List<Integer> members = new ArrayList<>();
        List<Type> from = new ArrayList<>();
        List<Type> to = new ArrayList<>();
        boolean[] overrides = new boolean[4];
        int speaks = -1;
        boolean delegates;
        int times;
    }

    static final class Pattern {
        List<Type> row = new ArrayList<>();
        Type base;
        List<Constraint> constraints = new ArrayList<>();
    }

    static final class Template {
        int parameters;
        Type base;
        List<Pattern> specialisations = new ArrayList<>();
    }

    static final class Function {
        int namespace;
        int name;
        boolean isDeleted;
        List<Character> modes = new ArrayList<>();
        Pattern told = new Pattern();

        boolean isTemplate() {
            return told.row.stream().anyMatch(Type::isOpen);
        }
    }

    record Argument(Type type, char category) {
    }

    record Way(int rank, int grade, boolean isSure) {
    }

    record Settled(Map<Integer, Type> bound, List<Way> ways) {
    }

    static final class Block {
        boolean isTry;
        List<List<Body>> objects = new ArrayList<>();
    }

    /** The types for which the body is looked for in one call; those in a circle; the ways that are tried. */
    private static final int MOST = 200;
    private static final int MOST_IN_CIRCLES = 40;
    private static final int MOST_WAYS = 3000;

    boolean isBeyond;
    private final List<Type> types = new ArrayList<>();
    private final List<Integer> outers = new ArrayList<>(List.of(-1));
    private final List<Cls> classes = new ArrayList<>();
    private final List<Template> templates = new ArrayList<>();
    private final List<Function> functions = new ArrayList<>();
    private final List<Argument> arguments = new ArrayList<>();
    private final Set<Type> inProgress = new HashSet<>();
    private final Map<Type, Integer> remembered = new HashMap<>();
    private final List<Block> blocks = new ArrayList<>();
    private final List<List<Body>> temporaries = new ArrayList<>();
    private final List<String> trace = new ArrayList<>();
    private int objects;
    private long made;
    private long takenDown;

    Model() {
        for (int i = 0; i < 5; i++) types.add(new Type('b', i, List.of()));
        blocks.add(new Block());
    }

    private <T> T at(List<T> list, int index) {
        if (index < 0 || index >= list.size()) throw new IndexOutOfBoundsException();
        return list.get(index);
    }

    private static void legal(boolean is) {
        if (!is) throw new IllegalArgumentException();
    }

    private static void state(boolean is) {
        if (!is) throw new IllegalStateException();
    }

    private int numbered(Type type) {
        int known = types.indexOf(type);
        if (known >= 0) return known;
        state(types.size() < 150 && type.size() <= 30);
        types.add(type);
        return types.size() - 1;
    }

    // ---- types

    int pointerTo(int type) {
        return numbered(new Type('p', 0, List.of(at(types, type))));
    }

    int classType(int cls) {
        at(classes, cls);
        return numbered(new Type('c', cls, List.of()));
    }

    int parameter(int parameter) {
        legal(parameter >= 0 && parameter <= 2);
        return numbered(new Type('t', parameter, List.of()));
    }

    private List<Type> row(int template, int first, int second) {
        Template told = at(templates, template);
        List<Type> row = new ArrayList<>();
        row.add(at(types, first));
        if (second != -1) row.add(at(types, second));
        legal(row.size() == told.parameters);
        return row;
    }

    int instance(int template, int first, int second) {
        return numbered(new Type('i', template, row(template, first, second)));
    }

    char kindOf(int type) {
        return at(types, type).kind;
    }

    int types() {
        return types.size();
    }

    int baseOf(int type) {
        Type told = at(types, type);
        legal(told.kind == 'i' && !told.isOpen());
        Type base = base(told);
        if (base == null) throw new NoSuchElementException();
        return numbered(base);
    }

    int chosenFor(int type) {
        Type told = at(types, type);
        legal(told.kind == 'i' && !told.isOpen());
        return chosen(told);
    }

    boolean isOpenAt(int type) {
        return at(types, type).isOpen();
    }

    // ---- matching and instances

    private static boolean matches(Type pattern, Type type, Map<Integer, Type> bound) {
        if (pattern.kind == 't') {
            Type before = bound.putIfAbsent(pattern.number, type);
            return before == null || before.equals(type);
        }
        if (pattern.kind != type.kind || pattern.number != type.number) return false;
        for (int i = 0; i < pattern.parts.size(); i++) {
            if (!matches(pattern.parts.get(i), type.parts.get(i), bound)) return false;
        }
        return true;
    }

    private static Map<Integer, Type> matchesRow(List<Type> patterns, List<Type> row) {
        Map<Integer, Type> bound = new HashMap<>();
        for (int i = 0; i < patterns.size(); i++) {
            if (!matches(patterns.get(i), row.get(i), bound)) return null;
        }
        return bound;
    }

    private static boolean isMoreSpecial(Pattern own, Pattern other) {
        boolean isAsSpecial = matchesRow(other.row, own.row) != null;
        boolean isOtherAsSpecial = matchesRow(own.row, other.row) != null;
        Set<Constraint> ownSet = new HashSet<>(own.constraints);
        Set<Constraint> otherSet = new HashSet<>(other.constraints);
        boolean isMore = ownSet.containsAll(otherSet) && !otherSet.containsAll(ownSet);
        return isAsSpecial && (!isOtherAsSpecial || isMore);
    }

    private boolean holds(Constraint constraint, Map<Integer, Type> bound) {
        Type type = bound.get(constraint.parameter);
        if (type == null) return false;
        switch (constraint.letter) {
            case 'p': return type.kind == 'p';
            case 'c': return type.hasBases();
            case 'b': return type.kind == 'b';
            default: return type.hasBases() && leads(type, new Type('c', constraint.cls, List.of())) >= 0;
        }
    }

    /** What is chosen is remembered until forget(), as it would be looked for far too often otherwise. */
    private int chosen(Type instance) {
        if (fixed != null) {
            if (!fixed.containsKey(instance)) isBeyond = true;
            return fixed.getOrDefault(instance, -2);
        }
        Integer before = remembered.get(instance);
        if (before != null) return before;
        int found = chosenAnew(instance);
        if (!isBeyond) remembered.put(instance, found);
        return found;
    }

    /** To be called ahead of each call. */
    void forget() {
        remembered.clear();
        inProgress.clear();
        isBeyond = false;
        circles = 0;
    }

    private int chosenAnew(Type instance) {
        if (isBeyond || inProgress.size() > 100 || remembered.size() > MOST) {
            isBeyond = true;
            return -2;
        }
        if (!inProgress.add(instance)) return chosenInCircle(instance);
        List<Pattern> all = templates.get(instance.number).specialisations;
        List<Integer> fitting = new ArrayList<>();
        for (int i = 0; i < all.size(); i++) {
            Map<Integer, Type> bound = matchesRow(all.get(i).row, instance.parts);
            if (bound == null) continue;
            boolean doHold = true;
            for (Constraint constraint : all.get(i).constraints) doHold = doHold && holds(constraint, bound);
            if (doHold) fitting.add(i);
        }
        inProgress.remove(instance);
        return mostSpecial(all, fitting);
    }

    private static int mostSpecial(List<Pattern> all, List<Integer> fitting) {
        if (fitting.isEmpty()) return -1;
        for (int own : fitting) {
            boolean isBest = true;
            for (int other : fitting) {
                if (other != own && !isMoreSpecial(all.get(own), all.get(other))) isBest = false;
            }
            if (isBest) return own;
        }
        return -2;
    }

    // ---- ways, each of which tells the bodies of all instances that come about

    /** If it is told, answers go by this way. */
    private Map<Type, Integer> fixed;
    private final List<Map<Type, Integer>> ways = new ArrayList<>();
    private final List<Type> world = new ArrayList<>();
    private final Set<Type> met = new HashSet<>();

    /**
     * Finds all ways to choose the bodies of the instances that come about by way of the types with numbers: those in them,
     * their bases, and so on. Tells how many there are; -1 if there are too many instances, or too many ways to try.
     */
    int findWays(int mostInstances, int mostTries) {
        forget();
        ways.clear();
        way.clear();
        world.clear();
        met.clear();
        tries = 0;
        for (Type type : types) {
            if (!type.isOpen()) meet(type, new ArrayList<>());
        }
        boolean areAllFound = choose(0, mostInstances, mostTries);
        way.clear();
        forget();
        return areAllFound ? ways.size() : -1;
    }

    private void meet(Type type, List<Type> added) {
        if (type == null || !met.add(type)) return;
        added.add(type);
        for (Type part : type.parts) meet(part, added);
        if (type.kind == 'i') world.add(type);
    }

    private boolean choose(int at, int mostInstances, int mostTries) {
        if (++tries > mostTries || ways.size() > 200 || world.size() > mostInstances) return false;
        if (at == world.size()) {
            ways.add(new HashMap<>(way));
            return true;
        }
        Type type = world.get(at);
        for (int body = -2; body < templates.get(type.number).specialisations.size(); body++) {
            if (!fits(type, body)) continue;
            way.put(type, body);
            boolean isGood = true;
            for (Type other : way.keySet()) isGood = isGood && goes(other);
            List<Type> added = new ArrayList<>();
            int before = world.size();
            if (isGood) meet(base(type, body), added);
            boolean areAllFound = !isGood || choose(at + 1, mostInstances, mostTries);
            while (world.size() > before) world.remove(world.size() - 1);
            added.forEach(met::remove);
            way.remove(type);
            if (!areAllFound) return false;
        }
        return true;
    }

    /** Lets all answers go by one of the ways, or by none. */
    void fix(int which) {
        forget();
        fixed = which < 0 ? null : ways.get(which);
    }

    // ---- circles

    /** How many instances were met while their own bodies were looked for. */
    int circles;
    private final Map<Type, Integer> way = new HashMap<>();
    private final Set<List<Object>> seenAtStep = new HashSet<>();
    private int tries;

    private int chosenInCircle(Type instance) {
        circles++;
        seenAtStep.clear();
        Set<Type> all = new LinkedHashSet<>();
        gather(instance, new HashSet<>(), all);
        Set<Integer> answers = new HashSet<>();
        way.clear();
        tries = 0;
        if (!isBeyond) tryWays(instance, new ArrayList<>(all), 0, answers);
        if (answers.size() != 1) isBeyond = true;
        return answers.size() == 1 ? answers.iterator().next() : -2;
    }

    /** Gathers all instances on which the body of one can depend, whatever their bodies are; it comes last itself. */
    private void gather(Type instance, Set<Type> seen, Set<Type> all) {
        if (!seen.add(instance)) return;
        if (seen.size() > MOST_IN_CIRCLES) isBeyond = true;
        if (isBeyond) return;
        for (Pattern pattern : templates.get(instance.number).specialisations) {
            Map<Integer, Type> bound = matchesRow(pattern.row, instance.parts);
            if (bound == null) continue;
            for (Constraint constraint : pattern.constraints) {
                Type type = bound.get(constraint.parameter);
                if (constraint.letter == 'd' && type != null) gatherBases(type, 0, seen, all);
            }
        }
        all.add(instance);
    }

    private void gatherBases(Type type, int step, Set<Type> seen, Set<Type> all) {
        if (type.kind != 'i' || step == 6 || !seenAtStep.add(List.of(type, step))) return;
        gather(type, seen, all);
        for (int body = -2; body < templates.get(type.number).specialisations.size() && !isBeyond; body++) {
            Type base = fits(type, body) ? base(type, body) : null;
            if (base != null) gatherBases(base, step + 1, seen, all);
        }
    }

    /** Whether an instance can have a body, whatever the constraints. */
    private boolean fits(Type type, int body) {
        return body < 0 || matchesRow(templates.get(type.number).specialisations.get(body).row, type.parts) != null;
    }

    private void tryWays(Type asked, List<Type> all, int at, Set<Integer> answers) {
        if (++tries > MOST_WAYS) isBeyond = true;
        if (isBeyond || answers.size() > 1) return;
        if (at == all.size()) {
            answers.add(way.get(asked));
            return;
        }
        Type type = all.get(at);
        for (int body = -2; body < templates.get(type.number).specialisations.size(); body++) {
            if (!fits(type, body)) continue;
            way.put(type, body);
            boolean isGood = true;
            for (Type other : way.keySet()) isGood = isGood && goes(other);
            if (isGood) tryWays(asked, all, at + 1, answers);
            way.remove(type);
        }
    }

    /** Whether the body of an instance follows from the others, as far as these are there. */
    private boolean goes(Type instance) {
        List<Pattern> all = templates.get(instance.number).specialisations;
        List<Integer> fitting = new ArrayList<>();
        for (int i = 0; i < all.size(); i++) {
            Map<Integer, Type> bound = matchesRow(all.get(i).row, instance.parts);
            if (bound == null) continue;
            boolean doHold = true;
            for (Constraint constraint : all.get(i).constraints) {
                if (constraint.letter != 'd') {
                    doHold = doHold && holds(constraint, bound);
                    continue;
                }
                int leads = leadsInWay(bound.get(constraint.parameter), constraint.cls);
                if (leads == -1) return true;
                doHold = doHold && leads == 1;
            }
            if (doHold) fitting.add(i);
        }
        return way.get(instance) == mostSpecial(all, fitting);
    }

    /** 1 if a type leads to a class, 0 if not, -1 if a body is not there. */
    private int leadsInWay(Type type, int cls) {
        if (type == null) return 0;
        Type at = type;
        for (int step = 0; at != null && at.kind == 'i' && step < 6; step++) {
            if (!way.containsKey(at)) return -1;
            at = base(at, way.get(at));
            if (at == null || at.kind != 'c') continue;
            int more = steps(at.number, cls);
            return more >= 0 && step + 1 + more <= 6 ? 1 : 0;
        }
        return type.kind == 'c' && leads(type, new Type('c', cls, List.of())) >= 0 ? 1 : 0;
    }

    private static Type replaced(Type type, Map<Integer, Type> bound) {
        if (type.kind == 't') return bound.get(type.number);
        List<Type> parts = new ArrayList<>();
        for (Type part : type.parts) {
            Type other = replaced(part, bound);
            if (other == null) return null;
            parts.add(other);
        }
        return new Type(type.kind, type.number, parts);
    }

    private Type base(Type instance) {
        return base(instance, chosen(instance));
    }

    private Type base(Type instance, int body) {
        if (body == -2) return null;
        Template template = templates.get(instance.number);
        Map<Integer, Type> bound = new HashMap<>();
        Type told = template.base;
        if (body == -1) {
            for (int i = 0; i < instance.parts.size(); i++) bound.put(i, instance.parts.get(i));
        } else {
            bound = matchesRow(template.specialisations.get(body).row, instance.parts);
            told = template.specialisations.get(body).base;
        }
        Type base = told == null ? null : replaced(told, bound);
        return base == null || base.size() > 30 ? null : base;
    }

    /** The bases of an instance with their distances. */
    private Map<Type, Integer> bases(Type instance) {
        Map<Type, Integer> found = new LinkedHashMap<>();
        Type at = instance;
        for (int step = 1; step <= 6 && at != null && at.kind == 'i'; step++) {
            at = base(at);
            if (at == null) break;
            found.putIfAbsent(at, step);
            if (at.kind != 'c') continue;
            for (int cls = 0; cls < classes.size(); cls++) {
                int more = steps(at.number, cls);
                if (more > 0 && step + more <= 6) found.putIfAbsent(new Type('c', cls, List.of()), step + more);
            }
        }
        return found;
    }

    /** The distance to a base, or to itself, to which a type leads; -1 for none, -2 for several parts. */
    private int leads(Type type, Type base) {
        if (type.equals(base)) return 0;
        if (type.kind == 'i') return bases(type).getOrDefault(base, -1);
        if (type.kind != 'c' || base.kind != 'c') return -1;
        int steps = steps(type.number, base.number);
        return steps > 0 && countParts(type.number, base.number) > 1 ? -2 : steps;
    }

    // ---- classes

    /** The least number of steps, by going through the bases level by level; -1 if it is no base. */
    private int steps(int cls, int base) {
        Map<Integer, Integer> seen = new HashMap<>(Map.of(cls, 0));
        ArrayDeque<Integer> queue = new ArrayDeque<>(List.of(cls));
        while (!queue.isEmpty()) {
            int at = queue.poll();
            for (Base next : classes.get(at).bases) {
                if (seen.putIfAbsent(next.cls, seen.get(at) + 1) == null) queue.add(next.cls);
            }
        }
        return seen.getOrDefault(base, -1);
    }

    /** All parts, each a way that begins at the whole object or at a virtual base. */
    private Set<List<Integer>> parts(int cls) {
        Set<List<Integer>> ways = new LinkedHashSet<>();
        ArrayDeque<List<Integer>> queue = new ArrayDeque<>(List.of(List.of(cls)));
        while (!queue.isEmpty()) {
            List<Integer> way = queue.poll();
            if (!ways.add(way)) continue;
            for (Base base : classes.get(way.get(way.size() - 1)).bases) {
                List<Integer> longer = new ArrayList<>(base.isVirtual ? List.of(-1) : way);
                longer.add(base.cls);
                queue.add(longer);
            }
        }
        return ways;
    }

    private int countParts(int cls, int base) {
        int count = 0;
        for (List<Integer> way : parts(cls)) {
            if (way.get(way.size() - 1) == base) count++;
        }
        return count;
    }

    int addNamespace(int outer) {
        at(outers, outer);
        state(outers.size() < 6);
        outers.add(outer);
        return outers.size() - 1;
    }

    int addClass(int namespace) {
        at(outers, namespace);
        state(classes.size() < 12);
        Cls cls = new Cls();
        cls.namespace = namespace;
        classes.add(cls);
        return classes.size() - 1;
    }

    int addBase(int cls, int base, boolean isVirtual) {
        Cls told = at(classes, cls);
        at(classes, base);
        legal(base < cls && told.bases.stream().noneMatch(b -> b.cls == base));
        state(told.bases.size() < 3 && objects == 0);
        told.bases.add(new Base(base, isVirtual));
        return told.bases.size();
    }

    int addMember(int cls, int member) {
        Cls told = at(classes, cls);
        at(classes, member);
        legal(member < cls);
        state(told.members.size() < 3 && objects == 0);
        told.members.add(member);
        return told.members.size();
    }

    int addConversion(int cls, int type, boolean isFrom) {
        Cls told = at(classes, cls);
        Type other = at(types, type);
        List<Type> list = isFrom ? told.from : told.to;
        legal(!other.isOpen() && !other.equals(new Type('c', cls, List.of())) && !list.contains(other));
        state(list.size() < 2);
        list.add(other);
        return list.size();
    }

    int addTemplate(int parameters) {
        legal(parameters == 1 || parameters == 2);
        state(templates.size() < 5);
        Template template = new Template();
        template.parameters = parameters;
        templates.add(template);
        return templates.size() - 1;
    }

    int specialise(int template, int first, int second) {
        Pattern pattern = new Pattern();
        pattern.row = row(template, first, second);
        List<Pattern> list = templates.get(template).specialisations;
        state(list.size() < 4);
        list.add(pattern);
        return list.size() - 1;
    }

    int setBase(int template, int specialisation, int type) {
        Template told = at(templates, template);
        Pattern pattern = specialisation == -1 ? null : at(told.specialisations, specialisation);
        Type base = type == -1 ? null : at(types, type);
        legal(base == null || base.hasBases());
        Type before = pattern == null ? told.base : pattern.base;
        if (pattern == null) told.base = base;
        else pattern.base = base;
        return before == null ? -1 : types.indexOf(before);
    }

    private int constrainSet(List<Constraint> set, int parameter, char letter, int cls) {
        if (letter == 'd') at(classes, cls);
        legal(parameter >= 0 && parameter <= 2 && "pcbd".indexOf(letter) >= 0);
        state(set.size() < 4);
        set.add(new Constraint(parameter, letter, letter == 'd' ? cls : -1));
        return set.size();
    }

    int constrain(int template, int specialisation, int parameter, char letter, int cls) {
        List<Constraint> set = at(at(templates, template).specialisations, specialisation).constraints;
        return constrainSet(set, parameter, letter, cls);
    }

    int distance(int type, int base) {
        Type from = at(types, type);
        Type to = at(types, base);
        legal(from.hasBases() && to.hasBases() && !from.isOpen() && !to.isOpen());
        int steps = leads(from, to);
        if (steps == -1) throw new NoSuchElementException();
        if (steps == -2) throw new UnsupportedOperationException();
        return steps;
    }

    // ---- functions

    int addFunction(int namespace, int name, boolean isDeleted) {
        at(outers, namespace);
        legal(name >= 0 && name <= 5);
        state(functions.size() < 24);
        Function function = new Function();
        function.namespace = namespace;
        function.name = name;
        function.isDeleted = isDeleted;
        functions.add(function);
        return functions.size() - 1;
    }

    int addParameter(int function, char mode, int type) {
        Function told = at(functions, function);
        Type parameter = at(types, type);
        legal("vrcm".indexOf(mode) >= 0);
        state(told.modes.size() < 3);
        told.modes.add(mode);
        told.told.row.add(parameter);
        return told.modes.size();
    }

    int require(int function, int parameter, char letter, int cls) {
        return constrainSet(at(functions, function).told.constraints, parameter, letter, cls);
    }

    int addArgument(int type, char category) {
        Type told = at(types, type);
        legal(!told.isOpen() && "lkr".indexOf(category) >= 0);
        state(arguments.size() < 3);
        arguments.add(new Argument(told, category));
        return arguments.size();
    }

    int clearArguments() {
        int before = arguments.size();
        arguments.clear();
        return before;
    }

    private void associated(Type type, Set<Integer> namespaces, Set<Type> seen) {
        if (!seen.add(type)) return;
        if (seen.size() > MOST) isBeyond = true;
        if (isBeyond) return;
        if (type.kind == 'c') {
            for (List<Integer> way : parts(type.number)) namespaces.add(classes.get(way.get(way.size() - 1)).namespace);
        }
        for (Type part : type.parts) associated(part, namespaces, seen);
        if (type.kind == 'i') {
            for (Type base : bases(type).keySet()) associated(base, namespaces, seen);
        }
    }

    private List<Integer> found(int namespace, int name) {
        at(outers, namespace);
        legal(name >= 0 && name <= 5);
        Set<Integer> namespaces = new HashSet<>();
        int at = namespace;
        while (at != -1) {
            int place = at;
            if (functions.stream().anyMatch(f -> f.name == name && f.namespace == place)) {
                namespaces.add(at);
                break;
            }
            at = outers.get(at);
        }
        Set<Type> seen = new HashSet<>();
        for (Argument argument : arguments) associated(argument.type, namespaces, seen);
        Set<Integer> all = new TreeSet<>();
        for (int i = 0; i < functions.size(); i++) {
            Function function = functions.get(i);
            if (function.name == name && namespaces.contains(function.namespace)) all.add(i);
        }
        return new ArrayList<>(all);
    }

    int candidates(int namespace, int name) {
        return found(namespace, name).size();
    }

    /** The type of a parameter for an argument; what is matched is added to what is bound; null if there is none. */
    private Type taken(Type pattern, Type type, Map<Integer, Type> bound) {
        Map<Integer, Type> tried = new HashMap<>(bound);
        if (matches(pattern, type, tried)) {
            bound.putAll(tried);
            return type;
        }
        if (pattern.kind != 'i' || type.kind != 'i') return null;
        Type only = null;
        Map<Integer, Type> chosen = null;
        for (Type base : bases(type).keySet()) {
            tried = new HashMap<>(bound);
            if (!matches(pattern, base, tried)) continue;
            if (only != null) return null;
            only = base;
            chosen = tried;
        }
        if (only != null) bound.putAll(chosen);
        return only;
    }

    private static Way made(Type from, Type to) {
        boolean areBasic = from.kind == 'b' && to.kind == 'b' && !from.equals(to);
        if (areBasic && from.number < 2 && to.number == 2) return new Way(1, 0, true);
        return areBasic ? new Way(2, 0, true) : null;
    }

    private Way valueWay(Type from, Type to) {
        if (from.kind == 'p' && to.kind == 'b' && to.number == 0) return new Way(2, 99, true);
        if (from.kind != 'p' || to.kind != 'p') return made(from, to);
        Type own = from.parts.get(0);
        int steps = own.hasBases() ? leads(own, to.parts.get(0)) : -1;
        return steps > 0 ? new Way(2, 2 * steps, true) : null;
    }

    private Way converted(Type from, Type to) {
        int count = 0;
        if (to.kind == 'c') {
            for (Type told : classes.get(to.number).from) {
                if (told.equals(from) || valueWay(from, told) != null) count++;
            }
        }
        if (from.kind == 'c') {
            for (Type told : classes.get(from.number).to) {
                if (told.equals(to) || valueWay(told, to) != null) count++;
            }
        }
        return count == 0 ? null : new Way(3, 0, count == 1);
    }

    private Way comes(Argument argument, char mode, Type told, Type parameter) {
        char category = argument.category;
        boolean takes = true;
        if (mode == 'r') takes = category == 'l';
        if (mode == 'm') takes = category == 'r' || told.kind == 't';
        int more = 0;
        if ((mode == 'v' || mode == 'c') && category != 'k') more = 1;
        if (mode == 'm' && category != 'r') more = 1;
        if (takes && argument.type.equals(parameter)) return new Way(0, more, true);
        if (takes && argument.type.hasBases()) {
            int steps = leads(argument.type, parameter);
            if (steps > 0) return new Way(2, 2 * steps + more, true);
        }
        if (mode == 'r') return null;
        Way way = valueWay(argument.type, parameter);
        return way != null ? way : converted(argument.type, parameter);
    }

    /** What is bound and how the arguments come; null if the function is not viable. */
    private Settled settle(Function function) {
        if (function.modes.size() != arguments.size()) return null;
        Map<Integer, Type> bound = new HashMap<>();
        List<Type> parameters = new ArrayList<>();
        for (int i = 0; i < arguments.size(); i++) {
            Type told = function.told.row.get(i);
            Type type = told.isOpen() ? taken(told, arguments.get(i).type, bound) : told;
            if (type == null) return null;
            parameters.add(type);
        }
        for (Constraint constraint : function.told.constraints) {
            if (!holds(constraint, bound)) return null;
        }
        List<Way> ways = new ArrayList<>();
        for (int i = 0; i < arguments.size(); i++) {
            Way way = comes(arguments.get(i), function.modes.get(i), function.told.row.get(i), parameters.get(i));
            if (way == null) return null;
            ways.add(way);
        }
        return new Settled(bound, ways);
    }

    boolean isViable(int function) {
        return settle(at(functions, function)) != null;
    }

    int coming(int function, int argument) {
        Function told = at(functions, function);
        at(arguments, argument);
        Settled settled = settle(told);
        state(settled != null);
        Way way = settled.ways.get(argument);
        int answer = 1000 * way.rank + way.grade;
        return way.isSure ? answer : -1 - answer;
    }

    int deduced(int function, int parameter) {
        Function told = at(functions, function);
        if (parameter < 0 || parameter > 2) throw new IndexOutOfBoundsException();
        Settled settled = settle(told);
        state(settled != null);
        Type type = settled.bound.get(parameter);
        if (type == null) throw new NoSuchElementException();
        if (!types.contains(type) && types.size() >= 150) throw new UnsupportedOperationException();
        return numbered(type);
    }

    private boolean isBetter(Function own, Function other) {
        List<Way> ownWays = settle(own).ways;
        List<Way> otherWays = settle(other).ways;
        boolean isLess = false;
        for (int i = 0; i < ownWays.size(); i++) {
            Way mine = ownWays.get(i);
            Way its = otherWays.get(i);
            if (mine.rank > its.rank || mine.rank == its.rank && mine.grade > its.grade) return false;
            if (mine.rank < its.rank || mine.grade < its.grade) isLess = true;
        }
        if (isLess) return true;
        if (!own.isTemplate()) return other.isTemplate();
        return other.isTemplate() && isMoreSpecial(own.told, other.told);
    }

    int resolve(int namespace, int name) {
        List<Integer> viable = found(namespace, name);
        viable.removeIf(i -> settle(functions.get(i)) == null);
        if (viable.isEmpty()) return -1;
        for (int own : viable) {
            Function function = functions.get(own);
            if (!viable.stream().allMatch(i -> i == own || isBetter(function, functions.get(i)))) continue;
            if (function.isDeleted) return -3;
            return settle(function).ways.stream().allMatch(Way::isSure) ? own : -4;
        }
        return -2;
    }

    // ---- objects

    boolean override(int cls, int method, boolean does) {
        Cls told = at(classes, cls);
        legal(method >= 0 && method <= 3);
        boolean before = told.overrides[method];
        told.overrides[method] = does;
        return before;
    }

    int overrider(int cls, int method) {
        at(classes, cls);
        legal(method >= 0 && method <= 3);
        return owner(cls, method);
    }

    private int owner(int cls, int method) {
        if (classes.get(cls).overrides[method]) return cls;
        List<Integer> all = new ArrayList<>();
        for (int i = 0; i < classes.size(); i++) {
            if (steps(cls, i) > 0 && classes.get(i).overrides[method]) all.add(i);
        }
        List<Integer> last = new ArrayList<>(all);
        last.removeIf(i -> all.stream().anyMatch(j -> steps(j, i) > 0));
        return last.isEmpty() ? -1 : last.size() > 1 ? -2 : last.get(0);
    }

    int setBody(int cls, int method, boolean delegates) {
        Cls told = at(classes, cls);
        legal(method >= -1 && method <= 3);
        int before = told.speaks;
        told.speaks = method;
        told.delegates = delegates;
        return before;
    }

    int setThrow(int cls, int times) {
        Cls told = at(classes, cls);
        legal(times >= 0 && times <= 99);
        int before = told.times;
        told.times = times;
        return before;
    }

    int open(boolean isTry) {
        state(blocks.size() < 10);
        Block block = new Block();
        block.isTry = isTry;
        blocks.add(block);
        return blocks.size();
    }

    private void takeAll(List<List<Body>> all) {
        Collections.reverse(all);
        for (List<Body> bodies : all) takeDown(bodies);
        all.clear();
    }

    int close() {
        state(blocks.size() > 1);
        takeAll(temporaries);
        takeAll(blocks.remove(blocks.size() - 1).objects);
        return blocks.size();
    }

    private void note(char kind, int cls, int object) {
        if (trace.size() < 600) trace.add(kind + " " + cls + " " + object);
    }

    private void takeDown(List<Body> bodies) {
        Collections.reverse(bodies);
        for (Body body : bodies) {
            speak(body);
            note('D', body.cls, body.object);
            takenDown++;
        }
    }

    private void speak(Body body) {
        int method = classes.get(body.cls).speaks;
        if (method >= 0) note('V', owner(body.cls, method), body.object);
    }

    private void virtuals(int cls, Set<Integer> found) {
        for (Base base : classes.get(cls).bases) {
            virtuals(base.cls, found);
            if (base.isVirtual) found.add(base.cls);
        }
    }

    /** Makes a whole object; its bodies are logged, and are all that is made when it throws. */
    private boolean whole(int cls, List<Body> log) {
        int object = objects++;
        Set<Integer> virtuals = new LinkedHashSet<>();
        virtuals(cls, virtuals);
        for (int base : virtuals) {
            if (!part(base, object, log)) return false;
        }
        return part(cls, object, log);
    }

    private boolean part(int cls, int object, List<Body> log) {
        Cls told = classes.get(cls);
        for (Base base : told.bases) {
            if (!base.isVirtual && !part(base.cls, object, log)) return false;
        }
        for (int member : told.members) {
            if (!whole(member, log)) return false;
        }
        boolean isThrowing = told.times == 1;
        if (told.times > 0) told.times--;
        if (isThrowing && !told.delegates) {
            note('X', cls, object);
            return false;
        }
        note('C', cls, object);
        made++;
        log.add(new Body(cls, object));
        speak(new Body(cls, object));
        if (told.delegates) note(isThrowing ? 'X' : 'G', cls, object);
        return !isThrowing;
    }

    char make(int cls, char how, int many) {
        at(classes, cls);
        legal("oatl".indexOf(how) >= 0 && (how != 'a' || many >= 1 && many <= 5));
        int count = how == 'a' ? many : 1;
        state(living() + count <= 40);
        List<List<Body>> all = new ArrayList<>();
        for (int i = 0; i < count; i++) {
            List<Body> log = new ArrayList<>();
            if (!whole(cls, log)) {
                takeDown(log);
                takeAll(all);
                return raise();
            }
            all.add(log);
        }
        (how == 't' ? temporaries : blocks.get(blocks.size() - 1).objects).addAll(all);
        return 'm';
    }

    int endExpression() {
        int count = temporaries.size();
        takeAll(temporaries);
        return count;
    }

    char raise() {
        takeAll(temporaries);
        while (true) {
            Block block = blocks.get(blocks.size() - 1);
            takeAll(block.objects);
            if (blocks.size() == 1) return 'u';
            blocks.remove(blocks.size() - 1);
            if (block.isTry) return 'c';
        }
    }

    int living() {
        int sum = temporaries.size();
        for (Block block : blocks) sum += block.objects.size();
        return sum;
    }

    int trace() {
        return trace.size();
    }

    char traceKind(int index) {
        return at(trace, index).charAt(0);
    }

    int traceClass(int index) {
        return Integer.parseInt(at(trace, index).split(" ")[1]);
    }

    int traceObject(int index) {
        return Integer.parseInt(at(trace, index).split(" ")[2]);
    }

    // ---- totals

    long made() {
        return made;
    }

    long takenDown() {
        return takenDown;
    }

    float viableShare() {
        if (functions.isEmpty()) throw new ArithmeticException();
        return (float) functions.stream().filter(f -> settle(f) != null).count() / (float) functions.size();
    }

    double meanParts() {
        if (classes.isEmpty()) throw new ArithmeticException();
        int sum = 0;
        for (int i = 0; i < classes.size(); i++) sum += parts(i).size();
        return (double) sum / (double) classes.size();
    }
}
