import java.util.Arrays;
import java.util.NoSuchElementException;

/** A language of templates and objects; the document that it keeps to is ../shared/DOC.md. */
public final class Overloadery {
    private static final int NONE = -1;
    private static final int SEVERAL = -2;
    private static final int NOT_SURE = -2;
    private static final int NAMES = 6;
    private static final int METHODS = 4;
    private static final int PARAMETERS = 3;

    /** What is asked: of an instance its body, its base; of two types the steps; of functions all the others. */
    private static final int BODY = 0;
    private static final int BASE = 1;
    private static final int DISTANCE = 2;
    private static final int VIABLE = 3;
    private static final int COMING = 4;
    private static final int DEDUCED = 5;
    private static final int SHARE = 6;
    private static final int BEST = 7;
    private static final int BEST_ANEW = 8;
    /** Answers for a function that is not viable, and for a parameter that stands for nothing. */
    private static final int NOT_VIABLE = -1_000_000;
    private static final int NOTHING = -2_000_000;

    /** How often bodies are supposed, and looked for, for a question; and for how many more, when it is known to be open. */
    private static final int RUNS = 1 << 12;
    private static final int MORE_RUNS = 1 << 6;
    private static final int ROUNDS = 1 << 8;
    /** How often instances are looked at: at the first level, by how much more at the next ones, beside a question, at most. */
    private static final int LOOKS = 1 << 11;
    private static final int FARTHER = 3;
    private static final int LEVELS = 4;
    private static final int LOOKS_ASIDE = 1 << 14;
    private static final int MOST_ASIDE = 1 << 17;
    private static final int LOOKS_OF_WALK = 1 << 20;
    private static final int SEARCHED_ASIDE = 1 << 16;
    private static final int TRIED_ASIDE = 1 << 17;
    private static final int MOST_LOOKS = 1 << 23;
    private static final int ALL_LOOKS = 1 << 24;
    /** How far a walk goes in a turn, how often is looked in it, also if nothing else goes on, and how many turns there are. */
    private static final int TURN = 64;
    private static final int LOOKS_OF_TURN = 1 << 11;
    private static final int LOOKS_ALONE = 1 << 12;
    private static final int TURNS = 1 << 24;
    /** With so many that wait their bodies are chosen, though the walk could go on to others that go only with some of them. */
    private static final int MOST_WAITING = 1 << 15;
    /**
     * What is tried to find bodies that go together: also for those that have numbers, also for those that come about by way
     * of these, for all, for the goals.
     */
    private static final int ASIDE = 0;
    private static final int ASIDE_ANEW = 1;
    private static final int WIDE = 2;
    private static final int WIDE_ANEW = 3;
    private static final int NARROW = 4;
    private static final int TOGETHER = 5;
    private static final int GOALS = 6;
    private static final int ANEW = 7;
    private static final int GOALS_ANEW = 8;
    private static final int AT_LEAST = 9;
    private static final int DONE = 10;
    private static final int TRIES = 1 << 10;
    private static final int PATIENCE = 1 << 4;
    private static final int MOST_BLAMED = 1 << 6;
    private static final int MOST_LEFT_OUT = 1 << 4;
    private static final int NO_CLASH = 0;
    private static final int NO_WAY_ASIDE = 1;
    private static final int WAY_FOR_GOALS = 2;
    private static final int MOST_GATHERED = 4;

    private final Types table;
    private final Hierarchy hierarchy;
    private final Templates templates;
    private final Bodies bodies;
    private final Chains chains;
    private final Look look;
    private final Explorer explorer;
    private final Search search;
    private final Functions functions;
    private final Walk walk;
    private final Making making;
    /** Whether bodies were looked for beside a question, too. */
    private boolean isAside;
    /** Whether those are left out that come about by way of types with numbers, and whether some do just by what was chosen. */
    private boolean isNarrow;
    private boolean isConditional;
    private boolean hadSettled;
    private boolean isBlamed;
    private int lastAside;
    private int leftOut;
    private int clash;
    /** Whether candidates are looked for. */
    private boolean isWalking;
    /** How often what was chosen had been forgotten when candidates were found. */
    private int gathered;

    public Overloadery() {
        Types newTypes = new Types();
        Hierarchy newHierarchy = new Hierarchy();
        Templates newTemplates = new Templates(newTypes, newHierarchy);
        Bodies newBodies = new Bodies(newTypes, newTemplates);
        Chains newChains = new Chains(newTypes, newHierarchy, newTemplates, newBodies);
        Look newLook = new Look(newTypes, newTemplates, newBodies, newChains);
        Frontier walked = new Frontier(newTypes);
        Explorer newExplorer = new Explorer(newTypes, newTemplates, newBodies, newChains, newLook, walked);
        table = newTypes;
        hierarchy = newHierarchy;
        templates = newTemplates;
        bodies = newBodies;
        chains = newChains;
        look = newLook;
        explorer = newExplorer;
        search = new Search(newTypes, newBodies, newChains, newLook);
        functions = new Functions(newTypes, newHierarchy, newTemplates, newBodies, newChains);
        walk = new Walk(newTypes, newHierarchy, newTemplates, newBodies, newExplorer, walked);
        making = new Making(newHierarchy);
    }

    // ---- types

    public int pointerTo(int type) throws IndexOutOfBoundsException, IllegalStateException {
        needType(type);
        return needRoom(table.numberFor(Types.POINTER, type, NONE));
    }

    public int classType(int cls) throws IndexOutOfBoundsException, IllegalStateException {
        needClass(cls);
        return needRoom(table.numberFor(Types.CLASS + cls, NONE, NONE));
    }

    public int parameter(int parameter) throws IllegalArgumentException, IllegalStateException {
        if (!isParameter(parameter)) throw new IllegalArgumentException();
        return needRoom(table.numberFor(Types.PARAMETER + parameter, NONE, NONE));
    }

    public int instance(int template, int first, int second)
            throws IndexOutOfBoundsException, IllegalArgumentException, IllegalStateException {
        needRow(template, first, second);
        boolean isSingle = templates.parameters(template) == 1;
        int head = (isSingle ? Types.SINGLE : Types.TWOFOLD) + template;
        return needRoom(table.numberFor(head, first, second));
    }

    public char kindOf(int type) throws IndexOutOfBoundsException {
        needType(type);
        int head = table.head(type);
        if (head == Types.POINTER) return 'p';
        if (Types.isClass(head)) return 'c';
        if (Types.isParameter(head)) return 't';
        return Types.isInstance(head) ? 'i' : 'b';
    }

    public int types() {
        return table.numbered();
    }

    public int baseOf(int type)
            throws IndexOutOfBoundsException, IllegalArgumentException, NoSuchElementException, IllegalStateException {
        needClosedInstance(type);
        long base = answer(BASE, type, NONE);
        if (base == NOTHING) throw new NoSuchElementException();
        return needRoom(table.numberOf((int) base));
    }

    public int chosenFor(int type) throws IndexOutOfBoundsException, IllegalArgumentException {
        needClosedInstance(type);
        long body = answer(BODY, type, NONE);
        if (body == Bodies.ITSELF) return Templates.ITSELF;
        return body == Bodies.UNSURE ? NOT_SURE : (int) body;
    }

    // ---- namespaces, classes, templates

    public int addNamespace(int outer) throws IndexOutOfBoundsException, IllegalStateException {
        needNamespace(outer);
        if (functions.namespaces() >= Functions.NAMESPACES) throw new IllegalStateException();
        return functions.putNamespace(outer);
    }

    public int addClass(int namespace) throws IndexOutOfBoundsException, IllegalStateException {
        needNamespace(namespace);
        if (hierarchy.count() >= Hierarchy.CLASSES) throw new IllegalStateException();
        return hierarchy.put(namespace);
    }

    public int addBase(int cls, int base, boolean isVirtual)
            throws IndexOutOfBoundsException, IllegalArgumentException, IllegalStateException {
        needClass(cls);
        needClass(base);
        if (base >= cls || hierarchy.hasOwnBase(cls, base)) throw new IllegalArgumentException();
        if (hierarchy.bases(cls) >= Hierarchy.EACH || making.hasBegun()) throw new IllegalStateException();
        int bases = hierarchy.putBase(cls, base, isVirtual);
        making.findOwners();
        return bases;
    }

    public int addMember(int cls, int member)
            throws IndexOutOfBoundsException, IllegalArgumentException, IllegalStateException {
        needClass(cls);
        needClass(member);
        if (member >= cls) throw new IllegalArgumentException();
        if (hierarchy.members(cls) >= Hierarchy.EACH || making.hasBegun()) throw new IllegalStateException();
        return hierarchy.putMember(cls, member);
    }

    public int addConversion(int cls, int type, boolean isFrom)
            throws IndexOutOfBoundsException, IllegalArgumentException, IllegalStateException {
        needClass(cls);
        needType(type);
        boolean isItself = table.head(type) == Types.CLASS + cls;
        if (isOpen(type) || isItself || hierarchy.hasConversion(cls, type, isFrom)) {
            throw new IllegalArgumentException();
        }
        if (hierarchy.conversions(cls, isFrom) >= Hierarchy.TOLD) throw new IllegalStateException();
        return hierarchy.putConversion(cls, type, isFrom);
    }

    public int addTemplate(int parameters) throws IllegalArgumentException, IllegalStateException {
        if (parameters < 1 || parameters > 2) throw new IllegalArgumentException();
        if (templates.count() >= Templates.TEMPLATES) throw new IllegalStateException();
        return templates.put(parameters);
    }

    public int specialise(int template, int first, int second)
            throws IndexOutOfBoundsException, IllegalArgumentException, IllegalStateException {
        needRow(template, first, second);
        if (templates.specialisations(template) >= Templates.EACH) throw new IllegalStateException();
        return templates.putSpecialisation(template, first, second);
    }

    public int setBase(int template, int specialisation, int type)
            throws IndexOutOfBoundsException, IllegalArgumentException {
        needTemplate(template);
        if (specialisation != Templates.ITSELF) needSpecialisation(template, specialisation);
        if (type != NONE) {
            needType(type);
            if (!hasBases(type)) throw new IllegalArgumentException();
        }
        return templates.changeBase(template, specialisation, type);
    }

    public int constrain(int template, int specialisation, int parameter, char letter, int cls)
            throws IndexOutOfBoundsException, IllegalArgumentException, IllegalStateException {
        needTemplate(template);
        needSpecialisation(template, specialisation);
        needConstraint(parameter, letter, cls);
        int set = Templates.place(template, specialisation);
        if (templates.constraints(set) >= Templates.MOST_CONSTRAINTS) throw new IllegalStateException();
        int count = templates.putConstraint(set, parameter, letter, cls);
        templates.compareAll(template);
        return count;
    }

    public int distance(int type, int base)
            throws IndexOutOfBoundsException, IllegalArgumentException, NoSuchElementException,
            UnsupportedOperationException {
        needType(type);
        needType(base);
        if (isOpen(type) || isOpen(base)) throw new IllegalArgumentException();
        if (!hasBases(type) || !hasBases(base)) throw new IllegalArgumentException();
        int steps = (int) answer(DISTANCE, type, base);
        if (steps == NONE) throw new NoSuchElementException();
        if (steps == SEVERAL) throw new UnsupportedOperationException();
        return steps;
    }

    // ---- functions and calls

    public int addFunction(int namespace, int name, boolean isDeleted)
            throws IndexOutOfBoundsException, IllegalArgumentException, IllegalStateException {
        needNamespace(namespace);
        needName(name);
        if (functions.count() >= Functions.FUNCTIONS) throw new IllegalStateException();
        return functions.put(namespace, name, isDeleted);
    }

    public int addParameter(int function, char mode, int type)
            throws IndexOutOfBoundsException, IllegalArgumentException, IllegalStateException {
        needFunction(function);
        needType(type);
        if (mode != 'v' && mode != 'r' && mode != 'c' && mode != 'm') throw new IllegalArgumentException();
        if (functions.parameters(function) >= Functions.EACH) throw new IllegalStateException();
        return functions.putParameter(function, mode, type);
    }

    public int require(int function, int parameter, char letter, int cls)
            throws IndexOutOfBoundsException, IllegalArgumentException, IllegalStateException {
        needFunction(function);
        needConstraint(parameter, letter, cls);
        int set = Functions.constraintSet(function);
        if (templates.constraints(set) >= Templates.MOST_CONSTRAINTS) throw new IllegalStateException();
        return templates.putConstraint(set, parameter, letter, cls);
    }

    public int addArgument(int type, char category)
            throws IndexOutOfBoundsException, IllegalArgumentException, IllegalStateException {
        needType(type);
        boolean isCategory = category == 'l' || category == 'k' || category == 'r';
        if (isOpen(type) || !isCategory) throw new IllegalArgumentException();
        if (functions.arguments() >= Functions.EACH) throw new IllegalStateException();
        return functions.putArgument(type, category);
    }

    public int clearArguments() {
        return functions.dropArguments();
    }

    public int candidates(int namespace, int name) throws IndexOutOfBoundsException, IllegalArgumentException {
        needNamespace(namespace);
        needName(name);
        gather(namespace, name);
        return functions.candidateCount();
    }

    public boolean isViable(int function) throws IndexOutOfBoundsException {
        needFunction(function);
        return answer(VIABLE, function, NONE) == 1;
    }

    public int coming(int function, int argument) throws IndexOutOfBoundsException, IllegalStateException {
        needFunction(function);
        if (argument < 0 || argument >= functions.arguments()) throw new IndexOutOfBoundsException();
        int way = (int) answer(COMING, function, argument);
        if (way == NOT_VIABLE) throw new IllegalStateException();
        return way;
    }

    public int deduced(int function, int parameter)
            throws IndexOutOfBoundsException, IllegalStateException, NoSuchElementException,
            UnsupportedOperationException {
        needFunction(function);
        if (!isParameter(parameter)) throw new IndexOutOfBoundsException();
        long type = answer(DEDUCED, function, parameter);
        if (type == NOT_VIABLE) throw new IllegalStateException();
        if (type == NOTHING) throw new NoSuchElementException();
        int number = table.numberOf((int) type);
        if (number == NONE) throw new UnsupportedOperationException();
        return number;
    }

    public int resolve(int namespace, int name) throws IndexOutOfBoundsException, IllegalArgumentException {
        needNamespace(namespace);
        needName(name);
        long best = 0;
        for (int i = 0; i < MOST_GATHERED; i++) {
            gather(namespace, name);
            best = answer(BEST, NONE, NONE);
            if (!isGatheredAnew()) break;
        }
        return (int) best;
    }

    public int resolveAnew(int namespace, int name) throws IndexOutOfBoundsException, IllegalArgumentException {
        needNamespace(namespace);
        needName(name);
        long best = 0;
        for (int i = 0; i < MOST_GATHERED; i++) {
            gather(namespace, name);
            best = answer(BEST_ANEW, NONE, NONE);
            if (!isGatheredAnew()) break;
        }
        return (int) best;
    }

    // ---- objects

    public boolean override(int cls, int method, boolean does)
            throws IndexOutOfBoundsException, IllegalArgumentException {
        needClass(cls);
        if (!isMethod(method)) throw new IllegalArgumentException();
        return making.changeOverriding(cls, method, does);
    }

    public int overrider(int cls, int method) throws IndexOutOfBoundsException, IllegalArgumentException {
        needClass(cls);
        if (!isMethod(method)) throw new IllegalArgumentException();
        return making.ownerOf(cls, method);
    }

    public int setBody(int cls, int method, boolean delegates)
            throws IndexOutOfBoundsException, IllegalArgumentException {
        needClass(cls);
        if (method != NONE && !isMethod(method)) throw new IllegalArgumentException();
        return making.changeBody(cls, method, delegates);
    }

    public int setThrow(int cls, int times) throws IndexOutOfBoundsException, IllegalArgumentException {
        needClass(cls);
        if (times < 0 || times > Making.TIMES) throw new IllegalArgumentException();
        return making.changeTimes(cls, times);
    }

    public int open(boolean isTry) throws IllegalStateException {
        if (making.blocks() >= Making.BLOCKS) throw new IllegalStateException();
        return making.openBlock(isTry);
    }

    public int close() throws IllegalStateException {
        if (making.blocks() <= 1) throw new IllegalStateException();
        return making.closeBlock();
    }

    public char make(int cls, char how, int many)
            throws IndexOutOfBoundsException, IllegalArgumentException, IllegalStateException {
        needClass(cls);
        boolean isArray = how == 'a';
        if (!isArray && how != 'o' && how != 't' && how != 'l') throw new IllegalArgumentException();
        if (isArray && (many < 1 || many > Making.ARRAY)) throw new IllegalArgumentException();
        int count = isArray ? many : 1;
        if (making.livingCount() + count > Making.LIVING) throw new IllegalStateException();
        return making.makeObjects(cls, how == 't', count);
    }

    public int endExpression() {
        return making.takeTemporaries();
    }

    public char raise() {
        return making.unwind();
    }

    public int living() {
        return making.livingCount();
    }

    public int trace() {
        return making.traced();
    }

    public char traceKind(int index) throws IndexOutOfBoundsException {
        needTraced(index);
        return making.kindAt(index);
    }

    public int traceClass(int index) throws IndexOutOfBoundsException {
        needTraced(index);
        return making.classAt(index);
    }

    public int traceObject(int index) throws IndexOutOfBoundsException {
        needTraced(index);
        return making.objectAt(index);
    }

    // ---- totals

    public long made() {
        return making.madeParts();
    }

    public long takenDown() {
        return making.takenParts();
    }

    public float viableShare() throws ArithmeticException {
        int all = functions.count();
        if (all == 0) throw new ArithmeticException();
        int viable = (int) answer(SHARE, NONE, NONE);
        return (float) viable / (float) all;
    }

    public double meanParts() throws ArithmeticException {
        int all = hierarchy.count();
        if (all == 0) throw new ArithmeticException();
        long sum = 0;
        for (int i = 0; i < all; i++) {
            sum += hierarchy.allParts(i);
        }
        return (double) sum / (double) all;
    }

    // ---- how answers are found

    /**
     * The answer to a question. It is asked for whatever bodies the instances have of which this is not known; if the
     * answers differ, these are looked for, and where there is a choice, they are chosen so that they go together.
     */
    private long answer(int kind, int one, int two) {
        if (kind < BEST) explorer.begin();
        look.count();
        isAside = false;
        long answer = 0;
        int level = 0;
        for (int round = 0; round < ROUNDS; round++) {
            explorer.makeRoom();
            chains.beginQuestion();
            boolean isAlike = true;
            boolean goesOn = true;
            int left = RUNS;
            for (int run = 0; run < left && goesOn; run++) {
                for (int i = 0; i < functions.count() && kind > DISTANCE; i++) {
                    functions.settle(kind, one, i);
                }
                long now = kind > DISTANCE ? functions.outcome(kind, one, two) : outcome(kind, one, two);
                if (run == 0) answer = now;
                // The others of whose bodies it depends are gathered, too.
                if (now != answer) left = Math.min(left, run + MORE_RUNS);
                if (now != answer) isAlike = false;
                goesOn = bodies.supposesNext();
            }
            boolean isOver = bodies.isOver() || table.isShort();
            bodies.endSupposing();
            if (isAlike && !goesOn && !isOver) return answer;
            explorer.putGoals();
            explorer.run(LOOKS << FARTHER * level);
            if (bodies.areDecided()) continue;
            boolean isLast = level == LEVELS || look.looks() > ALL_LOOKS;
            // Where not all is known yet it is looked for a way with less effort.
            int less = explorer.isIdle() || isLast ? 0 : FARTHER;
            // What is near is preferred only if what is farther takes long.
            boolean isEarly = level == 0 && !explorer.isIdle() && !isLast;
            int found = isEarly ? Search.UNKNOWN : foundWay(LOOKS << FARTHER * level >> less, true, isLast);
            if (found == Search.FOUND) continue;
            if (isLast || found == Search.NO_WAY && explorer.isIdle()) settleGoals(LOOKS << FARTHER * level);
            else level++;
        }
        return answer;
    }

    /** What is asked of an instance, or of two types, for what is supposed. */
    private long outcome(int kind, int type, int other) {
        int id = table.id(type);
        if (kind == DISTANCE) {
            int steps = chains.stepsByAll(id, table.id(other));
            return steps == Chains.OPEN_STEPS ? chains.stepsSupposed(id, table.id(other)) : steps;
        }
        int set = bodies.setOf(id);
        if (kind == BASE && hasOneBase(id, set)) set = set & -set;
        int body = Bodies.isSingle(set) ? Bodies.code(set) : bodies.suppose(id);
        if (kind == BODY) return body;
        int base = bodies.baseAt(id, body);
        return base == NONE ? NOTHING : base;
    }

    private boolean hasOneBase(int id, int set) {
        int base = bodies.baseAt(id, Bodies.code(set));
        for (int i = 0; i < Bodies.CODES; i++) {
            if ((set >> i & 1) == 1 && bodies.baseAt(id, i) != base) return false;
        }
        return true;
    }

    /**
     * Finds bodies for the goals that go together. In a wide way, if all on whom the goals depend are known, they go with
     * those that have numbers, and with those that come about by way of these, as long as there is a way. What was chosen
     * earlier is forgotten if it does not go with them.
     */
    private int foundWay(int limit, boolean isWide, boolean isLast) {
        boolean isAhead = isWide && !isAside && explorer.isIdle();
        int found = Search.UNKNOWN;
        int step = isAhead ? ASIDE : isWide ? TOGETHER : GOALS;
        beginWay(isAhead);
        for (int i = 0; i < TRIES && step < DONE; i++) {
            boolean isDue = true;
            switch (step) {
                case ASIDE:
                case WIDE:
                    isConditional = isConditional || bodies.hasChosen();
                    if (step == ASIDE) isDue = explorer.putsNumbered() || found != Search.FOUND;
                    else isDue = !isNarrow && (isWalking ? walk.putsWalked() : walk.putsMet());
                    explorer.setPatience(step == ASIDE ? PATIENCE : 0);
                    if (isDue) explorer.run(isWalking ? LOOKS_OF_WALK : step == WIDE && walk.hasMetAll() ? MOST_ASIDE : LOOKS_ASIDE);
                    explorer.setPatience(PATIENCE);
                    break;
                case ASIDE_ANEW:
                case WIDE_ANEW:
                case ANEW:
                    isDue = found == Search.NO_WAY && explorer.revokes();
                    if (isDue) explorer.run(limit);
                    break;
                case NARROW:
                    isDue = false;
                    isNarrow = !explorer.triesAnother(found == Search.NO_WAY, look.looks() < lastAside, isBlamed);
                    isConditional = false;
                    explorer.dropNumbered();
                    break;
                case TOGETHER:
                    isConditional = false;
                    if (isAhead) explorer.dropNumbered();
                    if (isAhead) explorer.run(limit);
                    break;
                default:
                    isDue = step != AT_LEAST || isLast;
            }
            boolean isReady = isDue && (modeOf(step) != Search.FOR_ALL || explorer.isIdle());
            if (isReady) {
                explorer.makeRoom();
                int most = step < TOGETHER ? Math.max(limit, SEARCHED_ASIDE) : limit;
                found = search.run(modeOf(step), NONE, most, !isConditional);
            } else if (isDue && step == WIDE || step == NARROW) {
                found = Search.UNKNOWN;
            }
            found = judged(step, found);
            if (step == WIDE) isBlamed = found == Search.NO_WAY && isBlameFound();
            boolean isAgain = goesAsideAgain(step, found);
            if (isAgain) explorer.dropNumbered();
            if (isAgain) found = Search.UNKNOWN;
            step = isAgain ? ASIDE : nextStep(step, step == WIDE ? isDue : isReady, found == Search.FOUND);
        }
        bodies.setTaste(0);
        return found;
    }

    private void beginWay(boolean isAhead) {
        isAside = isAside || isAhead;
        isNarrow = false;
        isConditional = false;
        hadSettled = false;
        isBlamed = false;
        leftOut = 0;
        clash = NO_CLASH;
        lastAside = look.looks() + TRIED_ASIDE;
    }

    /**
     * One that comes about by what was chosen has no body: so another body is tried first for the last one that was chosen on
     * the way to it, or, if this was done already, for the one ahead of that.
     */
    private boolean isBlameFound() {
        boolean isSettled = bodies.hasSettled() && !hadSettled;
        int id = isSettled ? explorer.settled() : search.clashed();
        for (int i = 0; i < MOST_BLAMED && id != NONE; i++) {
            id = walk.chosenAhead(id);
            if (id != NONE && bodies.dislikes(id)) return true;
        }
        return false;
    }

    /** What was found in a step: no way, if it was settled that one has no body which comes about by what was chosen. */
    private int judged(int step, int found) {
        boolean isSettled = step >= WIDE && step < NARROW && bodies.hasSettled() && !hadSettled;
        if (step < WIDE) hadSettled = bodies.hasSettled();
        return isSettled ? Search.NO_WAY : found;
    }

    /** Whether there is a way for the goals, but none for those that have numbers, and one of these is left out. */
    private boolean goesAsideAgain(int step, int found) {
        if (step == ASIDE_ANEW && found == Search.NO_WAY) {
            if (clash == WAY_FOR_GOALS) return leavesOut();
            clash = NO_WAY_ASIDE;
        }
        if (step != TOGETHER || found != Search.FOUND || clash != NO_WAY_ASIDE) return false;
        clash = WAY_FOR_GOALS;
        explorer.forgetChosen();
        return true;
    }

    /** Leaves out one that has a number and no way: it is not sure for this question. */
    private boolean leavesOut() {
        int id = search.clashed();
        boolean isLeftOut = id != NONE && !bodies.is(id, Bodies.GOAL) && bodies.isOpen(id) && leftOut < MOST_LEFT_OUT;
        if (!isLeftOut) return false;
        leftOut++;
        bodies.settle(id, 1 << Bodies.UNSURE);
        return true;
    }

    private static int modeOf(int step) {
        if (step == AT_LEAST) return Search.AT_LEAST;
        return step == GOALS || step == GOALS_ANEW ? Search.FOR_GOALS : Search.FOR_ALL;
    }

    /** What is tried next to find bodies that go together. */
    private static int nextStep(int step, boolean wasDue, boolean isFound) {
        switch (step) {
            case ASIDE:
                return wasDue ? isFound ? ASIDE : ASIDE_ANEW : isFound ? WIDE : TOGETHER;
            case ASIDE_ANEW:
                return wasDue && isFound ? ASIDE : TOGETHER;
            case WIDE:
                return wasDue ? isFound ? WIDE : WIDE_ANEW : DONE;
            case WIDE_ANEW:
                return wasDue && isFound ? WIDE : NARROW;
            case NARROW:
                return ASIDE;
            case ANEW:
                return wasDue ? isFound ? DONE : GOALS_ANEW : AT_LEAST;
            default:
                return isFound ? DONE : step + 1;
        }
    }

    /** Finds a body for each goal by itself; one for which none goes is not sure. */
    private void settleGoals(int limit) {
        int goals = Math.min(bodies.goals(), Search.MOST_GOALS);
        int each = limit / Math.max(1, goals);
        for (int i = 0; i < goals; i++) {
            explorer.makeRoom();
            int goal = bodies.goal(i);
            if (bodies.isDecided(goal)) continue;
            int found = search.run(Search.FOR_GOALS, goal, each, true);
            if (found == Search.UNKNOWN) found = search.run(Search.AT_LEAST, goal, each, true);
            int set = found == Search.NO_WAY ? 1 << Bodies.UNSURE : bodies.preferred(goal, bodies.setOf(goal));
            if (found != Search.FOUND) bodies.settle(goal, set);
        }
    }

    /** Whether candidates are to be found anew, as bodies by which they were found go no more. */
    private boolean isGatheredAnew() {
        return explorer.revoked() > gathered;
    }

    /** Finds the candidates of the call of a name. */
    private void gather(int namespace, int name) {
        explorer.begin();
        isAside = false;
        functions.beginCandidates(namespace, name);
        int contents = 0;
        for (int i = 0; i < functions.arguments(); i++) {
            contents |= table.contents(functions.argument(i));
        }
        templates.lookBehind(contents);
        walk.begin(functions.wantedClasses(name));
        putArguments();
        int revoked = 0;
        int woken = walk.woken();
        int last = MOST_LOOKS;
        boolean isWide = true;
        for (int turn = 0; turn < TURNS && walk.lacksSome(); turn++) {
            walk.goOn(TURN);
            if (walk.woken() > woken) last = look.looks() + MOST_LOOKS;
            woken = walk.woken();
            boolean mayLook = look.looks() < Math.min(last, ALL_LOOKS);
            if (mayLook) explorer.run(walk.isIdle() ? LOOKS_ALONE : LOOKS_OF_TURN);
            if (explorer.revoked() > revoked) {
                revoked = explorer.revoked();
                isWide = true;
                walk.startAnew();
                putArguments();
                continue;
            }
            walk.wake();
            boolean isDue = walk.isIdle() || bodies.goals() >= MOST_WAITING;
            if (!isDue || mayLook && explorer.canGoOn()) continue;
            explorer.makeRoom();
            int waiting = walk.wakeAll();
            if (!walk.isIdle() && waiting < MOST_WAITING) continue;
            if (waiting > 0 && look.looks() > ALL_LOOKS) break;
            if (waiting > 0) {
                isWalking = true;
                int found = foundWay(MOST_LOOKS, isWide, !explorer.isIdle());
                isWalking = false;
                if (found != Search.FOUND) settleGoals(LOOKS_ASIDE);
                isWide = false;
                continue;
            }
            if (!walk.startsNext()) break;
            putArguments();
        }
        for (int i = 0; i < functions.namespaces(); i++) {
            if ((walk.found() >> i & 1) == 1) functions.takesFrom(i, name);
        }
        gathered = explorer.revoked();
        bodies.clearGoals();
    }

    private void putArguments() {
        for (int i = 0; i < functions.arguments(); i++) {
            walk.put(table.id(functions.argument(i)));
        }
    }

    // ---- what the calls ask of their arguments

    private void needType(int type) {
        if (!table.has(type)) throw new IndexOutOfBoundsException();
    }

    private void needClass(int cls) {
        if (cls < 0 || cls >= hierarchy.count()) throw new IndexOutOfBoundsException();
    }

    private void needNamespace(int namespace) {
        if (namespace < 0 || namespace >= functions.namespaces()) throw new IndexOutOfBoundsException();
    }

    private void needTemplate(int template) {
        if (template < 0 || template >= templates.count()) throw new IndexOutOfBoundsException();
    }

    private void needSpecialisation(int template, int specialisation) {
        if (specialisation < 0 || specialisation >= templates.specialisations(template)) {
            throw new IndexOutOfBoundsException();
        }
    }

    private void needFunction(int function) {
        if (function < 0 || function >= functions.count()) throw new IndexOutOfBoundsException();
    }

    private void needTraced(int index) {
        if (index < 0 || index >= making.traced()) throw new IndexOutOfBoundsException();
    }

    private void needName(int name) {
        if (name < 0 || name >= NAMES) throw new IllegalArgumentException();
    }

    /** A row of one or two types for a template. */
    private void needRow(int template, int first, int second) {
        needTemplate(template);
        needType(first);
        if (second != NONE) needType(second);
        boolean isSingle = templates.parameters(template) == 1;
        if (isSingle != (second == NONE)) throw new IllegalArgumentException();
    }

    private void needClosedInstance(int type) {
        needType(type);
        if (!Types.isInstance(table.head(type)) || isOpen(type)) throw new IllegalArgumentException();
    }

    private void needConstraint(int parameter, char letter, int cls) {
        if (letter == 'd') needClass(cls);
        boolean isLetter = letter == 'p' || letter == 'c' || letter == 'b' || letter == 'd';
        if (!isParameter(parameter) || !isLetter) throw new IllegalArgumentException();
    }

    private int needRoom(int type) {
        if (type == NONE) throw new IllegalStateException();
        return type;
    }

    private boolean isOpen(int type) {
        return table.isOpen(type);
    }

    private boolean hasBases(int type) {
        int head = table.head(type);
        return Types.isClass(head) || Types.isInstance(head);
    }

    private static boolean isParameter(int parameter) {
        return parameter >= 0 && parameter < PARAMETERS;
    }

    private static boolean isMethod(int method) {
        return method >= 0 && method < METHODS;
    }

    /**
     * The types. Those with a number are rows of tokens, in which what stands ahead of a type comes first, and then those
     * that it is made of. Each closed type that comes about has an id besides: it is kept once, as a word that tells what
     * stands ahead of it, its size, and the ids of those that it is made of. So two of them are the same if their ids are.
     */
    private static final class Types {
        static final int TRUTH = 0;
        static final int LETTER = 1;
        static final int WHOLE = 2;
        static final int BASIC = 5;
        static final int CLASS = 5;
        static final int PARAMETER = 17;
        static final int POINTER = 20;
        static final int SINGLE = 21;
        static final int TWOFOLD = 26;

        static final int NUMBERED = 150;
        static final int LARGEST = 30;
        /** The places of a row; behind the rows of the numbered types is one of a type that is put together. */
        static final int WIDTH = 32;
        private static final int MADE = NUMBERED;

        /** The frames of what parameters stand for, told by ids. */
        static final int FITTING = 0;
        static final int PART = 1;
        static final int OF_BASE = 2;
        static final int DEDUCED = 3;
        static final int TRIED = 4;
        private static final int FRAMES = 5;

        /** The word of an id: the token, the size, two ids; and marks. A type without parts has its token as its id. */
        static final int TOKEN = 31;
        static final int SIZE_AT = 5;
        static final int FIRST_AT = 10;
        static final int SECOND_AT = 31;
        static final int ID = (1 << 21) - 1;
        private static final int SPOT = 32;
        private static final long FIRST_SPOT = (1L << SPOT) - 1;
        private static final long TYPE = (1L << 52) - 1;
        static final long NOTED = 1L << 52;
        static final long PENDING = 1L << 53;
        private static final long KEPT = 1L << 54;
        static final long MARKED = 1L << 55;
        static final long LITERAL = 1L << 56;
        static final int LITERAL_AT = 57;

        /** No bounds of the document, but of the room in which the program lives: it grows by these stages. */
        private static final int MOST = 1_450_000;
        private static final int STAGES = 4;
        private static final int[] CAPACITIES = {1 << 11, 1 << 14, 1 << 17, MOST};
        private static final int SPARE = 1 << 15;
        private static final int FEW = 1 << 9;
        private static final int NARROW = 1 << 17;
        private static final long MIX = 0x9E3779B97F4A7C15L;
        private static final long MIX_MORE = 0xBF58476D1CE4E5B9L;

        final int[] tokens = new int[(NUMBERED + 1) * WIDTH];
        /** For each place where a type begins, the place behind it. */
        final int[] ends = new int[(NUMBERED + 1) * WIDTH];
        private final int[] ids = new int[NUMBERED];
        private int numbered;
        /** What parameters stand for: ids, or places of rows; NONE for nothing. */
        final int[] bound = new int[FRAMES * PARAMETERS];
        private final int[] special = new int[PARAMETERS];
        private final int[] stack = new int[LARGEST * 2];
        /**
         * For each id its word, and what is known of its bodies; and where ids are found: two spots in a place, each with an
         * id and some bits by which most other words are told apart.
         */
        long[] nodes = new long[CAPACITIES[0]];
        long[] infos = new long[CAPACITIES[0]];
        private long[] index = new long[CAPACITIES[0] / 4 * 3];
        /** The ids that are told are lower. */
        int count = POINTER;
        private int askedFor;
        private int limit = CAPACITIES[0];
        private int stage;
        private boolean isShort;

        Types() {
            for (int i = 0; i < BASIC; i++) {
                tokens[i * WIDTH] = i;
                ends[i * WIDTH] = i * WIDTH + 1;
            }
            for (int i = 0; i < POINTER; i++) {
                nodes[i] = i | 1L << SIZE_AT;
            }
            numbered = BASIC;
            Arrays.fill(ids, NONE);
            Arrays.fill(bound, NONE);
        }

        static boolean isBasic(int token) {
            return token >= 0 && token < BASIC;
        }

        static boolean isClass(int token) {
            return token >= CLASS && token < PARAMETER;
        }

        static boolean isParameter(int token) {
            return token >= PARAMETER && token < POINTER;
        }

        static boolean isInstance(int token) {
            return token >= SINGLE;
        }

        static int templateOf(int token) {
            return token >= TWOFOLD ? token - TWOFOLD : token - SINGLE;
        }

        // ---- types with numbers

        /** Whether types got numbers since this was asked last. */
        boolean hasNewNumbers() {
            boolean hasNew = numbered != askedFor;
            askedFor = numbered;
            return hasNew;
        }

        int numbered() {
            return numbered;
        }

        boolean has(int number) {
            return number >= 0 && number < numbered;
        }

        /** What stands ahead in a type with a number; NONE for no type. */
        int head(int number) {
            return number == NONE ? NONE : tokens[number * WIDTH];
        }

        int size(int number) {
            return number == NONE ? 0 : ends[number * WIDTH] - number * WIDTH;
        }

        boolean isOpen(int number) {
            for (int i = number * WIDTH; i < ends[number * WIDTH]; i++) {
                if (isParameter(tokens[i])) return true;
            }
            return false;
        }

        /** The id of a closed type with a number, if ids were told. */
        int id(int number) {
            return ids[number];
        }

        /** Finds the ends of all types in a row, the last one first. */
        private void parse(int from, int end) {
            int last = end;
            for (int at = end - 1; at >= from; at--) {
                int token = tokens[at];
                if (token < POINTER) last = at + 1;
                else if (token >= TWOFOLD) last = ends[last];
                ends[at] = last;
            }
        }

        /** Copies a type to another place, and tells the place behind it. */
        private int copied(int from, int to) {
            int length = ends[from] - from;
            for (int i = 0; i < length; i++) {
                tokens[to + i] = tokens[from + i];
            }
            return to + length;
        }

        private boolean isSame(int place, int other) {
            int length = ends[place] - place;
            if (ends[other] - other != length) return false;
            for (int i = 0; i < length; i++) {
                if (tokens[place + i] != tokens[other + i]) return false;
            }
            return true;
        }

        /** The number of a type that is made of up to two types, NONE if it can't have one, or is too large. */
        int numberFor(int head, int one, int other) {
            if (1 + size(one) + size(other) > LARGEST) return NONE;
            int at = MADE * WIDTH;
            tokens[at++] = head;
            if (one != NONE) at = copied(one * WIDTH, at);
            if (other != NONE) at = copied(other * WIDTH, at);
            parse(MADE * WIDTH, at);
            for (int i = 0; i < numbered; i++) {
                if (isSame(i * WIDTH, MADE * WIDTH)) return i;
            }
            if (numbered >= NUMBERED) return NONE;
            int row = numbered * WIDTH;
            parse(row, copied(MADE * WIDTH, row));
            return numbered++;
        }

        /** The number of a type with an id, a new one if need be; NONE if it can't have one. */
        int numberOf(int id) {
            for (int i = 0; i < numbered; i++) {
                if (ids[i] == id) return i;
            }
            if (numbered >= NUMBERED) return NONE;
            int row = numbered * WIDTH;
            int at = row;
            int top = 1;
            stack[0] = id;
            for (int i = 0; i < LARGEST && top > 0; i++) {
                int part = stack[--top];
                int token = headOf(part);
                tokens[at++] = token;
                if (token >= TWOFOLD) stack[top++] = second(part);
                if (token >= POINTER) stack[top++] = first(part);
            }
            parse(row, at);
            ids[numbered] = id;
            return numbered++;
        }

        /** Tells ids for all closed types with numbers. */
        void tellIds() {
            for (int i = 0; i < numbered; i++) {
                if (ids[i] != NONE || isOpen(i)) continue;
                makeRoom();
                ids[i] = idOfRow(i * WIDTH);
            }
        }

        private int idOfRow(int row) {
            int top = 0;
            for (int i = ends[row] - 1; i >= row; i--) {
                int token = tokens[i];
                int one = token >= POINTER ? stack[--top] : 0;
                int other = token >= TWOFOLD ? stack[--top] : 0;
                stack[top++] = token >= POINTER ? idFor(token, one, other) : token;
            }
            return stack[0];
        }

        /** The classes and templates in a type with a number, as bits, those of the classes first. */
        int contents(int number) {
            int all = 0;
            for (int i = number * WIDTH; i < ends[number * WIDTH]; i++) {
                int token = tokens[i];
                if (isClass(token)) all |= 1 << token - CLASS;
                if (isInstance(token)) all |= 1 << Hierarchy.CLASSES + templateOf(token);
            }
            return all;
        }

        /** Whether a row of patterns matches another one, whose parameters stand for themselves. */
        boolean matchesRow(int[] rows, int matching, int matched, int length) {
            Arrays.fill(special, NONE);
            for (int i = 0; i < length; i++) {
                if (!matchesPlace(rows[matching + i] * WIDTH, rows[matched + i] * WIDTH)) return false;
            }
            return true;
        }

        private boolean matchesPlace(int pattern, int place) {
            int at = place;
            for (int i = pattern; i < ends[pattern]; i++) {
                int token = tokens[i];
                if (token < PARAMETER || token >= POINTER) {
                    if (tokens[at++] != token) return false;
                    continue;
                }
                int known = special[token - PARAMETER];
                int length = ends[at] - at;
                if (known == NONE) special[token - PARAMETER] = at;
                else if (ends[known] - known != length) return false;
                for (int j = 0; j < length && known != NONE; j++) {
                    if (tokens[known + j] != tokens[at + j]) return false;
                }
                at += length;
            }
            return true;
        }

        // ---- types with ids

        int headOf(int id) {
            return (int) nodes[id] & TOKEN;
        }

        int sizeOf(int id) {
            return (int) (nodes[id] >> SIZE_AT) & TOKEN;
        }

        int first(int id) {
            return (int) (nodes[id] >> FIRST_AT) & ID;
        }

        int second(int id) {
            return (int) (nodes[id] >> SECOND_AT) & ID;
        }

        /** The id of a type that is made of up to two types; NONE if it is too large, or if there is no room. */
        int idFor(int head, int one, int other) {
            int size = 1 + ((int) (nodes[one] >> SIZE_AT) & TOKEN);
            if (head >= TWOFOLD) size += (int) (nodes[other] >> SIZE_AT) & TOKEN;
            if (size > LARGEST) return NONE;
            long node = head | (long) size << SIZE_AT | (long) one << FIRST_AT | (long) other << SECOND_AT;
            long mixed = node * MIX;
            mixed = (mixed ^ mixed >>> 32) * MIX_MORE;
            int spots = limit / 4 * 6;
            int at = (int) ((mixed >>> 33) * spots >>> 31);
            int others = (int) mixed & ~ID;
            for (int i = 0; i < spots; i++) {
                int spot = (int) (index[at >> 1] >>> (at & 1) * SPOT);
                if (spot == 0) break;
                if ((spot & ~ID) == others && (nodes[spot & ID] & TYPE) == node) return spot & ID;
                at = at + 1 == spots ? 0 : at + 1;
            }
            if (count == limit) {
                isShort = true;
                return NONE;
            }
            nodes[count] = node;
            infos[count] = 0;
            index[at >> 1] |= ((count | others) & FIRST_SPOT) << (at & 1) * SPOT;
            return count++;
        }

        void empty(int frame) {
            bound[frame * PARAMETERS] = NONE;
            bound[frame * PARAMETERS + 1] = NONE;
            bound[frame * PARAMETERS + 2] = NONE;
        }

        void copyFrame(int from, int to) {
            System.arraycopy(bound, from * PARAMETERS, bound, to * PARAMETERS, PARAMETERS);
        }

        /** Whether one or two patterns, which have numbers, match one or two types; what is matched is gathered. */
        boolean matches(int frame, int pattern, int secondPattern, int one, int other) {
            int top = 0;
            if (secondPattern != NONE) stack[top++] = other;
            stack[top++] = one;
            int number = pattern;
            for (int i = 0; i < 2 && number != NONE; i++) {
                int end = ends[number * WIDTH];
                for (int j = number * WIDTH; j < end; j++) {
                    int token = tokens[j];
                    int id = stack[--top];
                    if (token >= PARAMETER && token < POINTER) {
                        int slot = frame * PARAMETERS + token - PARAMETER;
                        if (bound[slot] == NONE) bound[slot] = id;
                        else if (bound[slot] != id) return false;
                        continue;
                    }
                    long node = nodes[id];
                    if (((int) node & TOKEN) != token) return false;
                    if (token >= TWOFOLD) stack[top++] = (int) (node >> SECOND_AT) & ID;
                    if (token >= POINTER) stack[top++] = (int) (node >> FIRST_AT) & ID;
                }
                number = secondPattern;
            }
            return true;
        }

        /** A number of a type that is the same whatever its id is. */
        int mixed(int id) {
            long mixed = 0;
            int top = 1;
            stack[0] = id;
            for (int i = 0; i < LARGEST && top > 0; i++) {
                long node = nodes[stack[--top]];
                int token = (int) node & TOKEN;
                mixed = (mixed + token + 1) * MIX;
                mixed ^= mixed >>> 29;
                if (token >= TWOFOLD) stack[top++] = (int) (node >> SECOND_AT) & ID;
                if (token >= POINTER) stack[top++] = (int) (node >> FIRST_AT) & ID;
            }
            return (int) (mixed >>> 32);
        }

        // ---- room

        /** Whether there was no room for a type since room was made. */
        boolean isShort() {
            return isShort;
        }

        /** Makes room for as many as may come about at once, and tells whether there is. */
        boolean makeRoom() {
            isShort = false;
            if (limit - count >= Math.min(SPARE, limit >> 1)) return true;
            if (stage + 1 == STAGES) return false;
            stage++;
            limit = CAPACITIES[stage];
            nodes = Arrays.copyOf(nodes, limit);
            infos = Arrays.copyOf(infos, limit);
            index = new long[limit / 4 * 3];
            enterAll();
            return true;
        }

        /** Whether there is some room yet. */
        boolean hasSome() {
            return limit - count >= FEW;
        }

        /** Whether so much is kept that it is not worth while to go on. */
        boolean isCrowded() {
            return count > MOST - MOST / 8;
        }

        boolean isHalfFull() {
            return count > MOST / 2;
        }

        private void enterAll() {
            int spots = limit / 4 * 6;
            for (int id = POINTER; id < count; id++) {
                long mixed = (nodes[id] & TYPE) * MIX;
                mixed = (mixed ^ mixed >>> 32) * MIX_MORE;
                int at = (int) ((mixed >>> 33) * spots >>> 31);
                for (int i = 0; i < spots && (int) (index[at >> 1] >>> (at & 1) * SPOT) != 0; i++) {
                    at = at + 1 == spots ? 0 : at + 1;
                }
                int others = (int) mixed & ~ID;
                index[at >> 1] |= ((id | others) & FIRST_SPOT) << (at & 1) * SPOT;
            }
        }

        /** Forgets all ids. */
        void forget() {
            if (count > POINTER) Arrays.fill(index, 0, limit / 4 * 3, 0);
            limit = nodes.length;
            Arrays.fill(ids, NONE);
            for (int i = 0; i < POINTER; i++) {
                nodes[i] &= TYPE;
                infos[i] = 0;
            }
            count = POINTER;
        }

        /**
         * Sheds the types that have no number, are not in another one that is kept, and have none of some marks; perhaps
         * those are kept, too, for whom a body was chosen. The others get new ids, which are told by moved() until remember().
         */
        void shed(long marks, long notes, boolean isChosenKept) {
            for (int i = 0; i < numbered; i++) {
                if (ids[i] != NONE) nodes[ids[i]] |= KEPT;
            }
            // What a type is made of has lower ids than the type itself.
            for (int id = count - 1; id >= POINTER; id--) {
                boolean hasMark = (nodes[id] & (marks | KEPT)) != 0 || (infos[id] & notes) != 0;
                if (!hasMark && !(isChosenKept && Bodies.isChosen(infos[id]))) continue;
                nodes[id] |= KEPT;
                nodes[first(id)] |= KEPT;
                nodes[second(id)] |= KEPT;
            }
            Arrays.fill(index, 0, limit / 4 * 3, 0);
            int left = POINTER;
            for (int id = POINTER; id < count; id++) {
                if ((nodes[id] & KEPT) == 0) continue;
                long parts = (long) moved(first(id)) << FIRST_AT | (long) moved(second(id)) << SECOND_AT;
                long others = nodes[id] & ~KEPT & ~((long) ID << FIRST_AT | (long) ID << SECOND_AT);
                index[id >> 1] |= (long) left << (id & 1) * SPOT;
                nodes[left] = others | parts;
                infos[left++] = infos[id];
            }
            for (int i = 0; i < numbered; i++) {
                if (ids[i] != NONE) ids[i] = moved(ids[i]);
            }
            for (int i = 0; i < POINTER; i++) {
                nodes[i] &= ~KEPT;
            }
            count = left;
        }

        /** The new id of a type, 0 if it was shed. */
        int moved(int id) {
            return id < POINTER ? id : (int) (index[id >> 1] >>> (id & 1) * SPOT) & ID;
        }

        /**
         * Lets all types be found again after some were shed. If there is to be little room, these are found faster, and are
         * shed more often.
         */
        void remember(boolean isNarrow) {
            Arrays.fill(index, 0, limit / 4 * 3, 0);
            limit = isNarrow ? Math.min(nodes.length, Math.max(NARROW, count * 4)) : nodes.length;
            enterAll();
        }
    }

    /**
     * The class templates with their specialisations, and the sets of constraints, those of specialisations ahead of
     * those of functions; and what follows from all this whatever the types are.
     */
    private static final class Templates {
        static final int TEMPLATES = 5;
        static final int EACH = 4;
        static final int MOST_CONSTRAINTS = 4;
        /** The number of the template itself among its bodies. */
        static final int ITSELF = -1;
        private static final int ROW = 2;
        private static final int FITTINGS = 1 << EACH;
        private static final int SETS = TEMPLATES * EACH + Functions.FUNCTIONS;
        /** What a parameter can stand for, as bits; and what each token is, the last one standing for nothing. */
        private static final int POINTERS = 1;
        private static final int CLASSES = 2;
        private static final int BASICS = 4;
        private static final int ANYTHING = 15;
        private static final int NOTHING_THERE = 31;
        private static final int[] KINDS = {
            4, 4, 4, 4, 4, 2, 2, 2, 2, 2, 2, 2, 2, 2, 2, 2, 2, 0, 0, 0, 1, 2, 2, 2, 2, 2, 2, 2, 2, 2, 2, 8,
        };

        private final Types types;
        private final Hierarchy hierarchy;
        private int count;
        private final int[] parameters = new int[TEMPLATES];
        private final int[] specialisations = new int[TEMPLATES];
        private final int[] patterns = new int[TEMPLATES * EACH * ROW];
        private final int[] bases = new int[TEMPLATES * (EACH + 1)];
        private final boolean[] isOver = new boolean[TEMPLATES * EACH * EACH];
        /** For each template, and the specialisations that fit and those that may, the bodies that can be, all as bits. */
        private final int[] possible = new int[TEMPLATES * FITTINGS * FITTINGS];
        private final int[] constraintCounts = new int[SETS];
        private final int[] constrained = new int[SETS * MOST_CONSTRAINTS];
        private final char[] letters = new char[SETS * MOST_CONSTRAINTS];
        private final int[] classes = new int[SETS * MOST_CONSTRAINTS];
        /** For each set and parameter, what it can stand for, and the classes of its constraints 'd', as bits. */
        private final int[] allowed = new int[SETS * PARAMETERS];
        private final int[] wanted = new int[SETS * PARAMETERS];
        /** For each number of steps, the classes at which the bases of an instance can end at most, as bits. */
        private final int[] ends = new int[(Chains.STEPS + 1) * TEMPLATES];
        /** For each number of steps by which an instance was come to, the classes to which it can lead at most, as bits. */
        private final int[] led = new int[(Chains.STEPS + 1) * TEMPLATES];
        /** The classes to which a type can lead at most that begins with a token, as bits. */
        private final int[] reach = new int[NOTHING_THERE + 1];
        /** The classes and templates that can be met by way of an instance, as bits. */
        private final int[] behind = new int[TEMPLATES];
        private int changes;
        private int changesSeen = NONE;

        Templates(Types types, Hierarchy hierarchy) {
            this.types = types;
            this.hierarchy = hierarchy;
            Arrays.fill(allowed, ANYTHING);
        }

        /** The set of constraints of a specialisation. */
        static int place(int template, int specialisation) {
            return template * EACH + specialisation;
        }

        int count() {
            return count;
        }

        int parameters(int template) {
            return parameters[template];
        }

        int specialisations(int template) {
            return specialisations[template];
        }

        int pattern(int template, int specialisation, int at) {
            return patterns[(template * EACH + specialisation) * ROW + at];
        }

        int base(int template, int body) {
            return bases[template * (EACH + 1) + body + 1];
        }

        /** The bodies that can be chosen if some specialisations fit, and others may, all as bits. */
        int possible(int template, int sure, int maybe) {
            return possible[(template * FITTINGS + sure) * FITTINGS + maybe];
        }

        int constraints(int set) {
            return constraintCounts[set];
        }

        /** Whether the constraints of a set hold for what is matched, as far as its kind tells it. */
        int fits(int frame, int set) {
            int fits = Chains.YES;
            for (int i = 0; i < PARAMETERS; i++) {
                int id = types.bound[frame * PARAMETERS + i];
                int head = id == NONE ? NOTHING_THERE : (int) types.nodes[id] & Types.TOKEN;
                if ((allowed[set * PARAMETERS + i] & KINDS[head]) == 0) return Chains.NO;
                int classes = wanted[set * PARAMETERS + i];
                if ((classes & ~reach[head]) != 0) return Chains.NO;
                if (classes != 0 && head >= Types.SINGLE) fits = Chains.OPEN;
            }
            return fits;
        }

        /** Whether a parameter can stand for what begins so. */
        private boolean suits(int set, int parameter, int head) {
            return (allowed[set * PARAMETERS + parameter] & KINDS[head]) != 0;
        }

        /** The classes to which an instance that was come to by some steps can lead at most, as bits. */
        int led(int template, int step) {
            return led[step * TEMPLATES + template];
        }

        /** The classes to which the type of a parameter must lead, as bits. */
        int wanted(int set, int parameter) {
            return wanted[set * PARAMETERS + parameter];
        }

        /** How often something was changed on which bodies depend. */
        int changes() {
            return changes + hierarchy.changes();
        }

        int put(int howMany) {
            parameters[count] = howMany;
            for (int body = ITSELF; body < EACH; body++) {
                bases[count * (EACH + 1) + body + 1] = NONE;
            }
            compareAll(count);
            return count++;
        }

        int putSpecialisation(int template, int first, int second) {
            int number = specialisations[template]++;
            int row = place(template, number) * ROW;
            patterns[row] = first;
            patterns[row + 1] = second;
            compareAll(template);
            return number;
        }

        int changeBase(int template, int body, int type) {
            int place = template * (EACH + 1) + body + 1;
            int before = bases[place];
            bases[place] = type;
            changes++;
            return before;
        }

        int putConstraint(int set, int parameter, char letter, int cls) {
            int place = set * MOST_CONSTRAINTS + constraintCounts[set];
            constrained[place] = parameter;
            letters[place] = letter;
            // The class of another letter has no meaning, so it must not tell two constraints apart.
            classes[place] = letter == 'd' ? cls : NONE;
            if (letter == 'd') wanted[set * PARAMETERS + parameter] |= 1 << cls;
            allowed[set * PARAMETERS + parameter] &= letter == 'p' ? POINTERS : letter == 'b' ? BASICS : CLASSES;
            return ++constraintCounts[set];
        }

        void compareAll(int template) {
            changes++;
            for (int own = 0; own < specialisations[template]; own++) {
                for (int other = 0; other < specialisations[template]; other++) {
                    int ownPlace = place(template, own);
                    int otherPlace = place(template, other);
                    isOver[ownPlace * EACH + other] = isMoreSpecial(patterns, ownPlace * ROW, otherPlace * ROW,
                            parameters[template], ownPlace, otherPlace);
                }
            }
            for (int maybe = 0; maybe < FITTINGS; maybe++) {
                int one = maybe & -maybe;
                for (int sure = 0; sure < FITTINGS; sure++) {
                    int at = (template * FITTINGS + sure) * FITTINGS;
                    possible[at + maybe] = maybe == 0 ? foundFirst(template, sure)
                            : possible[at + maybe - one] | possible(template, sure | one, maybe - one);
                }
            }
        }

        /** The one that is more special than all others that fit. */
        private int foundFirst(int template, int fitting) {
            for (int own = 0; own < EACH; own++) {
                boolean isFirst = (fitting >> own & 1) == 1;
                for (int other = 0; other < EACH && isFirst; other++) {
                    boolean isRival = other != own && (fitting >> other & 1) == 1;
                    if (isRival && !isOver[place(template, own) * EACH + other]) isFirst = false;
                }
                if (isFirst) return 1 << own;
            }
            return fitting == 0 ? 1 << Bodies.ITSELF : 1 << Bodies.UNSURE;
        }

        /** Whether one row of patterns, with a set of constraints, is more special than another one. */
        boolean isMoreSpecial(int[] rows, int own, int other, int length, int ownSet, int otherSet) {
            if (!types.matchesRow(rows, other, own, length)) return false;
            if (!types.matchesRow(rows, own, other, length)) return true;
            return holdsAllOf(ownSet, otherSet) && !holdsAllOf(otherSet, ownSet);
        }

        private boolean holdsAllOf(int set, int other) {
            for (int i = 0; i < constraintCounts[other]; i++) {
                if (!hasConstraint(set, other * MOST_CONSTRAINTS + i)) return false;
            }
            return true;
        }

        private boolean hasConstraint(int set, int place) {
            for (int i = set * MOST_CONSTRAINTS; i < set * MOST_CONSTRAINTS + constraintCounts[set]; i++) {
                boolean isSameLetter = letters[i] == letters[place] && classes[i] == classes[place];
                if (isSameLetter && constrained[i] == constrained[place]) return true;
            }
            return false;
        }

        /** To be called ahead of a question, as templates or classes may have changed. */
        void findEnds() {
            if (changes() == changesSeen) return;
            changesSeen = changes();
            for (int steps = 1; steps <= Chains.STEPS; steps++) {
                for (int i = 0; i < count; i++) {
                    int all = 0;
                    for (int body = ITSELF; body < specialisations[i]; body++) {
                        int head = canBeChosen(i, body) ? types.head(base(i, body)) : NONE;
                        if (Types.isClass(head)) all |= 1 << head - Types.CLASS;
                        if (Types.isInstance(head)) all |= ends[(steps - 1) * TEMPLATES + Types.templateOf(head)];
                    }
                    ends[steps * TEMPLATES + i] = all;
                }
            }
            for (int step = 0; step < Chains.STEPS; step++) {
                for (int i = 0; i < count; i++) {
                    led[step * TEMPLATES + i] = foundLed(i, step);
                }
            }
            for (int i = 0; i < hierarchy.count(); i++) {
                reach[Types.CLASS + i] = hierarchy.led(i, 0);
            }
            for (int i = 0; i < count; i++) {
                reach[Types.SINGLE + i] = led[i];
                reach[Types.TWOFOLD + i] = led[i];
            }
        }

        private int foundLed(int template, int step) {
            int all = 0;
            for (int next = step + 1; next <= Chains.STEPS; next++) {
                for (int cls = 0; cls < hierarchy.count(); cls++) {
                    if ((ends[(next - step) * TEMPLATES + template] >> cls & 1) == 1) all |= hierarchy.led(cls, next);
                }
            }
            return all;
        }

        /** Whether a body can be chosen for any instance. */
        private boolean canBeChosen(int template, int body) {
            if (isNeverFirst(template, body)) return false;
            boolean isPossible = true;
            for (int i = 0; i < PARAMETERS && isPossible && body != ITSELF; i++) {
                int classes = wanted(place(template, body), i);
                isPossible = classes == 0;
                for (int cls = 0; cls < hierarchy.count() && !isPossible; cls++) {
                    isPossible = hierarchy.leads(cls, classes, 0) || hierarchy.leads(cls, classes, 1);
                }
            }
            return isPossible;
        }

        /** Whether a specialisation that always fits stands in the way of a body. */
        private boolean isNeverFirst(int template, int body) {
            for (int i = 0; i < specialisations[template]; i++) {
                boolean isRival = i != body && alwaysFits(template, i);
                if (!isRival) continue;
                if (body == ITSELF || !isOver[place(template, body) * EACH + i]) return true;
            }
            return false;
        }

        private boolean alwaysFits(int template, int specialisation) {
            int first = types.head(pattern(template, specialisation, 0));
            int second = types.head(pattern(template, specialisation, 1));
            boolean isSingle = parameters[template] == 1;
            boolean isAny = Types.isParameter(first) && (isSingle || Types.isParameter(second));
            return isAny && first != second && constraintCounts[place(template, specialisation)] == 0;
        }

        /** Finds what can be met by way of instances, if classes and templates are about, which are told as bits. */
        void lookBehind(int present) {
            int about = present;
            for (int i = 0; i < TEMPLATES * (EACH + 1); i++) {
                for (int template = 0; template < count; template++) {
                    if (isIn(template, about)) about |= contentsOfBases(template, about);
                }
            }
            for (int template = 0; template < count; template++) {
                behind[template] = contentsOfBases(template, about);
            }
            for (int i = 0; i < TEMPLATES; i++) {
                for (int template = 0; template < count; template++) {
                    for (int other = 0; other < count; other++) {
                        if (isIn(other, behind[template])) behind[template] |= behind[other];
                    }
                }
            }
        }

        private static boolean isIn(int template, int contents) {
            return (contents >> Hierarchy.CLASSES + template & 1) == 1;
        }

        /** The classes that can be met by way of the bases of an instance, but for those in it, as bits. */
        int classesBehind(int template) {
            int found = 0;
            for (int cls = 0; cls < hierarchy.count(); cls++) {
                if ((behind[template] >> cls & 1) == 1) found |= hierarchy.allBases(cls);
            }
            return found;
        }

        /** The classes and templates in the bases that a template can have, with these classes and templates about. */
        private int contentsOfBases(int template, int about) {
            int all = 0;
            for (int body = ITSELF; body < specialisations[template]; body++) {
                int base = base(template, body);
                boolean isPossible = base != NONE && canBeChosen(template, body);
                for (int i = 0; i < PARAMETERS && isPossible && body != ITSELF; i++) {
                    isPossible = canHold(place(template, body), i, about);
                }
                if (isPossible) all |= types.contents(base);
            }
            return all;
        }

        /** Whether the constraints of a parameter may hold, with these classes and templates about. */
        private boolean canHold(int set, int parameter, int about) {
            if (canHoldFor(set, parameter, Types.POINTER)) return true;
            if (canHoldFor(set, parameter, Types.TRUTH)) return true;
            for (int i = 0; i < Hierarchy.CLASSES; i++) {
                if ((about >> i & 1) == 1 && canHoldFor(set, parameter, Types.CLASS + i)) return true;
            }
            for (int i = 0; i < count; i++) {
                if (isIn(i, about) && canHoldFor(set, parameter, Types.SINGLE + i)) return true;
            }
            return false;
        }

        private boolean canHoldFor(int set, int parameter, int head) {
            if (!suits(set, parameter, head)) return false;
            int classes = wanted(set, parameter);
            if (classes == 0) return true;
            if (Types.isClass(head)) return hierarchy.leads(head - Types.CLASS, classes, 0);
            if (!Types.isInstance(head)) return false;
            return hierarchy.oneLeads(ends[Chains.STEPS * TEMPLATES + Types.templateOf(head)], classes, 1);
        }
    }

    /** The classes with their bases, members and conversions, and what follows from these. */
    private static final class Hierarchy {
        static final int CLASSES = 12;
        static final int EACH = 3;
        static final int TOLD = 2;

        private int count;
        private final int[] namespaces = new int[CLASSES];
        private final int[] baseCounts = new int[CLASSES];
        private final int[] bases = new int[CLASSES * EACH];
        private final boolean[] areVirtual = new boolean[CLASSES * EACH];
        private final int[] memberCounts = new int[CLASSES];
        private final int[] members = new int[CLASSES * EACH];
        private final int[] toldCounts = new int[CLASSES * 2];
        private final int[] told = new int[CLASSES * 2 * TOLD];
        /** For each two classes, the least number of steps to a base, NONE if it is none. */
        private final int[] steps = new int[CLASSES * CLASSES];
        /** For each two classes, the parts to which there is a way without a virtual base. */
        private final int[] innerParts = new int[CLASSES * CLASSES];
        /** For each number of steps by which a class was come to, the classes to which it leads, as bits. */
        private final int[] led = new int[(Chains.STEPS + 1) * CLASSES];
        /** The virtual bases of a class in the order in which they are made. */
        private final int[] virtuals = new int[CLASSES * CLASSES];
        private final int[] virtualCounts = new int[CLASSES];
        /** For each two classes, the bodies of one in another one, members counted: as a part, and as a whole. */
        private final long[] partBodies = new long[CLASSES * CLASSES];
        private final long[] wholeBodies = new long[CLASSES * CLASSES];
        /** How many numbers of objects the making of a class takes: as a part, and as a whole. */
        private final long[] partObjects = new long[CLASSES];
        private final long[] wholeObjects = new long[CLASSES];
        private int changes;

        int count() {
            return count;
        }

        int namespace(int cls) {
            return namespaces[cls];
        }

        int bases(int cls) {
            return baseCounts[cls];
        }

        int baseAt(int cls, int at) {
            return bases[cls * EACH + at];
        }

        boolean isVirtualAt(int cls, int at) {
            return areVirtual[cls * EACH + at];
        }

        int members(int cls) {
            return memberCounts[cls];
        }

        int memberAt(int cls, int at) {
            return members[cls * EACH + at];
        }

        int virtuals(int cls) {
            return virtualCounts[cls];
        }

        int virtualAt(int cls, int at) {
            return virtuals[cls * CLASSES + at];
        }

        int steps(int cls, int base) {
            return steps[cls * CLASSES + base];
        }

        boolean isBase(int base, int cls) {
            return steps(cls, base) > 0;
        }

        long partBodies(int cls, int of) {
            return partBodies[cls * CLASSES + of];
        }

        long wholeBodies(int cls, int of) {
            return wholeBodies[cls * CLASSES + of];
        }

        long partObjects(int cls) {
            return partObjects[cls];
        }

        long wholeObjects(int cls) {
            return wholeObjects[cls];
        }

        int put(int namespace) {
            namespaces[count] = namespace;
            count++;
            workOut();
            return count - 1;
        }

        boolean hasOwnBase(int cls, int base) {
            for (int i = 0; i < baseCounts[cls]; i++) {
                if (baseAt(cls, i) == base) return true;
            }
            return false;
        }

        int putBase(int cls, int base, boolean isVirtual) {
            int place = cls * EACH + baseCounts[cls];
            bases[place] = base;
            areVirtual[place] = isVirtual;
            baseCounts[cls]++;
            workOut();
            return baseCounts[cls];
        }

        int putMember(int cls, int member) {
            members[cls * EACH + memberCounts[cls]] = member;
            memberCounts[cls]++;
            workOut();
            return memberCounts[cls];
        }

        int conversions(int cls, boolean isFrom) {
            return toldCounts[cls * 2 + (isFrom ? 1 : 0)];
        }

        int conversionAt(int cls, boolean isFrom, int at) {
            return told[(cls * 2 + (isFrom ? 1 : 0)) * TOLD + at];
        }

        boolean hasConversion(int cls, int type, boolean isFrom) {
            for (int i = 0; i < conversions(cls, isFrom); i++) {
                if (conversionAt(cls, isFrom, i) == type) return true;
            }
            return false;
        }

        int putConversion(int cls, int type, boolean isFrom) {
            int side = cls * 2 + (isFrom ? 1 : 0);
            told[side * TOLD + toldCounts[side]] = type;
            return ++toldCounts[side];
        }

        /** How many parts of a base a class has as a whole object. */
        int parts(int cls, int base) {
            int sum = innerParts[cls * CLASSES + base];
            for (int i = 0; i < virtualCounts[cls]; i++) {
                sum += innerParts[virtualAt(cls, i) * CLASSES + base];
            }
            return sum;
        }

        /** A class and its bases, as bits. */
        int allBases(int cls) {
            int all = 0;
            for (int base = 0; base <= cls; base++) {
                if (steps[cls * CLASSES + base] != NONE) all |= 1 << base;
            }
            return all;
        }

        /** The classes to which a class leads that was come to by some steps, as bits. */
        int led(int cls, int step) {
            return led[step * CLASSES + cls];
        }

        /** Whether a class that was come to by some steps leads to all these classes, which are bits. */
        boolean leads(int cls, int all, int step) {
            return (all & ~led[step * CLASSES + cls]) == 0;
        }

        /** Whether one of some classes, each come to by some steps, leads to all these classes. */
        boolean oneLeads(int some, int all, int step) {
            for (int cls = 0; cls < count; cls++) {
                if ((some >> cls & 1) == 1 && (all & ~led[step * CLASSES + cls]) == 0) return true;
            }
            return false;
        }

        /**
         * The steps to a base from a class that was come to by some steps; NONE if it is no class or no base, SEVERAL if
         * there are several parts of it.
         */
        int stepsFrom(int cls, int base, int step) {
            if (base < 0 || base >= count) return NONE;
            int more = steps[cls * CLASSES + base];
            if (more == NONE) return NONE;
            if ((led[step * CLASSES + cls] >> base & 1) == 1) return step + more;
            return step == 0 ? SEVERAL : NONE;
        }

        private void findLed(int cls) {
            for (int step = 0; step <= Chains.STEPS; step++) {
                int all = 0;
                for (int base = 0; base <= cls; base++) {
                    int steps = steps(cls, base);
                    boolean isLed = step == 0 ? parts(cls, base) == 1 : step + steps <= Chains.STEPS;
                    if (steps != NONE && isLed) all |= 1 << base;
                }
                led[step * CLASSES + cls] = all;
            }
        }

        long allParts(int cls) {
            long sum = 0;
            for (int base = 0; base < count; base++) {
                sum += parts(cls, base);
            }
            return sum;
        }

        /** How often something of the classes was changed. */
        int changes() {
            return changes;
        }

        /** Bases and members have lower numbers, so that what they need is worked out ahead of what needs them. */
        private void workOut() {
            changes++;
            for (int cls = 0; cls < count; cls++) {
                begin(cls);
                for (int i = 0; i < baseCounts[cls]; i++) {
                    takeBase(cls, baseAt(cls, i), isVirtualAt(cls, i));
                }
                for (int i = 0; i < memberCounts[cls]; i++) {
                    takeMember(cls, memberAt(cls, i));
                }
                finish(cls);
                findLed(cls);
            }
        }

        private void begin(int cls) {
            for (int other = 0; other < CLASSES; other++) {
                boolean isItself = other == cls;
                steps[cls * CLASSES + other] = isItself ? 0 : NONE;
                innerParts[cls * CLASSES + other] = isItself ? 1 : 0;
                partBodies[cls * CLASSES + other] = isItself ? 1 : 0;
            }
            virtualCounts[cls] = 0;
            partObjects[cls] = 0;
        }

        private void takeBase(int cls, int base, boolean isVirtual) {
            for (int other = 0; other <= base; other++) {
                int beyond = steps(base, other);
                int known = steps(cls, other);
                if (beyond != NONE && (known == NONE || known > beyond + 1)) steps[cls * CLASSES + other] = beyond + 1;
                if (!isVirtual) {
                    innerParts[cls * CLASSES + other] += innerParts[base * CLASSES + other];
                    partBodies[cls * CLASSES + other] += partBodies(base, other);
                }
            }
            if (!isVirtual) partObjects[cls] += partObjects[base];
            for (int i = 0; i < virtualCounts[base]; i++) {
                putVirtual(cls, virtualAt(base, i));
            }
            if (isVirtual) putVirtual(cls, base);
        }

        private void putVirtual(int cls, int base) {
            for (int i = 0; i < virtualCounts[cls]; i++) {
                if (virtualAt(cls, i) == base) return;
            }
            virtuals[cls * CLASSES + virtualCounts[cls]] = base;
            virtualCounts[cls]++;
        }

        private void takeMember(int cls, int member) {
            for (int other = 0; other <= member; other++) {
                partBodies[cls * CLASSES + other] += wholeBodies(member, other);
            }
            partObjects[cls] += wholeObjects[member];
        }

        private void finish(int cls) {
            wholeObjects[cls] = 1 + partObjects[cls];
            for (int other = 0; other < CLASSES; other++) {
                wholeBodies[cls * CLASSES + other] = partBodies(cls, other);
            }
            for (int i = 0; i < virtualCounts[cls]; i++) {
                int base = virtualAt(cls, i);
                wholeObjects[cls] += partObjects[base];
                for (int other = 0; other <= base; other++) {
                    wholeBodies[cls * CLASSES + other] += partBodies(base, other);
                }
            }
        }
    }

    /**
     * The bodies that instances can have, for what is known or supposed: each as a set of codes, which are bits. What is
     * known for good is told apart from what was chosen where there is a choice. Besides, which instances depend on which
     * ones, and the trail of what was narrowed, so that it can be undone.
     */
    private static final class Bodies {
        /** Bodies as codes, behind those of the specialisations. */
        static final int ITSELF = Templates.EACH;
        static final int UNSURE = Templates.EACH + 1;
        static final int CODES = Templates.EACH + 2;
        static final int ALL = (1 << CODES) - 1;

        /** What is noted of an instance: its bodies, those for good, marks, who depends on it, its place on the trail. */
        private static final int SURE_AT = 6;
        static final long MEMBER = 1L << 12;
        static final long EXPANDED = 1L << 13;
        static final long ON_PATH = 1L << 14;
        static final long GOAL = 1L << 15;
        static final long WAITING = 1L << 16;
        static final long FACT = 1L << 17;
        static final long CHANGED = 1L << 18;
        /** Whether an instance has no body for some bodies of others, so that it rules these out. */
        static final long STRICT = 1L << 19;
        static final long NUMBERED = 1L << 20;
        static final long MET = 1L << 21;
        static final long EDGES = (long) Types.ID << 22;
        private static final int EDGE_AT = 22;
        private static final int PLACE_AT = 43;
        private static final int ID_BITS = 21;

        /** An edge: who depends, or a nogood; the next edge; which of both it is. */
        private static final int NEXT_AT = 21;
        private static final long IS_NOGOOD = 1L << 42;
        /** A place of the trail: an instance, its bodies ahead of that, its place ahead of that, and why. */
        private static final int OLD_AT = 21;
        private static final int BEFORE_AT = 27;
        private static final int REASON_AT = 48;
        private static final int REASONS = (1 << 15) - 1;

        private static final int FEW = 1 << 6;
        private static final int MORE = 5;
        static final int MOST_EDGES = 600_000;
        static final int MOST_TRAILED = 400_000;
        static final int MOST_LEVELS = 1 << 16;
        static final int MOST_GOALS = 1 << 17;
        private static final int MOST_SUPPOSED = 40;
        private static final int RECENT = 1 << 8;
        static final int NOT_KEPT = -2;
        private static final int MIX = 0x9E3779B1;
        private static final int MIXED_AT = 16;
        private static final int MOST_DISLIKED = 1 << 6;
        private static final int DISLIKED_AT = 32;

        private final Types types;
        private final Templates templates;
        private final int[] parts = new int[Types.LARGEST * 2];
        /** The bases that were asked for last. */
        private final int[] recent = new int[RECENT];
        private final int[] recentBases = new int[RECENT];
        private long[] edges = new long[FEW];
        private int edgeCount = 1;
        private int freeEdge;
        private long[] trail = new long[FEW];
        private int trailed;
        /** The lowest id of those of whom something was undone. */
        private int lowestUndone;
        private int[] levels = new int[FEW];
        private int level;
        /** The instances whose bodies are asked for. */
        private int[] goals = new int[FEW];
        private int goalCount;
        private boolean hasMoreGoals;
        private boolean isOver;
        private boolean hasChosen;
        private boolean hasSettled;
        private int taste;
        /** The bodies that are tried last: the instance as a mixed number, and the bodies. */
        private final long[] disliked = new long[MOST_DISLIKED];
        private int dislikes;

        Bodies(Types types, Templates templates) {
            this.types = types;
            this.templates = templates;
        }

        static boolean isSingle(int set) {
            return (set & set - 1) == 0;
        }

        /** The code of the only body of a set. */
        static int code(int set) {
            return Integer.numberOfTrailingZeros(set);
        }

        /** The body of an instance that is tried first, out of a set and as a set; it depends on the taste. */
        int preferred(int id, int set) {
            if (taste == 0) return (set >> ITSELF & 1) == 1 ? 1 << ITSELF : set & -set;
            if (taste == 1) return Integer.highestOneBit(set);
            int mixed = (types.mixed(id) + taste) * MIX;
            int others = (mixed >>> MIXED_AT) % Math.max(1, Integer.bitCount(set));
            int left = set;
            for (int i = 0; i < others; i++) {
                left &= left - 1;
            }
            return left & -left;
        }

        int taste() {
            return taste;
        }

        /** With another taste another way is found, if there is one. */
        void setTaste(int taste) {
            this.taste = taste;
            dislikes = 0;
        }

        /**
         * Lets the bodies that an instance has be tried last; it is told by what it is made of, as ids do not last. Tells
         * whether it was not so yet.
         */
        boolean dislikes(int id) {
            int set = setOf(id);
            if ((set & ~disliked(id)) == 0 || dislikes == MOST_DISLIKED) return false;
            disliked[dislikes++] = (long) types.mixed(id) << DISLIKED_AT | set;
            return true;
        }

        /** The bodies of an instance that are tried last. */
        int disliked(int id) {
            int set = 0;
            int mixed = dislikes == 0 ? 0 : types.mixed(id);
            for (int i = 0; i < dislikes; i++) {
                if ((int) (disliked[i] >> DISLIKED_AT) == mixed) set |= (int) disliked[i] & ALL;
            }
            return set;
        }

        boolean hasDislikes() {
            return dislikes > 0;
        }

        /** Whether an instance has fewer bodies than it has for good. */
        static boolean isChosen(long info) {
            return ((int) info & ALL) != ((int) (info >> SURE_AT) & ALL);
        }

        // ---- what instances can be

        /** The bodies that an instance can have. */
        int setOf(int id) {
            int known = (int) types.infos[id] & ALL;
            if (known != 0) return known;
            long node = types.nodes[id];
            int head = (int) node & Types.TOKEN;
            int template = head >= Types.TWOFOLD ? head - Types.TWOFOLD : head - Types.SINGLE;
            int one = (int) (node >> Types.FIRST_AT) & Types.ID;
            int other = (int) (node >> Types.SECOND_AT) & Types.ID;
            int sure = 0;
            int maybe = 0;
            for (int i = 0; i < templates.specialisations(template); i++) {
                int pattern = templates.pattern(template, i, 0);
                types.empty(Types.PART);
                if (!types.matches(Types.PART, pattern, templates.pattern(template, i, 1), one, other)) continue;
                int fits = templates.fits(Types.PART, template * Templates.EACH + i);
                if (fits == Chains.YES) sure |= 1 << i;
                if (fits == Chains.OPEN) maybe |= 1 << i;
            }
            int set = templates.possible(template, sure, maybe);
            types.infos[id] |= set | (long) set << SURE_AT;
            return set;
        }

        /** Whether just one body is left for an instance, of whose bodies something is known. */
        boolean isDecided(int id) {
            int set = (int) types.infos[id] & ALL;
            return set != 0 && (set & set - 1) == 0;
        }

        /** Whether it is still to be found what goes with an instance. */
        boolean isOpen(int id) {
            int set = (int) types.infos[id] & ALL;
            return set == 0 || (set & set - 1) != 0 || (types.infos[id] & STRICT) != 0;
        }

        /** The base of an instance with a body if it was kept; NOT_KEPT if it was not. */
        int keptBase(int id, int body) {
            int asked = id * CODES + body;
            int slot = asked & RECENT - 1;
            return recent[slot] == asked ? recentBases[slot] : NOT_KEPT;
        }

        /** Keeps the base of an instance with a body, as the same ones are asked for again and again. */
        void keepBase(int id, int body, int base) {
            int asked = id * CODES + body;
            int slot = asked & RECENT - 1;
            recent[slot] = asked;
            recentBases[slot] = base;
        }

        /** The base of an instance with a body; NONE if it has none. */
        int baseAt(int id, int body) {
            long node = types.nodes[id];
            int head = (int) node & Types.TOKEN;
            int template = head >= Types.TWOFOLD ? head - Types.TWOFOLD : head - Types.SINGLE;
            int told = body >= UNSURE ? NONE : templates.base(template, body == ITSELF ? Templates.ITSELF : body);
            if (told == NONE) return NONE;
            int one = (int) (node >> Types.FIRST_AT) & Types.ID;
            int other = (int) (node >> Types.SECOND_AT) & Types.ID;
            types.empty(Types.OF_BASE);
            int[] bound = types.bound;
            int frame = Types.OF_BASE * PARAMETERS;
            if (body == ITSELF) {
                bound[frame] = one;
                bound[frame + 1] = head >= Types.TWOFOLD ? other : NONE;
            } else {
                int second = templates.pattern(template, body, 1);
                if (!types.matches(Types.OF_BASE, templates.pattern(template, body, 0), second, one, other)) return NONE;
            }
            int from = told * Types.WIDTH;
            int end = types.ends[from];
            int size = 0;
            for (int i = from; i < end; i++) {
                int token = types.tokens[i];
                boolean isParameter = token >= Types.PARAMETER && token < Types.POINTER;
                int part = isParameter ? bound[frame + token - Types.PARAMETER] : 0;
                if (part == NONE) return NONE;
                size += (int) (types.nodes[part] >> Types.SIZE_AT) & Types.TOKEN;
            }
            if (size > Types.LARGEST) return NONE;
            // The tokens are gone through from the last one on, so that what a type is made of is there ahead of it.
            int top = 0;
            for (int i = end - 1; i >= from; i--) {
                int token = types.tokens[i];
                if (token < Types.POINTER) {
                    parts[top++] = token < Types.PARAMETER ? token : bound[frame + token - Types.PARAMETER];
                    continue;
                }
                int part = parts[--top];
                int made = types.idFor(token, part, token < Types.TWOFOLD ? 0 : parts[--top]);
                if (made == NONE) return NONE;
                parts[top++] = made;
            }
            return parts[0];
        }

        /** The bodies that an instance could have when the trail had a length. */
        int setBefore(int id, int time) {
            int set = (int) types.infos[id] & ALL;
            int place = (int) (types.infos[id] >>> PLACE_AT) - 1;
            while (place >= time) {
                set = (int) (trail[place] >> OLD_AT) & ALL;
                place = ((int) (trail[place] >> BEFORE_AT) & Types.ID) - 1;
            }
            return set;
        }

        /** Whether the bodies of an instance were narrowed when the trail had a length. */
        boolean isNarrowed(int id, int time) {
            int place = (int) (types.infos[id] >>> PLACE_AT) - 1;
            while (place >= time) {
                place = ((int) (trail[place] >> BEFORE_AT) & Types.ID) - 1;
            }
            return place != NONE;
        }

        // ---- marks

        boolean is(int id, long mark) {
            return (types.infos[id] & mark) != 0;
        }

        boolean areBoth(int id, long marks) {
            return (types.infos[id] & marks) == marks;
        }

        void mark(int id, long mark) {
            types.infos[id] |= mark;
        }

        void unmark(int id, long mark) {
            types.infos[id] &= ~mark;
        }

        /** Takes marks away from all types. */
        void unmarkAll(long marks) {
            for (int id = 0; id < types.count; id++) {
                types.infos[id] &= ~marks;
            }
        }

        // ---- what is known, and what was chosen

        boolean hasChosen() {
            return hasChosen;
        }

        /** Whether bodies were settled for which no way was found. */
        boolean hasSettled() {
            return hasSettled;
        }

        /** Lets an instance have fewer bodies, of those that were found; for good unless this depends on what was chosen. */
        void learn(int id, int found, boolean isSure) {
            long info = types.infos[id];
            int set = (int) info & ALL & found;
            int sure = (int) (info >> SURE_AT) & ALL;
            if (isSure && (sure & found) != 0) sure &= found;
            types.infos[id] = info & ~(ALL | (long) ALL << SURE_AT) | set | (long) sure << SURE_AT;
            if (isSingle(set)) types.infos[id] |= FACT;
            if (set != sure) hasChosen = true;
        }

        /** Lets an instance have a body that does not follow. */
        void settle(int id, int set) {
            types.infos[id] = types.infos[id] & ~(long) ALL | set | FACT;
            hasChosen = true;
            hasSettled = true;
        }

        /** Lets the bodies that were chosen be open again. */
        void forgetChosen() {
            for (int id = 0; id < types.count; id++) {
                long info = types.infos[id];
                types.infos[id] = info & ~(long) ALL | info >> SURE_AT & ALL;
            }
            hasChosen = false;
            hasSettled = false;
        }

        // ---- who depends on whom

        /** Forgets who depends on whom. */
        void forgetEdges() {
            edgeCount = 1;
            freeEdge = 0;
            unmarkAll(EDGES | MEMBER | EXPANDED | CHANGED);
        }

        /** Notes that an instance depends on another one; false if there is no room. */
        boolean links(int id, int other) {
            int edge = freeEdge;
            if (edge != 0) freeEdge = nextEdge(edge);
            else if (hasEdges(1)) edge = edgeCount++;
            else return false;
            edges[edge] = id | (long) firstEdge(other) << NEXT_AT;
            putFirstEdge(other, edge);
            return true;
        }

        /** Whether there is room for so many more edges. */
        boolean hasEdges(int more) {
            while (edgeCount + more > edges.length && edges.length < MOST_EDGES) {
                edges = Arrays.copyOf(edges, Math.min(MOST_EDGES, edges.length << MORE));
            }
            return edgeCount + more <= edges.length;
        }

        /**
         * Notes that a nogood is about an instance, if there is room; these edges are taken away again, the last one first.
         */
        void linkNogood(int nogood, int id) {
            long info = types.infos[id];
            edges[edgeCount] = nogood | (info >> EDGE_AT & Types.ID) << NEXT_AT | IS_NOGOOD;
            types.infos[id] = info & ~EDGES | (long) edgeCount++ << EDGE_AT;
        }

        void unlinkNogood(int id) {
            long info = types.infos[id];
            long next = edges[(int) (info >> EDGE_AT) & Types.ID] >> NEXT_AT & Types.ID;
            types.infos[id] = info & ~EDGES | next << EDGE_AT;
            edgeCount--;
        }

        int firstEdge(int id) {
            return (int) (types.infos[id] >> EDGE_AT) & Types.ID;
        }

        private void putFirstEdge(int id, int edge) {
            types.infos[id] = types.infos[id] & ~EDGES | (long) edge << EDGE_AT;
        }

        int nextEdge(int edge) {
            return (int) (edges[edge] >> NEXT_AT) & Types.ID;
        }

        boolean isNogood(int edge) {
            return (edges[edge] & IS_NOGOOD) != 0;
        }

        /** Who depends, or the nogood. */
        int target(int edge) {
            return (int) edges[edge] & Types.ID;
        }

        /** Takes away the first edge of an instance whose body is known. */
        void dropEdge(int id) {
            int edge = firstEdge(id);
            putFirstEdge(id, nextEdge(edge));
            edges[edge] = edges[edge] & ~((long) Types.ID << NEXT_AT) | (long) freeEdge << NEXT_AT;
            freeEdge = edge;
        }

        /** Takes over the new ids of instances. */
        void moveIds() {
            Arrays.fill(recent, 0);
            for (int i = 1; i < edgeCount; i++) {
                edges[i] = edges[i] & ~(long) Types.ID | types.moved(target(i));
            }
            int left = 0;
            for (int i = 0; i < goalCount; i++) {
                int id = types.moved(goals[i]);
                if (id != 0) goals[left++] = id;
            }
            goalCount = left;
        }

        // ---- the trail

        int trailed() {
            return trailed;
        }

        boolean hasRoom() {
            return trailed < MOST_TRAILED - CODES && level < MOST_LEVELS - 1;
        }

        /** The place of an instance on the trail, NONE if it is not there. */
        int place(int id) {
            return (int) (types.infos[id] >>> PLACE_AT) - 1;
        }

        int idAt(int place) {
            return (int) trail[place] & Types.ID;
        }

        int oldSet(int place) {
            return (int) (trail[place] >> OLD_AT) & ALL;
        }

        int reason(int place) {
            return (int) (trail[place] >>> REASON_AT) & REASONS;
        }

        /** Narrows the bodies of an instance so that it can be undone. */
        void narrow(int id, int set, int reason) {
            if (trailed == trail.length) trail = Arrays.copyOf(trail, Math.min(MOST_TRAILED, trailed << MORE));
            long info = types.infos[id];
            long old = info & ALL;
            trail[trailed] = id | old << OLD_AT | (info >>> PLACE_AT) << BEFORE_AT | (long) reason << REASON_AT;
            trailed++;
            types.infos[id] = info & (1L << PLACE_AT) - 1 & ~(long) ALL | set | (long) trailed << PLACE_AT;
        }

        void undo(int left) {
            while (trailed > left) {
                trailed--;
                long place = trail[trailed];
                int id = (int) place & Types.ID;
                if (id < lowestUndone) lowestUndone = id;
                long info = types.infos[id] & (1L << PLACE_AT) - 1 & ~(long) ALL;
                types.infos[id] = info | place >> OLD_AT & ALL | (place >> BEFORE_AT & Types.ID) << PLACE_AT;
            }
        }

        /** Takes over what is on the trail; what was narrowed ahead of all guesses is so for good, if it is sure. */
        void keepTrail(boolean isSure) {
            int guessed = startOf(1);
            for (int i = 0; i < guessed && isSure; i++) {
                int id = idAt(i);
                long sure = (long) setBefore(id, guessed) << SURE_AT;
                types.infos[id] = types.infos[id] & ~((long) ALL << SURE_AT) | sure;
            }
            for (int i = 0; i < trailed; i++) {
                int id = idAt(i);
                long info = types.infos[id] & (1L << PLACE_AT) - 1;
                types.infos[id] = isSingle((int) info & ALL) ? info | FACT : info;
                if (isChosen(info)) hasChosen = true;
                if (isOpen(id)) continue;
                // It does not depend on others any more, and others need not wait for it.
                unmark(id, MEMBER | EXPANDED);
                while (firstEdge(id) != 0) {
                    dropEdge(id);
                }
            }
            trailed = 0;
            level = 0;
        }

        /** The lowest id of those of whom something was undone since that was asked last. */
        int lowestUndone() {
            int lowest = lowestUndone;
            lowestUndone = Types.ID;
            return lowest;
        }

        int level() {
            return level;
        }

        /** Begins a level with a guess. */
        void startLevel() {
            if (level == levels.length) levels = Arrays.copyOf(levels, Math.min(MOST_LEVELS, level << MORE));
            levels[level++] = trailed;
        }

        /** Where a level begins on the trail. */
        int startOf(int which) {
            return which > level ? trailed : which == 0 ? 0 : levels[which - 1];
        }

        void undoLevels(int left) {
            undo(startOf(left + 1));
            level = Math.min(level, left);
        }

        /** The level of a place of the trail. */
        int levelOf(int place) {
            int low = 0;
            int high = level;
            for (int i = 0; i < Integer.SIZE && low < high; i++) {
                int middle = low + high + 1 >> 1;
                if (levels[middle - 1] <= place) low = middle;
                else high = middle - 1;
            }
            return low;
        }

        /** Where an instance was narrowed to some bodies; NONE if it always had no others. */
        int placeOf(int id, int set) {
            int place = (int) (types.infos[id] >>> PLACE_AT) - 1;
            while (place != NONE && ((int) (trail[place] >> OLD_AT) & ALL & ~set) == 0) {
                place = ((int) (trail[place] >> BEFORE_AT) & Types.ID) - 1;
            }
            return place;
        }

        // ---- goals, and what is supposed of them

        int goals() {
            return goalCount;
        }

        int goal(int at) {
            return goals[at];
        }

        void clearGoals() {
            unmarkAll(GOAL | WAITING | NUMBERED);
            goalCount = 0;
            hasMoreGoals = false;
        }

        /** Takes an instance among those whose bodies are asked for. */
        void addGoal(int id, long mark) {
            if ((types.infos[id] & (GOAL | mark)) == (GOAL | mark)) return;
            types.infos[id] |= GOAL | mark;
            if (goalCount == goals.length) {
                if (goalCount == MOST_GOALS) {
                    hasMoreGoals = true;
                    return;
                }
                goals = Arrays.copyOf(goals, Math.min(MOST_GOALS, goalCount << MORE));
            }
            goals[goalCount++] = id;
        }

        /** Leaves only those among the goals that wait, and tells how many these are. */
        int keepWaiting() {
            int left = 0;
            for (int i = 0; i < goalCount; i++) {
                if (is(goals[i], WAITING)) goals[left++] = goals[i];
            }
            goalCount = left;
            if (left > 0 || !hasMoreGoals) return left;
            hasMoreGoals = false;
            for (int id = Types.POINTER; id < types.count && goalCount < MOST_GOALS; id++) {
                if (!is(id, WAITING)) continue;
                unmark(id, WAITING);
                addGoal(id, WAITING);
            }
            hasMoreGoals = goalCount == MOST_GOALS;
            return goalCount;
        }

        boolean areDecided() {
            for (int i = 0; i < goalCount; i++) {
                if (!isDecided(goals[i])) return false;
            }
            return true;
        }

        /** Whether more had to be supposed than can be. */
        boolean isOver() {
            return isOver;
        }

        /** Supposes the first body of an instance that can have several ones, and tells its code. */
        int suppose(int id) {
            addGoal(id, 0);
            int set = (int) types.infos[id] & ALL;
            if (trailed == MOST_SUPPOSED) isOver = true;
            else narrow(id, set & -set, 0);
            return code(set);
        }

        /** Goes on to suppose something else: what was supposed last changes first; false if there is nothing else. */
        boolean supposesNext() {
            while (trailed > 0 && !isOver) {
                int place = trailed - 1;
                int id = idAt(place);
                int now = (int) types.infos[id] & ALL;
                int left = oldSet(place) & -(now << 1);
                if (left != 0) {
                    types.infos[id] = types.infos[id] & ~(long) ALL | left & -left;
                    return true;
                }
                undo(place);
            }
            return false;
        }

        void endSupposing() {
            undo(0);
            isOver = false;
        }

        /** Forgets all; to be called when types are forgotten. */
        void forget() {
            Arrays.fill(recent, 0);
            edgeCount = 1;
            freeEdge = 0;
            goalCount = 0;
            trailed = 0;
            level = 0;
            hasChosen = false;
            hasSettled = false;
        }
    }

    /**
     * Goes from types along their bases, by all bodies that instances can have, for what is known or supposed; and notes on
     * whose bodies it depends what is found.
     */
    private static final class Chains {
        static final int STEPS = 6;
        /** Whether a constraint holds. */
        static final int NO = 0;
        static final int YES = 1;
        static final int OPEN = 2;
        static final int OPEN_STEPS = -3;

        private static final int PATHS = 1 << 12;
        private static final int MOST_NOTED = 1 << 8;
        private static final int MOST_HEARD = 1 << 10;
        /** How many are supposed at once at most, and how many ways there are to do so. */
        private static final int MOST_SUPPOSED = 3;
        private static final int WAYS = 32;

        private final Types types;
        private final Hierarchy hierarchy;
        private final Templates templates;
        private final Bodies bodies;
        /** The instances on a way to bases, each with the bodies that are left to go by. */
        private final int[] way = new int[STEPS];
        private final int[] left = new int[STEPS];
        /** Those that can have several bodies, and these. */
        private final int[] open = new int[MOST_NOTED];
        private final int[] openSets = new int[MOST_NOTED];
        private int opened;
        private boolean doesNote;
        /** Those whose bodies were narrowed, of which it was heard, if the length of the trail is told for which it is asked. */
        private final int[] heard = new int[MOST_HEARD];
        private int heardCount;
        private int time = NONE;
        /** What is supposed of the first ones that are open. */
        private final int[] supposed = new int[MOST_SUPPOSED];
        private int supposedCount;
        private int supposedFrom;
        private boolean isPartial;
        private boolean isChosen;

        Chains(Types types, Hierarchy hierarchy, Templates templates, Bodies bodies) {
            this.types = types;
            this.hierarchy = hierarchy;
            this.templates = templates;
            this.bodies = bodies;
        }

        /** Begins to look at instances for what was known when the trail had a length, or for what is known now. */
        void begin(int time) {
            this.time = time;
            heardCount = 0;
            isPartial = false;
            isChosen = false;
        }

        /** Begins to note which ones are open. */
        void clearOpen() {
            keepOpen(0);
            supposedCount = 0;
            doesNote = true;
        }

        /** Begins a question, for which nothing is to be noted. */
        void beginQuestion() {
            begin(NONE);
            clearOpen();
            doesNote = false;
        }

        /** Keeps the first ones of those that are open. */
        void keepOpen(int count) {
            while (opened > count) {
                opened--;
                types.nodes[open[opened]] &= ~Types.MARKED;
            }
        }

        /** Lets just one be open. */
        void openAlone(int id) {
            keepOpen(0);
            open[0] = id;
            opened = 1;
            types.nodes[id] |= Types.MARKED;
        }

        int opened() {
            return opened;
        }

        int openAt(int at) {
            return open[at];
        }

        /** Whether there were too many, so that something may be missing. */
        boolean isPartial() {
            return isPartial;
        }

        /** Whether it depends on a body that was chosen. */
        boolean isChosen() {
            return isChosen;
        }

        int heard() {
            return heardCount;
        }

        int heardAt(int at) {
            return heard[at];
        }

        /** Keeps the first ones of those of which it was heard, and those from a place on. */
        void keepHeard(int count, int from) {
            int more = heardCount - from;
            for (int i = 0; i < more && from > count; i++) {
                heard[count + i] = heard[from + i];
            }
            if (from > count) heardCount = count + more;
        }

        // ---- what types lead to

        /** Whether a type leads to all these classes, which are bits, by all bodies that instances can have. */
        int leads(int type, int classes) {
            int found = 0;
            int depth = 0;
            int at = type;
            for (int i = 0; i < PATHS; i++) {
                int end = at == NONE ? NO : endOf(at, depth, classes);
                if (end == OPEN) {
                    way[depth] = at;
                    left[depth] = noted(at, bodies.setOf(at));
                    depth++;
                } else {
                    found |= 1 << end;
                }
                while (depth > 0 && left[depth - 1] == 0) {
                    depth--;
                }
                if (depth == 0) return found == 1 << NO ? NO : found == 1 << YES ? YES : OPEN;
                int body = Bodies.code(left[depth - 1]);
                left[depth - 1] &= left[depth - 1] - 1;
                at = bodies.keptBase(way[depth - 1], body);
                if (at == Bodies.NOT_KEPT) {
                    at = bodies.baseAt(way[depth - 1], body);
                    if (!types.isShort()) bodies.keepBase(way[depth - 1], body, at);
                }
            }
            isPartial = true;
            return OPEN;
        }

        /** Whether a type that was come to by some steps leads to classes; OPEN if this depends on its base. */
        private int endOf(int type, int step, int classes) {
            int head = (int) types.nodes[type] & Types.TOKEN;
            if (head < Types.PARAMETER && head >= Types.CLASS) {
                return hierarchy.leads(head - Types.CLASS, classes, step) ? YES : NO;
            }
            if (head < Types.SINGLE || step == STEPS) return NO;
            int template = head >= Types.TWOFOLD ? head - Types.TWOFOLD : head - Types.SINGLE;
            return (classes & ~templates.led(template, step)) == 0 ? OPEN : NO;
        }

        /** The bodies of an instance for what is supposed, and for the time that was told; it is noted. */
        private int noted(int id, int now) {
            int set = time == NONE ? now : bodies.setBefore(id, time);
            for (int i = 0; i < supposedCount; i++) {
                if (open[supposedFrom + i] == id) set = supposed[i];
            }
            if (Bodies.isChosen(types.infos[id])) isChosen = true;
            if (time != NONE && bodies.isNarrowed(id, time)) hear(id);
            boolean isNew = doesNote && (set & set - 1) != 0 && (types.nodes[id] & Types.MARKED) == 0;
            if (isNew && opened == MOST_NOTED) isPartial = true;
            else if (isNew) {
                types.nodes[id] |= Types.MARKED;
                open[opened] = id;
                openSets[opened++] = set;
            }
            return set;
        }

        private void hear(int id) {
            if (heardCount == MOST_HEARD) {
                isPartial = true;
                return;
            }
            heard[heardCount++] = id;
        }

        /** The steps from a type to a base if they are the same by all bodies that instances can have, or OPEN_STEPS. */
        int stepsByAll(int type, int target) {
            int found = OPEN_STEPS;
            int depth = 0;
            int at = type;
            for (int i = 0; i < PATHS; i++) {
                int steps = at == NONE ? NONE : stepsTo(at, target, depth);
                if (steps == OPEN_STEPS) {
                    way[depth] = at;
                    left[depth] = bodies.setOf(at);
                    depth++;
                } else {
                    if (found != OPEN_STEPS && found != steps) return OPEN_STEPS;
                    found = steps;
                }
                while (depth > 0 && left[depth - 1] == 0) {
                    depth--;
                }
                if (depth == 0) return found;
                int body = Bodies.code(left[depth - 1]);
                left[depth - 1] &= left[depth - 1] - 1;
                at = bodies.baseAt(way[depth - 1], body);
            }
            return OPEN_STEPS;
        }

        /**
         * The steps to a target by way of a type that was come to by some steps: NONE if it is no base, SEVERAL if there are
         * several parts of it, OPEN_STEPS if this depends on the base of the type.
         */
        private int stepsTo(int type, int target, int step) {
            if (type == target) return step;
            int head = (int) types.nodes[type] & Types.TOKEN;
            int aim = (int) types.nodes[target] & Types.TOKEN;
            if (head < Types.PARAMETER && head >= Types.CLASS) {
                return hierarchy.stepsFrom(head - Types.CLASS, aim - Types.CLASS, step);
            }
            if (head < Types.SINGLE || step == STEPS) return NONE;
            int template = head >= Types.TWOFOLD ? head - Types.TWOFOLD : head - Types.SINGLE;
            boolean isClass = aim < Types.PARAMETER && aim >= Types.CLASS;
            return isClass && (templates.led(template, step) >> aim - Types.CLASS & 1) == 0 ? NONE : OPEN_STEPS;
        }

        // ---- for what is supposed for a question

        /** The code of the body of an instance; if it can have several ones, of that which is supposed. */
        int supposedBody(int id) {
            int set = bodies.setOf(id);
            return Bodies.isSingle(set) ? Bodies.code(set) : bodies.suppose(id);
        }

        /** The same as stepsByAll(), for what is supposed. */
        int stepsSupposed(int type, int target) {
            int at = type;
            for (int step = 0; step <= STEPS && at != NONE; step++) {
                int steps = stepsTo(at, target, step);
                if (steps != OPEN_STEPS) return steps;
                int set = bodies.setOf(at);
                at = bodies.baseAt(at, Bodies.isSingle(set) ? Bodies.code(set) : bodies.suppose(at));
            }
            return NONE;
        }

        /** Whether the constraints of a set hold for what is matched; something is supposed only if it matters. */
        boolean areMet(int frame, int constraints) {
            if (templates.fits(frame, constraints) == NO) return false;
            for (int i = 0; i < PARAMETERS; i++) {
                int classes = templates.wanted(constraints, i);
                if (classes == 0) continue;
                int type = types.bound[frame * PARAMETERS + i];
                int leads = leads(type, classes);
                if (leads == OPEN) leads = leadsSupposed(type, classes);
                if (leads == NO) return false;
            }
            return true;
        }

        private int leadsSupposed(int type, int classes) {
            int at = type;
            for (int step = 0; step <= STEPS && at != NONE; step++) {
                int end = endOf(at, step, classes);
                if (end != OPEN) return end;
                at = bodies.baseAt(at, supposedBody(at));
            }
            return NO;
        }

        // ---- supposing of those that are open, to see what follows for one that depends on them

        /**
         * Begins to suppose what those have for bodies that are open, if they are few; if they are too many, what the one
         * has itself that depends on them. False if nothing is supposed.
         */
        boolean supposesFirst(int own) {
            int ways = 1;
            int place = NONE;
            for (int i = 0; i < opened && i <= MOST_SUPPOSED; i++) {
                ways *= Integer.bitCount(openSets[i]);
            }
            boolean areFew = opened <= MOST_SUPPOSED && ways <= WAYS;
            for (int i = 0; i < opened && !areFew && place == NONE; i++) {
                if (open[i] == own) place = i;
            }
            if (opened == 0 || !areFew && place == NONE) return false;
            doesNote = false;
            supposedFrom = areFew ? 0 : place;
            supposedCount = areFew ? opened : 1;
            for (int i = 0; i < supposedCount; i++) {
                if (open[i + supposedFrom] == own) exchange(i + supposedFrom, supposedFrom + supposedCount - 1);
            }
            for (int i = 0; i < supposedCount; i++) {
                supposed[i] = openSets[supposedFrom + i] & -openSets[supposedFrom + i];
            }
            return true;
        }

        /** The one itself is the last one, so that what is supposed of it changes first. */
        private void exchange(int at, int last) {
            int id = open[at];
            int set = openSets[at];
            open[at] = open[last];
            openSets[at] = openSets[last];
            open[last] = id;
            openSets[last] = set;
        }

        boolean supposesNext() {
            for (int i = supposedCount - 1; i >= 0; i--) {
                int set = openSets[supposedFrom + i];
                int more = set & -(supposed[i] << 1);
                supposed[i] = more != 0 ? more & -more : set & -set;
                if (more != 0) return true;
            }
            return false;
        }

        void endSupposing() {
            supposedCount = 0;
        }

        /** Whether something is supposed of all those that are open. */
        boolean isAllSupposed() {
            return supposedCount == opened;
        }

        /** What is supposed of one itself, all bodies if nothing is. */
        int supposedOf(int own) {
            int last = supposedCount - 1;
            return open[supposedFrom + last] == own ? supposed[last] : Bodies.ALL;
        }

        /** Whether all bodies of one itself were supposed for what is supposed of the others. */
        boolean isLastOf(int own) {
            int last = supposedFrom + supposedCount - 1;
            return open[last] != own || (openSets[last] & -(supposed[supposedCount - 1] << 1)) == 0;
        }

        /** What is supposed of the only one that is open. */
        int supposedAlone() {
            return opened == 1 && supposedCount == 1 ? supposed[0] : 0;
        }
    }

    /**
     * Looks at instances: which bodies one can have for what is known of others, and on whose bodies this depends. Where
     * few are open, each of their bodies is supposed, one after another. A look goes on step by step, as calls would stand
     * open too deep otherwise.
     */
    private static final class Look {
        /** For each body, a set of bodies. */
        private static final long EACH_ITSELF = 1 | 1 << 7 | 1 << 14 | 1 << 21 | 1 << 28 | 1L << 35;
        /** How long a line is along which a look goes at most; one in so many of it is kept. */
        private static final int LINE = 1 << 12;
        private static final int KEPT = 1 << 8;

        private final Types types;
        private final Templates templates;
        private final Bodies bodies;
        private final Chains chains;
        private int looks;
        /** The one that is looked at, and the one on the line from it at which the look is. */
        private int own;
        private int at;
        private int line;
        private int time;
        private boolean isWhole;
        private boolean isDense;
        private boolean isBusy;
        /**
         * The specialisations that are left, that fit, that may fit; the same for whatever is supposed; how often something
         * was supposed, NONE if it is not known yet what the one at which it is depends on.
         */
        private int template;
        private int rest;
        private int sure;
        private int maybe;
        private int sureAnyway;
        private int maybeAnyway;
        private int run;
        /** Whether there is no body for something that was supposed of others; the bodies that are found for that. */
        private boolean isStrict;
        private int group;
        /** The bodies that were found; for those of the only one that is open; and by way of the line. */
        private int set;
        private long byOpen;
        private long byLine;

        Look(Types types, Templates templates, Bodies bodies, Chains chains) {
            this.types = types;
            this.templates = templates;
            this.bodies = bodies;
            this.chains = chains;
        }

        /** How often was looked since it is counted. */
        int looks() {
            return looks;
        }

        void count() {
            looks = 0;
        }

        /** Whether long lines are gone along, as there is no room for all that is on them. */
        boolean isDense() {
            return isDense;
        }

        void setDense(boolean isDense) {
            this.isDense = isDense;
        }

        /** The bodies that the one that was looked at can have. */
        int set() {
            return set;
        }

        boolean isStrict() {
            return isStrict;
        }

        boolean isBusy() {
            return isBusy;
        }

        /**
         * Begins to look at an instance, for what was known when the trail had a length, or NONE for now; a whole look hears
         * of all that it depends on, another one of that from which follows what is found.
         */
        void begin(int id, int time, boolean isWhole) {
            looks++;
            own = id;
            at = id;
            line = 0;
            byLine = EACH_ITSELF;
            isBusy = true;
            run = NONE;
            this.time = time;
            this.isWhole = isWhole;
        }

        private void beginAt() {
            if (line == 0) chains.begin(time);
            template = Types.templateOf(types.headOf(at));
            run = 0;
            byOpen = 0;
            sure = 0;
            maybe = 0;
            rest = (1 << templates.specialisations(template)) - 1;
            chains.clearOpen();
        }

        /** Begins to look what follows from what is supposed now, for those that may fit. */
        private void beginRun() {
            sure = sureAnyway;
            maybe = 0;
            rest = maybeAnyway;
        }

        /** Goes on by a step. */
        void goOn() {
            if (run == NONE) beginAt();
            int possible = templates.possible(template, sure, maybe | rest);
            if (rest == 0 || Bodies.isSingle(possible)) {
                endRun(possible);
                return;
            }
            int specialisation = Bodies.code(rest);
            rest &= rest - 1;
            int pattern = templates.pattern(template, specialisation, 0);
            int second = templates.pattern(template, specialisation, 1);
            types.empty(Types.FITTING);
            if (!types.matches(Types.FITTING, pattern, second, types.first(at), types.second(at))) return;
            int constraints = Templates.place(template, specialisation);
            int fits = templates.fits(Types.FITTING, constraints);
            int open = chains.opened();
            int heard = chains.heard();
            boolean isOpen = fits == Chains.OPEN;
            if (isOpen) fits = Chains.YES;
            for (int i = 0; i < PARAMETERS && isOpen && fits != Chains.NO; i++) {
                int classes = templates.wanted(constraints, i);
                if (classes == 0) continue;
                int heardAhead = chains.heard();
                int leads = chains.leads(types.bound[Types.FITTING * PARAMETERS + i], classes);
                if (leads != Chains.YES) fits = leads;
                if (leads == Chains.NO && !isWhole) chains.keepHeard(heard, heardAhead);
            }
            if (fits == Chains.YES) sure |= 1 << specialisation;
            if (fits == Chains.OPEN) maybe |= 1 << specialisation;
            if (fits == Chains.OPEN && !isWhole) chains.keepHeard(heard, chains.heard());
            if (fits == Chains.NO && run == 0) chains.keepOpen(open);
        }

        /** Ends with what is supposed now; goes on to suppose something else, or along the line, or ends. */
        private void endRun(int possible) {
            if (run == 0) {
                set = possible;
                group = 0;
                isStrict = false;
                sureAnyway = sure;
                maybeAnyway = maybe;
                if (!Bodies.isSingle(possible) && chains.supposesFirst(at)) {
                    set = 0;
                    isStrict = !chains.isAllSupposed();
                    run++;
                    beginRun();
                    return;
                }
            } else {
                int found = possible & chains.supposedOf(at);
                set |= found;
                group |= found;
                if (chains.isLastOf(at)) {
                    if (group == 0) isStrict = true;
                    group = 0;
                }
                int other = chains.supposedAlone();
                if (other != 0) byOpen |= (long) found << Bodies.code(other) * Bodies.CODES;
                if (chains.supposesNext()) {
                    beginRun();
                    return;
                }
            }
            chains.endSupposing();
            if (isDense && goesAlong()) return;
            // Where nothing goes the line ends ahead of that one.
            if (set == 0 && at != own) {
                chains.openAlone(at);
                set = Bodies.ALL;
            }
            set = image(byLine, set);
            isBusy = false;
        }

        /** Goes on along the line if just one is open, and it is none of those that are kept. */
        private boolean goesAlong() {
            if (Bodies.isSingle(set) || byOpen == 0 || chains.opened() != 1) return false;
            int other = chains.openAt(0);
            if (other == at || other == own || bodies.is(other, Bodies.MEMBER | Bodies.GOAL)) return false;
            if (line == LINE || !types.hasSome() || (types.mixed(other) & KEPT - 1) == 0) return false;
            long all = 0;
            for (int i = 0; i < Bodies.CODES; i++) {
                int set = (int) (byOpen >> i * Bodies.CODES) & Bodies.ALL;
                all |= (long) image(byLine, set) << i * Bodies.CODES;
            }
            byLine = all;
            at = other;
            line++;
            looks++;
            run = NONE;
            return true;
        }

        /** The bodies that go with one of a set. */
        private static int image(long byBody, int set) {
            int all = 0;
            for (int i = 0; i < Bodies.CODES; i++) {
                if ((set >> i & 1) == 1) all |= (int) (byBody >> i * Bodies.CODES) & Bodies.ALL;
            }
            return all;
        }
    }

    /**
     * Finds what follows for the bodies of instances: goes from those that are asked for to those on whose bodies they
     * depend, now to those that were come to first, now to those that were come to last; and whenever something is found,
     * looks again at those who depend on it.
     */
    private static final class Explorer {
        private static final int MOST = 1 << 28;
        /** How many are taken from one end, and then from the other one. */
        private static final int TURN = 32;
        private static final int MOST_WOKEN = 1 << 8;

        private static final int FEW = 1 << 6;
        private static final int MORE = 4;
        private static final int MOST_CHANGED = 1 << 17;
        /** How often what was chosen is forgotten for a question. */
        private static final int MOST_REVOKED = 1 << 6;
        private static final int MOST_TASTES = 1 << 6;
        private static final int MOST_SHORTS = 4;

        private final Types types;
        private final Templates templates;
        private final Bodies bodies;
        private final Chains chains;
        private final Look look;
        private final Frontier frontier;
        /** The frontier of the walk, which takes over new ids with this one. */
        private final Frontier walked;
        /** The one that is looked at, and the one of which those are looked at that depend on it. */
        private int looked = NONE;
        private int source = NONE;
        private int edge;
        private int[] changed = new int[FEW];
        private int changedCount;
        private int taken;
        private boolean hasSkipped;
        /** Whether there is no room for types, or for who depends on whom. */
        private boolean isFull;
        private boolean isLong;
        /** Whether there is nothing more to shed. */
        private boolean isStuck;
        /** Whether all goals are to be put anew. */
        private boolean isAnew;
        private int changes = NONE;
        private int revoked;
        /** The one that was settled last, as no body goes with it; how often what was chosen is still to be forgotten if so. */
        private int settled = NONE;
        private int patience;
        /** The goals whose bodies became fewer, as far as there is room. */
        private final int[] woken = new int[MOST_WOKEN];
        private int wokenCount;

        Explorer(Types types, Templates templates, Bodies bodies, Chains chains, Look look, Frontier walked) {
            this.types = types;
            this.templates = templates;
            this.bodies = bodies;
            this.chains = chains;
            this.look = look;
            this.walked = walked;
            frontier = new Frontier(types);
        }

        /** Begins a question. What is known stays known as long as no template or class was changed. */
        void begin() {
            chains.beginQuestion();
            templates.findEnds();
            boolean hasNewNumbers = types.hasNewNumbers();
            if (templates.changes() != changes || types.isHalfFull()) {
                changes = templates.changes();
                types.forget();
                bodies.forget();
            } else if (bodies.hasSettled() || hasNewNumbers && bodies.hasChosen()) {
                bodies.forgetChosen();
            }
            look.setDense(false);
            look.count();
            startAnew();
            isAnew = false;
            bodies.clearGoals();
            types.tellIds();
            revoked = 0;
            patience = PATIENCE;
        }

        private void startAnew() {
            bodies.forgetEdges();
            frontier.clear();
            hasSkipped = false;
            isFull = false;
            isLong = false;
            isStuck = false;
            looked = NONE;
            source = NONE;
            changedCount = 0;
            wokenCount = 0;
        }

        /** Whether there is nothing to go on with. */
        boolean isIdle() {
            return !isFull && !isAnew && frontier.count() == 0 && !hasSkipped && source == NONE && changedCount == 0;
        }

        /** Whether there is something to go on with, and room. */
        boolean canGoOn() {
            return !isFull && !isIdle();
        }

        /** How often what was chosen was forgotten, as it did not go with what was found later. */
        int revoked() {
            return revoked;
        }

        /** Lets it be tried again whether there is room. */
        void retry() {
            isFull = false;
            isStuck = false;
        }

        int settled() {
            return settled;
        }

        /** How often what was chosen may be forgotten as it leaves no body for one; if not, that one is settled. */
        void setPatience(int patience) {
            this.patience = patience;
        }

        int woken() {
            return wokenCount;
        }

        int wokenAt(int at) {
            return woken[at];
        }

        void clearWoken() {
            wokenCount = 0;
        }

        /** Puts an instance whose body is asked for. */
        void put(int id) {
            if (bodies.is(id, Bodies.MEMBER) || !bodies.isOpen(id)) return;
            bodies.mark(id, Bodies.MEMBER);
            if (!frontier.puts(id)) hasSkipped = true;
        }

        /** Puts all goals, and forgets who was found to depend on whom. */
        void putAnew() {
            startAnew();
            isAnew = false;
            for (int id = Types.POINTER; id < types.count; id++) {
                if (bodies.is(id, Bodies.GOAL | Bodies.NUMBERED)) put(id);
            }
        }

        void putGoals() {
            for (int i = 0; i < bodies.goals(); i++) {
                put(bodies.goal(i));
            }
        }

        /**
         * Puts the instances that have numbers, and their bases up to the first one that may have several bodies; tells
         * whether any of them was not there yet.
         */
        boolean putsNumbered() {
            boolean isNew = false;
            for (int i = 0; i < types.numbered(); i++) {
                int at = Types.isInstance(types.head(i)) ? types.id(i) : NONE;
                for (int step = 0; step <= Chains.STEPS && at != NONE; step++) {
                    boolean isInstance = Types.isInstance(types.headOf(at));
                    int set = isInstance ? bodies.setOf(at) : 0;
                    if (isInstance && bodies.isOpen(at) && !bodies.is(at, Bodies.MEMBER)) {
                        bodies.mark(at, Bodies.NUMBERED);
                        put(at);
                        isNew = true;
                    }
                    at = set != 0 && Bodies.isSingle(set) ? bodies.baseAt(at, Bodies.code(set)) : NONE;
                }
            }
            return isNew;
        }

        /** Leaves just the goals. */
        void dropNumbered() {
            bodies.unmarkAll(Bodies.NUMBERED);
            putAnew();
        }

        /**
         * If what was chosen does not go with those that come about by way of it, it is forgotten; tells whether it is to be
         * tried to choose otherwise.
         */
        boolean triesAnother(boolean isClash, boolean isInTime, boolean hasNewDislike) {
            boolean isAnother = isClash && isInTime && (hasNewDislike || bodies.taste() < MOST_TASTES);
            if (!isAnother) bodies.setTaste(0);
            else if (!hasNewDislike) bodies.setTaste(bodies.taste() + 1);
            if (isClash) forgetChosen();
            return isAnother;
        }

        /** What was chosen does not go with what was found: it is forgotten, and all begins anew. */
        boolean revokes() {
            boolean mayRevoke = revoked < MOST_REVOKED || bodies.taste() > 0 || bodies.hasDislikes();
            if (!bodies.hasChosen() || !mayRevoke) return false;
            forgetChosen();
            isAnew = true;
            return true;
        }

        void forgetChosen() {
            revoked++;
            bodies.forgetChosen();
        }

        // ---- going on

        /** Goes on, and looks so often at instances at most, but for those who depend on what was found. */
        void run(int limit) {
            int last = look.looks() + limit;
            int shorts = 0;
            for (int i = 0; i < MOST && !isFull; i++) {
                if (look.isBusy()) {
                    look.goOn();
                    continue;
                }
                boolean isShort = looked != NONE && types.isShort();
                if (looked != NONE && !isShort) {
                    int id = looked;
                    looked = NONE;
                    if (takes(id)) expand(id);
                    shorts = 0;
                    continue;
                }
                if (isShort) shorts++;
                boolean isStillLong = isLong && look.isDense();
                if (!makeRoom() || shorts > MOST_SHORTS || isStillLong) isFull = true;
                if (isLong) look.setDense(true);
                if (isAnew || isLong && !isFull) putAnew();
                if (looked < Types.POINTER) looked = next(last);
                if (looked == NONE) return;
                look.begin(looked, NONE, false);
            }
            if (isFull) looked = NONE;
        }

        /** The next one to look at, NONE if there is none. */
        private int next(int last) {
            for (int i = 0; i < MOST && (source != NONE || changedCount > 0); i++) {
                int id = nextDependent();
                if (id >= Types.POINTER && bodies.isOpen(id)) return id;
            }
            if (look.looks() >= last) return NONE;
            for (int i = 0; i < MOST && !(frontier.count() == 0 && !hasSkipped); i++) {
                if (frontier.count() == 0) putSkipped();
                int id = frontier.takes(taken++ / TURN % 2 == 0 ? Frontier.LAST : Frontier.FIRST);
                if (id >= Types.POINTER && !bodies.is(id, Bodies.EXPANDED) && bodies.isOpen(id)) return id;
            }
            return NONE;
        }

        /** The next one of those who depend on one that was changed; NONE if there is none for this one. */
        private int nextDependent() {
            if (source == NONE) {
                source = changed[--changedCount];
                bodies.unmark(source, Bodies.CHANGED);
                edge = bodies.firstEdge(source);
            }
            boolean isDecided = bodies.isDecided(source);
            int at = isDecided ? bodies.firstEdge(source) : edge;
            if (at == 0) {
                source = NONE;
                return NONE;
            }
            edge = bodies.nextEdge(at);
            if (isDecided) bodies.dropEdge(source);
            return bodies.target(at);
        }

        /** Puts those for which there was no room. */
        private void putSkipped() {
            hasSkipped = false;
            for (int id = Types.POINTER; id < types.count && !hasSkipped; id++) {
                boolean isLeft = bodies.is(id, Bodies.MEMBER) && !bodies.is(id, Bodies.EXPANDED);
                if (isLeft && bodies.isOpen(id) && !frontier.puts(id)) hasSkipped = true;
            }
        }

        /** Takes over what was found for an instance, and tells whether it is still open. */
        private boolean takes(int id) {
            int before = bodies.setOf(id);
            int set = before & look.set();
            if (set == 0) {
                if (patience > 0 && revokes()) {
                    patience--;
                    return false;
                }
                // No body goes with what is known: it is not sure.
                bodies.settle(id, 1 << Bodies.UNSURE);
                settled = id;
            } else if (set != before) {
                bodies.learn(id, look.set(), !chains.isChosen());
            }
            if (look.isStrict() || (look.set() & ~set) != 0) bodies.mark(id, Bodies.STRICT);
            else if (!chains.isChosen() || set == 0) bodies.unmark(id, Bodies.STRICT);
            boolean isOpen = set != 0 && bodies.isOpen(id);
            if (!isOpen) bodies.unmark(id, Bodies.MEMBER | Bodies.EXPANDED);
            if (set != before) change(id);
            return isOpen;
        }

        private void change(int id) {
            if (bodies.is(id, Bodies.WAITING) && wokenCount < MOST_WOKEN) woken[wokenCount++] = id;
            if (bodies.is(id, Bodies.CHANGED) || bodies.firstEdge(id) == 0) return;
            if (changedCount == changed.length) {
                if (changedCount == MOST_CHANGED) {
                    isFull = true;
                    return;
                }
                changed = Arrays.copyOf(changed, Math.min(MOST_CHANGED, changedCount << MORE));
            }
            bodies.mark(id, Bodies.CHANGED);
            changed[changedCount++] = id;
        }

        /** Puts those on which an instance depends. One that was put already depends on no others than before. */
        private void expand(int id) {
            boolean isNew = !bodies.is(id, Bodies.EXPANDED);
            bodies.mark(id, Bodies.MEMBER | Bodies.EXPANDED);
            int count = chains.opened();
            for (int i = 0; i < count; i++) {
                int other = chains.openAt(taken / TURN % 4 < 2 ? i : count - 1 - i);
                boolean isKnown = !isNew && bodies.is(other, Bodies.MEMBER);
                if (!isKnown && !bodies.links(id, other)) isLong = true;
                put(other);
            }
        }

        // ---- room

        /** Makes room for types, and tells whether there is enough to go on. */
        boolean makeRoom() {
            if (types.makeRoom()) return true;
            if (isStuck) return false;
            chains.clearOpen();
            shed(true);
            if (types.isCrowded()) shed(false);
            if (types.isCrowded() && !look.isDense()) {
                // Long lines take less room from now on.
                look.setDense(true);
                startAnew();
                isAnew = true;
                shed(false);
            }
            types.makeRoom();
            isStuck = types.isCrowded();
            return !isStuck;
        }

        /** Sheds types that are not needed; if need be, also those of whose bodies something was found or chosen. */
        private void shed(boolean isKnownKept) {
            long needed = Bodies.MEMBER | Bodies.WAITING | Bodies.CHANGED;
            long known = Bodies.FACT | Bodies.GOAL;
            types.shed(Types.NOTED | Types.PENDING, isKnownKept ? needed | known : needed, isKnownKept);
            bodies.moveIds();
            frontier.moveIds();
            walked.moveIds();
            looked = looked == NONE ? NONE : types.moved(looked);
            source = source == NONE ? NONE : types.moved(source);
            for (int i = 0; i < changedCount; i++) {
                changed[i] = types.moved(changed[i]);
            }
            for (int i = 0; i < wokenCount; i++) {
                woken[i] = types.moved(woken[i]);
            }
            types.remember(look.isDense());
        }
    }

    /**
     * What does not go together: a nogood tells of some instances that not all of them have one of some bodies. Besides, the
     * literals by which a clash is led back to guesses: each is an instance with the bodies to which it was narrowed.
     */
    private static final class Nogoods {
        private static final int MOST = 1 << 12;
        private static final int MOST_WORDS = 1 << 16;
        private static final int MOST_LITERALS = 1 << 17;
        private static final int FEW = 1 << 6;
        private static final int MORE = 5;
        private static final int SET_AT = 21;

        private final Types types;
        private final Bodies bodies;
        /** Who is among the literals; their bodies are noted with the types. */
        private int[] literals = new int[FEW];
        private int count;
        private boolean isOver;
        /** The level of the last of the literals, and how many are of that. */
        private int top;
        private int atTop;
        /** Where each nogood begins, the one behind them too; and their instances with their bodies. */
        private int[] starts = new int[FEW];
        private long[] words = new long[FEW];
        private int nogoods;

        Nogoods(Types types, Bodies bodies) {
            this.types = types;
            this.bodies = bodies;
        }

        // ---- literals

        /** Begins to gather literals, none of which is of a higher level. */
        void begin(int level) {
            top = level;
        }

        boolean isOver() {
            return isOver;
        }

        int atTop() {
            return atTop;
        }

        boolean isLiteral(int id) {
            return (types.nodes[id] & Types.LITERAL) != 0;
        }

        int setOf(int id) {
            return (int) (types.nodes[id] >> Types.LITERAL_AT) & Bodies.ALL;
        }

        /** Takes a literal, unless it holds whatever is guessed. */
        void add(int id, int set) {
            boolean isKnown = isLiteral(id);
            int now = isKnown ? set & setOf(id) : set;
            int place = bodies.placeOf(id, now);
            if (place < bodies.startOf(1)) return;
            if (isKnown && bodies.placeOf(id, setOf(id)) >= bodies.startOf(top)) atTop--;
            if (place >= bodies.startOf(top)) atTop++;
            if (!isKnown) enter(id);
            long others = types.nodes[id] & (1L << Types.LITERAL_AT) - 1;
            types.nodes[id] = others | Types.LITERAL | (long) now << Types.LITERAL_AT;
        }

        private void enter(int id) {
            if (count == literals.length) {
                if (count == MOST_LITERALS) {
                    isOver = true;
                    return;
                }
                literals = Arrays.copyOf(literals, Math.min(MOST_LITERALS, count << MORE));
            }
            literals[count++] = id;
        }

        /** Takes a literal away that is of the highest level. */
        void remove(int id) {
            types.nodes[id] &= (1L << Types.LITERAL_AT) - 1 & ~Types.LITERAL;
            atTop--;
        }

        /** Forgets all literals. */
        void clear() {
            for (int i = 0; i < count; i++) {
                types.nodes[literals[i]] &= (1L << Types.LITERAL_AT) - 1 & ~Types.LITERAL;
            }
            count = 0;
            atTop = 0;
            isOver = false;
        }

        /** The highest level of a literal but for one instance; 0 if there is none. */
        int highest(int but) {
            int highest = 0;
            for (int i = 0; i < count; i++) {
                int id = literals[i];
                if (id != but && isLiteral(id)) highest = Math.max(highest, bodies.levelOf(bodies.placeOf(id, setOf(id))));
            }
            return highest;
        }

        /** Begins anew to count those of the highest level. */
        void putTop(int level) {
            top = level;
            atTop = 0;
            int left = 0;
            for (int i = 0; i < count; i++) {
                int id = literals[i];
                if (!isLiteral(id)) continue;
                literals[left++] = id;
                if (bodies.placeOf(id, setOf(id)) >= bodies.startOf(top)) atTop++;
            }
            count = left;
        }

        // ---- nogoods

        int nogoods() {
            return nogoods;
        }

        /** Keeps the literals as a nogood, and tells its number; NONE if there is no room. */
        int kept() {
            int from = starts[nogoods];
            if (nogoods + 2 > starts.length) starts = Arrays.copyOf(starts, Math.min(MOST, starts.length << MORE));
            if (nogoods + 2 > starts.length || from + count > MOST_WORDS) return NONE;
            while (from + count > words.length) {
                words = Arrays.copyOf(words, Math.min(MOST_WORDS, words.length << MORE));
            }
            if (!bodies.hasEdges(count)) return NONE;
            int at = from;
            for (int i = 0; i < count; i++) {
                int id = literals[i];
                if (!isLiteral(id)) continue;
                bodies.linkNogood(nogoods, id);
                words[at++] = id | (long) setOf(id) << SET_AT;
                // One that was taken twice is kept once.
                types.nodes[id] &= ~Types.LITERAL;
            }
            starts[++nogoods] = at;
            return nogoods - 1;
        }

        int start(int nogood) {
            return starts[nogood];
        }

        int idAt(int at) {
            return (int) words[at] & Types.ID;
        }

        int setAt(int at) {
            return (int) (words[at] >> SET_AT) & Bodies.ALL;
        }

        /** Forgets all nogoods. */
        void forget() {
            for (int i = starts[nogoods] - 1; i >= 0; i--) {
                bodies.unlinkNogood(idAt(i));
            }
            nogoods = 0;
        }
    }

    /**
     * Finds bodies that go together, where instances ask for one another: it guesses a body where it comes back to one on
     * its way, finds what follows, and looks at last whether each body follows from the others. What clashes is led back to
     * guesses that do not go together, and the last of these is taken back.
     */
    private static final class Search {
        /** What is found: nothing within the limits; that there is no way; a way. */
        static final int UNKNOWN = 0;
        static final int NO_WAY = 1;
        static final int FOUND = 2;
        /** For whom bodies are looked for: for all who are open; for the goals; for these, if need be with guesses for good. */
        static final int FOR_ALL = 0;
        static final int FOR_GOALS = 1;
        static final int AT_LEAST = 2;

        /** What is done next. */
        private static final int SPREAD = 0;
        private static final int VISITED = 1;
        private static final int AIM = 2;
        private static final int DESCENDED = 3;
        private static final int JUDGED = 4;
        private static final int CLASHED = 5;
        private static final int LEAD_BACK = 6;
        private static final int LED_BACK = 7;
        private static final int BLOCKED = 8;
        private static final int DONE = 9;

        /** Why one was narrowed: a guess, what follows from others, what alone follows from others, or a nogood. */
        private static final int GUESS = 0;
        private static final int FOLLOWS = 1;
        private static final int FOLLOWS_ALONE = 2;
        private static final int NOGOOD = 3;

        private static final int MOST = 1 << 28;
        private static final int MOST_PATH = 400_000;
        /** For how many goals bodies are found at once; there may be more. */
        static final int MOST_GOALS = 1 << 12;
        private static final int MOST_RESTARTS = 1 << 8;
        private static final int FEW = 1 << 6;
        private static final int MORE = 5;

        private final Types types;
        private final Bodies bodies;
        private final Chains chains;
        private final Look look;
        private final Nogoods nogoods;
        private int phase;
        private int found;
        private int mode;
        /** The one that is looked at; how far changes were spread, and along which edge. */
        private int one;
        private int spread;
        private int edge;
        /** Those from whom it goes on, the last one first. */
        private int[] path = new int[FEW];
        private int height;
        /** The only one for whom it is to find a body, if there is one; how far it came with all, and with judging. */
        private int only;
        private int aimed;
        private int judged;
        private int judgedStrict;
        /** The place of the trail that is led back, and the bodies to which the one was narrowed there. */
        private int place;
        private int literal;
        private int restarts;
        /** Whether something was left out, so that it is not known that there is no way. */
        private boolean isCut;
        private int clashed = NONE;
        /** How many of the path are there first, as they have bodies that are tried last. */
        private int bottom;

        Search(Types types, Bodies bodies, Chains chains, Look look) {
            this.types = types;
            this.bodies = bodies;
            this.chains = chains;
            this.look = look;
            nogoods = new Nogoods(types, bodies);
        }

        /**
         * Finds bodies for one, or for all that a mode tells, and keeps them if it does; what follows whatever is guessed
         * perhaps for good.
         */
        int run(int mode, int only, int limit, boolean isForGood) {
            int last = look.looks() + limit;
            boolean isSure = isForGood && !bodies.hasChosen() && mode != AT_LEAST;
            begin(mode, only);
            for (int i = 0; i < MOST && phase != DONE; i++) {
                if (look.isBusy()) {
                    look.goOn();
                    continue;
                }
                boolean isOut = look.looks() > last || types.isShort() || !bodies.hasRoom() || nogoods.isOver();
                if (isOut) end(UNKNOWN);
                switch (phase) {
                    case SPREAD: spreadOn(); break;
                    case VISITED: visited(); break;
                    case AIM: aim(); break;
                    case DESCENDED: descended(); break;
                    case JUDGED: judge(); break;
                    case CLASHED: startBack(Bodies.ALL & ~look.set()); break;
                    case BLOCKED: startBack(bodies.setOf(one)); break;
                    case LEAD_BACK: leadBack(); break;
                    case LED_BACK: ledBack(); break;
                    default:
                }
            }
            finish(isSure && !isCut);
            return found;
        }

        private void begin(int mode, int only) {
            this.mode = mode;
            phase = SPREAD;
            spread = 0;
            edge = 0;
            height = 0;
            this.only = only;
            aimed = mode == FOR_ALL ? Types.POINTER : 0;
            judged = 0;
            judgedStrict = mode == FOR_ALL ? Types.POINTER : types.count;
            restarts = 0;
            isCut = false;
            clashed = NONE;
            if (mode == FOR_ALL && bodies.hasDislikes()) enterDisliked();
            bottom = height;
        }

        /** Those with bodies that are tried last are sought first, and guessed first. */
        private void enterDisliked() {
            for (int id = Types.POINTER; id < types.count && height < FEW; id++) {
                if (!bodies.is(id, Bodies.EXPANDED) || bodies.isDecided(id) || bodies.disliked(id) == 0) continue;
                bodies.mark(id, Bodies.ON_PATH);
                path[height++] = id;
            }
        }

        /** The next one that must have a body, NONE if there is none. */
        private int nextAim() {
            if (only != NONE) return bodies.isDecided(only) ? NONE : only;
            if (mode != FOR_ALL) {
                int goals = Math.min(bodies.goals(), MOST_GOALS);
                while (aimed < goals && bodies.isDecided(bodies.goal(aimed))) {
                    aimed++;
                }
                return aimed < goals ? bodies.goal(aimed) : NONE;
            }
            while (aimed < types.count && (!bodies.is(aimed, Bodies.EXPANDED) || bodies.isDecided(aimed))) {
                aimed++;
            }
            return aimed < types.count ? aimed : NONE;
        }

        /** The next one to judge of those who rule something out; NONE if there is none. */
        private int nextStrict() {
            while (judgedStrict < types.count && !bodies.areBoth(judgedStrict, Bodies.STRICT | Bodies.EXPANDED)) {
                judgedStrict++;
            }
            return judgedStrict < types.count ? judgedStrict : NONE;
        }

        private void end(int what) {
            found = what;
            phase = DONE;
        }

        private void finish(boolean isSure) {
            while (height > 0) {
                bodies.unmark(path[--height], Bodies.ON_PATH);
            }
            nogoods.clear();
            nogoods.forget();
            if (found == FOUND) {
                bodies.keepTrail(isSure);
                return;
            }
            bodies.undoLevels(0);
            bodies.undo(0);
        }

        // ---- what follows

        private void lookAt(int id, int next) {
            one = id;
            phase = next;
            look.begin(id, NONE, false);
        }

        private void narrow(int id, int set, int reason) {
            bodies.narrow(id, set, reason);
            phase = SPREAD;
        }

        /** Spreads what was narrowed to the next one of those who depend on it. */
        private void spreadOn() {
            if (edge == 0) {
                if (spread == bodies.trailed()) phase = AIM;
                else edge = bodies.firstEdge(bodies.idAt(spread++));
                return;
            }
            int target = bodies.target(edge);
            boolean isNogood = bodies.isNogood(edge);
            edge = bodies.nextEdge(edge);
            if (isNogood) check(target);
            else if (target >= Types.POINTER && !isFixed(target)) lookAt(target, VISITED);
        }

        /** Whether the only body of an instance follows from what is narrowed already. */
        private boolean isFixed(int id) {
            int place = bodies.place(id);
            return place == NONE ? !bodies.isOpen(id) : bodies.reason(place) == FOLLOWS_ALONE;
        }

        /** Sees to it that not all of a nogood holds. */
        private void check(int nogood) {
            int open = NONE;
            for (int i = nogoods.start(nogood); i < nogoods.start(nogood + 1); i++) {
                boolean holds = (bodies.setOf(nogoods.idAt(i)) & ~nogoods.setAt(i)) == 0;
                if (!holds && open != NONE) return;
                if (!holds) open = i;
            }
            if (open != NONE) {
                int id = nogoods.idAt(open);
                int set = bodies.setOf(id) & ~nogoods.setAt(open);
                if (set != bodies.setOf(id)) narrow(id, set, NOGOOD + nogood);
                return;
            }
            clashed = height > bottom ? path[bottom] : nogoods.idAt(nogoods.start(nogood));
            nogoods.begin(bodies.level());
            for (int i = nogoods.start(nogood); i < nogoods.start(nogood + 1); i++) {
                nogoods.add(nogoods.idAt(i), nogoods.setAt(i));
            }
            place = bodies.trailed();
            phase = LEAD_BACK;
        }

        /** Takes over what follows for the one that was looked at; tells whether something did. */
        private boolean follows() {
            int now = bodies.setOf(one);
            int set = now & look.set();
            if (set == 0) clash(CLASHED);
            else if (set != now) narrow(one, set, isAlone() ? FOLLOWS_ALONE : FOLLOWS);
            return set != now;
        }

        /** Whether the one that was looked at has just one body, whatever the others have that are open. */
        private boolean isAlone() {
            return Bodies.isSingle(look.set()) && !look.isStrict();
        }

        private void visited() {
            if (!follows()) phase = SPREAD;
        }

        // ---- on whom it depends

        /** Aims at the next one to look at: the last one of the path, or one that must have a body, or one to judge. */
        private void aim() {
            while (height > 0 && bodies.isDecided(path[height - 1])) {
                bodies.unmark(path[--height], Bodies.ON_PATH);
            }
            bottom = Math.min(bottom, height);
            if (height > 0) {
                lookAt(path[height - 1], DESCENDED);
                return;
            }
            int aim = nextAim();
            boolean isLast = aim == NONE && judged == bodies.trailed();
            int strict = isLast ? nextStrict() : NONE;
            if (aim != NONE) enter(aim);
            else if (!isLast && isJudged(judged)) judged++;
            else if (!isLast) lookAt(bodies.idAt(judged), JUDGED);
            else if (strict != NONE) lookAt(strict, JUDGED);
            else end(FOUND);
        }

        private void enter(int id) {
            if (height == MOST_PATH) {
                end(UNKNOWN);
                return;
            }
            if (height == path.length) path = Arrays.copyOf(path, Math.min(MOST_PATH, height << MORE));
            bodies.mark(id, Bodies.ON_PATH);
            path[height++] = id;
            phase = AIM;
        }

        private void descended() {
            if (follows()) return;
            int next = nextOpen();
            boolean isFar = mode == AT_LEAST && height > 1 && !bodies.is(one, Bodies.EXPANDED);
            int back = next == NONE ? openOnPath() : NONE;
            if (next != NONE && !isFar) enter(next);
            else if (back != NONE) guess(back);
            else if (mode == AT_LEAST) guess(one);
            else block();
        }

        /** The next one on which the one depends that was looked at. */
        private int nextOpen() {
            for (int i = 0; i < chains.opened(); i++) {
                int id = chains.openAt(i);
                boolean isKnown = mode == AT_LEAST || bodies.is(id, Bodies.EXPANDED);
                if (isKnown && !bodies.is(id, Bodies.ON_PATH)) return id;
            }
            return NONE;
        }

        /** One to which it came back; NONE if there is none. */
        private int openOnPath() {
            for (int i = 0; i < chains.opened(); i++) {
                if (bodies.is(chains.openAt(i), Bodies.ON_PATH)) return chains.openAt(i);
            }
            return NONE;
        }

        private void guess(int id) {
            int which = id;
            for (int i = 0; i < height && i < FEW && bodies.hasDislikes(); i++) {
                if (!bodies.isDecided(path[i]) && bodies.disliked(path[i]) != 0) which = path[i];
            }
            int set = bodies.setOf(which);
            int liked = set & ~bodies.disliked(which);
            bodies.startLevel();
            narrow(which, bodies.preferred(which, liked == 0 ? set : liked), GUESS);
        }

        /** Whether one needs not be judged: it follows, or is judged elsewhere, or it may have any body. */
        private boolean isJudged(int place) {
            int id = bodies.idAt(place);
            if (bodies.place(id) != place || bodies.reason(place) == FOLLOWS_ALONE || !bodies.isDecided(id)) return true;
            return mode == AT_LEAST && !bodies.is(id, Bodies.EXPANDED);
        }

        /** Judges whether the body of one follows from the others. */
        private void judge() {
            if ((bodies.setOf(one) & look.set()) == 0) {
                clash(CLASHED);
                return;
            }
            int next = isAlone() ? NONE : nextOpen();
            if (next != NONE) {
                enter(next);
            } else if (Bodies.isSingle(look.set())) {
                if (judged < bodies.trailed()) judged++;
                else judgedStrict++;
                phase = AIM;
            } else {
                block();
            }
        }

        // ---- clashes

        /** Nothing more can be found for one, as that is not known on which it depends: so its guesses are taken back. */
        private void block() {
            isCut = true;
            clash(BLOCKED);
        }

        /** Looks once more at the one that clashes, to hear why. */
        private void clash(int next) {
            phase = next;
            nogoods.begin(bodies.level());
            look.begin(one, bodies.trailed(), next == BLOCKED);
        }

        /** Takes what is heard as literals. */
        private void hear(int time) {
            for (int i = 0; i < chains.heard(); i++) {
                nogoods.add(chains.heardAt(i), bodies.setBefore(chains.heardAt(i), time));
            }
        }

        /** The one that was sought when something clashed last, NONE if nothing did. */
        int clashed() {
            return clashed;
        }

        private void startBack(int set) {
            clashed = height > bottom ? path[bottom] : one;
            if (chains.isPartial() || (bodies.setOf(one) & ~set) != 0) {
                end(UNKNOWN);
                return;
            }
            hear(bodies.trailed());
            nogoods.add(one, set);
            place = bodies.trailed();
            phase = LEAD_BACK;
        }

        /** Leads the last literal back to those from which it follows, until just one of the last level is left. */
        private void leadBack() {
            if (nogoods.atTop() == 0) {
                int highest = nogoods.highest(NONE);
                if (highest == 0) {
                    end(isCut ? UNKNOWN : NO_WAY);
                    return;
                }
                bodies.undoLevels(highest);
                nogoods.putTop(highest);
                place = bodies.trailed();
            }
            place--;
            while (place >= 0 && !isNeeded(place)) {
                place--;
            }
            if (place < 0) {
                end(UNKNOWN);
                return;
            }
            int id = bodies.idAt(place);
            literal = nogoods.setOf(id);
            int reason = bodies.reason(place);
            if (nogoods.atTop() == 1) {
                learn(id);
            } else if (reason == GUESS) {
                end(UNKNOWN);
            } else {
                nogoods.remove(id);
                if (reason >= NOGOOD) {
                    leadByNogood(id, reason - NOGOOD);
                } else {
                    one = id;
                    phase = LED_BACK;
                    look.begin(id, place, false);
                }
            }
        }

        /** Whether a literal holds from a place of the trail on. */
        private boolean isNeeded(int place) {
            int id = bodies.idAt(place);
            return nogoods.isLiteral(id) && (bodies.oldSet(place) & ~nogoods.setOf(id)) != 0;
        }

        private void leadByNogood(int id, int nogood) {
            for (int i = nogoods.start(nogood); i < nogoods.start(nogood + 1); i++) {
                int set = nogoods.setAt(i);
                nogoods.add(nogoods.idAt(i), nogoods.idAt(i) == id ? set | literal : set);
            }
        }

        private void ledBack() {
            int others = literal | Bodies.ALL & ~look.set();
            if (chains.isPartial() || (bodies.oldSet(place) & ~others) != 0) {
                end(UNKNOWN);
                return;
            }
            hear(place);
            nogoods.add(one, others);
            phase = LEAD_BACK;
        }

        /** Keeps what does not go together, goes back, and rules out that one of it. */
        private void learn(int id) {
            int back = nogoods.highest(id);
            bodies.undoLevels(back);
            int set = bodies.setOf(id) & ~literal;
            int nogood = back == 0 ? 0 : nogoods.kept();
            nogoods.clear();
            if (nogood == NONE) {
                // There is no room: all guesses begin anew.
                bodies.undoLevels(0);
                nogoods.forget();
                if (++restarts > MOST_RESTARTS) end(UNKNOWN);
                else phase = AIM;
            }
            goBack();
            if (set == 0) end(UNKNOWN);
            else if (nogood != NONE) narrow(id, set, back == 0 ? GUESS : NOGOOD + nogood);
        }

        /** Goes on from what is left when something was undone. */
        private void goBack() {
            edge = 0;
            spread = bodies.trailed();
            judged = Math.min(judged, spread);
            aimed = mode == FOR_ALL ? Math.min(aimed, bodies.lowestUndone()) : 0;
            judgedStrict = mode == FOR_ALL ? Types.POINTER : types.count;
        }
    }

    /**
     * The namespaces with their functions, and the arguments of a call: how they come to the parameters of a function, the
     * candidates, and which one is chosen.
     */
    private static final class Functions {
        static final int NAMESPACES = 6;
        static final int FUNCTIONS = 24;
        static final int EACH = 3;
        private static final int RANK = 1000;
        private static final int TO_TRUTH = 99;
        private static final int NO_VIABLE = -1;
        private static final int NO_BEST = -2;
        private static final int DELETED = -3;
        private static final int NOT_SURE = -4;

        private final Types types;
        private final Hierarchy hierarchy;
        private final Templates templates;
        private final Bodies bodies;
        private final Chains chains;
        private int namespaces = 1;
        private final int[] outers = new int[NAMESPACES];
        private int count;
        private final int[] places = new int[FUNCTIONS];
        private final int[] names = new int[FUNCTIONS];
        private final boolean[] areDeleted = new boolean[FUNCTIONS];
        private final int[] counts = new int[FUNCTIONS];
        private final char[] modes = new char[FUNCTIONS * EACH];
        private final int[] told = new int[FUNCTIONS * EACH];
        private int argumentCount;
        private final int[] arguments = new int[EACH];
        private final char[] categories = new char[EACH];
        /** The types of the parameters of the function that was looked at last. */
        private final int[] taken = new int[EACH];
        private final int[] line = new int[Chains.STEPS];
        private final int[] ways = new int[FUNCTIONS * EACH];
        private final boolean[] areSure = new boolean[FUNCTIONS * EACH];
        private final boolean[] areCandidates = new boolean[FUNCTIONS];
        private final boolean[] areViable = new boolean[FUNCTIONS];

        Functions(Types types, Hierarchy hierarchy, Templates templates, Bodies bodies, Chains chains) {
            this.types = types;
            this.hierarchy = hierarchy;
            this.templates = templates;
            this.bodies = bodies;
            this.chains = chains;
            outers[0] = NONE;
        }

        static int constraintSet(int function) {
            return Templates.TEMPLATES * Templates.EACH + function;
        }

        int namespaces() {
            return namespaces;
        }

        /** The namespace in which one is, NONE for the first one. */
        int outer(int namespace) {
            return outers[namespace];
        }

        int putNamespace(int outer) {
            outers[namespaces] = outer;
            return namespaces++;
        }

        int count() {
            return count;
        }

        int put(int namespace, int name, boolean isDeleted) {
            places[count] = namespace;
            names[count] = name;
            areDeleted[count] = isDeleted;
            return count++;
        }

        int putParameter(int function, char mode, int type) {
            int place = function * EACH + counts[function];
            modes[place] = mode;
            told[place] = type;
            return ++counts[function];
        }

        boolean isNamed(int function, int namespace, int name) {
            return places[function] == namespace && names[function] == name;
        }

        boolean isDeleted(int function) {
            return areDeleted[function];
        }

        int parameters(int function) {
            return counts[function];
        }

        char mode(int function, int at) {
            return modes[function * EACH + at];
        }

        int told(int function, int at) {
            return told[function * EACH + at];
        }

        boolean isOfTemplate(int function) {
            for (int i = 0; i < counts[function]; i++) {
                if (types.isOpen(told(function, i))) return true;
            }
            return false;
        }

        // ---- arguments

        int arguments() {
            return argumentCount;
        }

        /** The number of the type of an argument. */
        int argument(int at) {
            return arguments[at];
        }

        int putArgument(int type, char category) {
            arguments[argumentCount] = type;
            categories[argumentCount] = category;
            return ++argumentCount;
        }

        int dropArguments() {
            int before = argumentCount;
            argumentCount = 0;
            return before;
        }

        // ---- candidates

        /** Takes as the candidates those of the innermost namespace that has some. */
        void beginCandidates(int namespace, int name) {
            for (int i = 0; i < FUNCTIONS; i++) {
                areCandidates[i] = false;
            }
            int at = namespace;
            for (int i = 0; i < NAMESPACES && at != NONE; i++) {
                at = takesFrom(at, name) ? NONE : outer(at);
            }
        }

        /** Takes those of a namespace, too, and tells whether there are some. */
        boolean takesFrom(int namespace, int name) {
            boolean hasSome = false;
            for (int i = 0; i < count; i++) {
                if (isNamed(i, namespace, name)) {
                    areCandidates[i] = true;
                    hasSome = true;
                }
            }
            return hasSome;
        }

        /** The classes by way of whose namespace a candidate may be found that is missing, as bits. */
        int wantedClasses(int name) {
            int wanted = 0;
            for (int i = 0; i < count; i++) {
                for (int cls = 0; cls < hierarchy.count() && !areCandidates[i]; cls++) {
                    if (isNamed(i, hierarchy.namespace(cls), name)) wanted |= 1 << cls;
                }
            }
            return wanted;
        }

        int candidateCount() {
            int sum = 0;
            for (int i = 0; i < count; i++) {
                if (areCandidates[i]) sum++;
            }
            return sum;
        }

        // ---- what is asked, for what is supposed of bodies

        /** What is asked of one function, or of all that there are, or of all candidates. */
        long outcome(int kind, int function, int other) {
            if (kind == SHARE) return viableCount();
            if (kind >= BEST) return answerFor(kind == BEST ? bestByWalks() : bestByPairs());
            if (kind == VIABLE) return areViable[function] ? 1 : 0;
            if (!areViable[function]) return NOT_VIABLE;
            if (kind == COMING) {
                int way = ways[function * EACH + other];
                return areSure[function * EACH + other] ? way : -1 - way;
            }
            int deduced = types.bound[Types.DEDUCED * PARAMETERS + other];
            return deduced == NONE ? NOTHING : deduced;
        }

        private int viableCount() {
            int sum = 0;
            for (int i = 0; i < count; i++) {
                if (areViable[i]) sum++;
            }
            return sum;
        }

        /** Finds how the arguments come to the parameters of a function, if this is asked, and whether it is viable. */
        void settle(int kind, int asked, int function) {
            areViable[function] = false;
            boolean isAsked = kind == SHARE || (kind >= BEST ? areCandidates[function] : asked == function);
            if (!isAsked || parameters(function) != argumentCount) return;
            types.empty(Types.DEDUCED);
            for (int i = 0; i < argumentCount; i++) {
                int told = told(function, i);
                taken[i] = types.isOpen(told) ? matched(told, types.id(arguments[i])) : types.id(told);
                if (taken[i] == NONE) return;
            }
            if (!chains.areMet(Types.DEDUCED, constraintSet(function))) return;
            for (int i = 0; i < argumentCount; i++) {
                int way = directWay(function, i);
                int conversions = 0;
                boolean isMadeFor = way == NONE && mode(function, i) != 'r';
                int type = types.id(arguments[i]);
                if (isMadeFor) way = valueWay(type, taken[i]);
                for (int j = 0; j < 2 * Hierarchy.TOLD && isMadeFor && way == NONE; j++) {
                    int told = conversion(type, taken[i], j);
                    int from = j < Hierarchy.TOLD ? type : told;
                    int to = j < Hierarchy.TOLD ? told : taken[i];
                    if (told != NONE && (from == to || valueWay(from, to) != NONE)) conversions++;
                }
                if (conversions > 0) way = 3 * RANK;
                if (way == NONE) return;
                ways[function * EACH + i] = way;
                areSure[function * EACH + i] = conversions < 2;
            }
            areViable[function] = true;
        }

        /** The type that is told for a conversion, those from which a class can be made first; or NONE. */
        private int conversion(int from, int to, int at) {
            boolean isFrom = at < Hierarchy.TOLD;
            int head = types.headOf(isFrom ? to : from);
            int place = isFrom ? at : at - Hierarchy.TOLD;
            if (!Types.isClass(head) || place >= hierarchy.conversions(head - Types.CLASS, isFrom)) return NONE;
            return types.id(hierarchy.conversionAt(head - Types.CLASS, isFrom, place));
        }

        /** The type that a pattern takes: that of the argument, or the only one of its bases that matches. */
        private int matched(int pattern, int type) {
            if (triesPattern(pattern, type)) {
                types.copyFrame(Types.TRIED, Types.DEDUCED);
                return type;
            }
            if (!Types.isInstance(types.head(pattern))) return NONE;
            int only = NONE;
            int base = type;
            for (int step = 0; step < Chains.STEPS && Types.isInstance(types.headOf(base)); step++) {
                base = bodies.baseAt(base, chains.supposedBody(base));
                if (base == NONE || isInLine(base, step)) break;
                line[step] = base;
                if (triesPattern(pattern, base)) {
                    if (only != NONE) return NONE;
                    only = base;
                }
            }
            if (only == NONE) return NONE;
            triesPattern(pattern, only);
            types.copyFrame(Types.TRIED, Types.DEDUCED);
            return only;
        }

        private boolean isInLine(int base, int length) {
            for (int i = 0; i < length; i++) {
                if (line[i] == base) return true;
            }
            return false;
        }

        private boolean triesPattern(int pattern, int type) {
            types.copyFrame(Types.DEDUCED, Types.TRIED);
            return types.matches(Types.TRIED, pattern, NONE, type, NONE);
        }

        /** How an argument comes without a value that is made for it. */
        private int directWay(int function, int at) {
            char category = categories[at];
            char mode = mode(function, at);
            boolean isGoing = category == 'r';
            if (mode == 'r' && category != 'l') return NONE;
            boolean isAlone = Types.isParameter(types.head(told(function, at)));
            if (mode == 'm' && !isGoing && !isAlone) return NONE;
            int steps = stepsTo(types.id(arguments[at]), taken[at]);
            if (steps < 0) return NONE;
            boolean isWorse = mode == 'm' ? !isGoing : mode != 'r' && category != 'k';
            return (steps == 0 ? 0 : 2 * RANK + 2 * steps) + (isWorse ? 1 : 0);
        }

        /** The steps from a type to a base; something is supposed only if it matters. */
        private int stepsTo(int type, int base) {
            int steps = chains.stepsByAll(type, base);
            return steps == Chains.OPEN_STEPS ? chains.stepsSupposed(type, base) : steps;
        }

        /** How a type comes to another one by a value that is made, but for the conversions of classes. */
        private int valueWay(int from, int to) {
            int head = types.headOf(from);
            int target = types.headOf(to);
            if (Types.isBasic(head)) {
                if (!Types.isBasic(target) || head == target) return NONE;
                boolean isGrowing = head == Types.TRUTH || head == Types.LETTER;
                return isGrowing && target == Types.WHOLE ? RANK : 2 * RANK;
            }
            if (head != Types.POINTER) return NONE;
            if (target == Types.TRUTH) return 2 * RANK + TO_TRUTH;
            if (target != Types.POINTER) return NONE;
            int steps = stepsTo(types.first(from), types.first(to));
            return steps > 0 ? 2 * RANK + 2 * steps : NONE;
        }

        // ---- choosing

        /** The best one by a walk for it and a walk against it. */
        private int bestByWalks() {
            int best = NO_VIABLE;
            for (int i = 0; i < count; i++) {
                if (areViable[i] && (best == NO_VIABLE || isBetter(i, best))) best = i;
            }
            for (int i = 0; i < count && best >= 0; i++) {
                if (areViable[i] && i != best && !isBetter(best, i)) best = NO_BEST;
            }
            return best;
        }

        /** The best one by comparing each two. */
        private int bestByPairs() {
            int answer = NO_VIABLE;
            for (int own = 0; own < count; own++) {
                if (!areViable[own]) continue;
                boolean isBest = true;
                for (int other = 0; other < count; other++) {
                    if (areViable[other] && other != own && !isBetter(own, other)) isBest = false;
                }
                if (isBest) return own;
                answer = NO_BEST;
            }
            return answer;
        }

        private int answerFor(int best) {
            if (best < 0) return best;
            if (isDeleted(best)) return DELETED;
            for (int i = 0; i < argumentCount; i++) {
                if (!areSure[best * EACH + i]) return NOT_SURE;
            }
            return best;
        }

        private boolean isBetter(int own, int other) {
            boolean isAlike = true;
            for (int i = 0; i < argumentCount; i++) {
                int difference = ways[own * EACH + i] - ways[other * EACH + i];
                if (difference > 0) return false;
                if (difference < 0) isAlike = false;
            }
            if (!isAlike) return true;
            boolean isOwnTemplate = isOfTemplate(own);
            boolean isOtherTemplate = isOfTemplate(other);
            if (!isOwnTemplate || !isOtherTemplate) return !isOwnTemplate && isOtherTemplate;
            return templates.isMoreSpecial(told, own * EACH, other * EACH,
                    argumentCount, constraintSet(own), constraintSet(other));
        }
    }

    /**
     * What is to be gone through yet. The first one can be taken from all that was put here, the last one, or one of the
     * smallest: each is in the row of all, and in the row of its size.
     */
    private static final class Frontier {
        /** Which one is taken. */
        static final int ORDERS = 3;
        static final int FIRST = 0;
        static final int LAST = 1;
        static final int SMALLEST = 2;

        /** An entry: for each of both rows a word, which tells its id and size, and the entries ahead of it and behind it. */
        private static final int ENTRY = 2;
        private static final int SIZE_AT = 21;
        private static final int AHEAD_AT = 26;
        private static final int BEHIND_AT = 44;
        private static final long LINK = (1 << 18) - 1;
        private static final int MOST = 1 << 16;
        private static final int FEW = 1 << 5;
        private static final int MORE = 4;

        private final Types types;
        /** The place 0 is no entry. */
        private long[] entries = new long[FEW * ENTRY];
        private int used = 1;
        private int free;
        private int count;
        /** The first and the last entry of each row; that of all comes first, and then those of the sizes. */
        private final int[] firsts = new int[Types.LARGEST + 1];
        private final int[] lasts = new int[Types.LARGEST + 1];
        private int sizes;

        Frontier(Types types) {
            this.types = types;
        }

        int count() {
            return count;
        }

        void clear() {
            used = 1;
            free = 0;
            count = 0;
            sizes = 0;
            Arrays.fill(firsts, 0);
            Arrays.fill(lasts, 0);
        }

        /** Puts a type as the last one; false if there is no room. */
        boolean puts(int id) {
            int at = free;
            if (at != 0) {
                free = (int) (entries[at * ENTRY] >> BEHIND_AT & LINK);
            } else if (used < MOST) {
                at = used++;
                if (used * ENTRY > entries.length) {
                    entries = Arrays.copyOf(entries, Math.min(MOST * ENTRY, entries.length << MORE));
                }
            } else {
                return false;
            }
            int size = types.sizeOf(id);
            entries[at * ENTRY] = id | (long) size << SIZE_AT;
            entries[at * ENTRY + 1] = entries[at * ENTRY];
            append(at, 0, 0);
            append(at, 1, size);
            sizes |= 1 << size;
            count++;
            return true;
        }

        private void append(int at, int word, int row) {
            int last = lasts[row];
            lasts[row] = at;
            entries[at * ENTRY + word] |= (long) last << AHEAD_AT;
            if (last == 0) firsts[row] = at;
            else entries[last * ENTRY + word] |= (long) at << BEHIND_AT;
        }

        private void remove(int at, int word, int row) {
            long entry = entries[at * ENTRY + word];
            int ahead = (int) (entry >> AHEAD_AT & LINK);
            int behind = (int) (entry >> BEHIND_AT & LINK);
            if (ahead == 0) firsts[row] = behind;
            else entries[ahead * ENTRY + word] = entries[ahead * ENTRY + word] & ~(LINK << BEHIND_AT) | (long) behind << BEHIND_AT;
            if (behind == 0) lasts[row] = ahead;
            else entries[behind * ENTRY + word] = entries[behind * ENTRY + word] & ~(LINK << AHEAD_AT) | (long) ahead << AHEAD_AT;
        }

        /** Takes one; NONE if there is none. */
        int takes(int order) {
            if (count == 0) return NONE;
            int smallest = Integer.numberOfTrailingZeros(sizes);
            int at = order == FIRST ? firsts[0] : order == LAST ? lasts[0] : firsts[smallest];
            int id = (int) entries[at * ENTRY] & Types.ID;
            int size = (int) (entries[at * ENTRY] >> SIZE_AT) & Types.TOKEN;
            remove(at, 0, 0);
            remove(at, 1, size);
            if (firsts[size] == 0) sizes &= ~(1 << size);
            entries[at * ENTRY] = (long) free << BEHIND_AT;
            free = at;
            count--;
            return id;
        }

        /** Takes over the new ids of types. */
        void moveIds() {
            int at = firsts[0];
            for (int i = 0; i < count; i++) {
                long id = types.moved((int) entries[at * ENTRY] & Types.ID);
                entries[at * ENTRY] = entries[at * ENTRY] & ~(long) Types.ID | id;
                entries[at * ENTRY + 1] = entries[at * ENTRY + 1] & ~(long) Types.ID | id;
                at = (int) (entries[at * ENTRY] >> BEHIND_AT & LINK);
            }
        }
    }

    /**
     * Looks up the namespaces of the classes that are met by way of the arguments: in them, and in the bases of the
     * instances in them, and so on. Each type is gone through once. It goes on now with those that were met first, now with
     * those that were met last, and now with the smallest ones, as long as there is room to note all; then with each of
     * these alone.
     */
    private static final class Walk {
        private static final int TURN = 16;
        /** With so few that are pending it is worth while to forget which ones were met, if there is no room to note more. */
        private static final int FEW_PENDING = 1 << 10;
        private static final int MOST_STEPS = 1 << 24;
        private static final int MOST_STEPS_ALONE = 1 << 22;
        private static final int MIXED = Frontier.ORDERS;
        private static final int MOST_MET = 1 << 15;
        private static final int MOST_LEFT = 1 << 16;
        private static final int FEW = 1 << 6;
        private static final int MORE = 4;

        private final Types types;
        private final Hierarchy hierarchy;
        private final Templates templates;
        private final Bodies bodies;
        private final Explorer explorer;
        private final Frontier frontier;
        private final int[] stack = new int[Types.LARGEST * 2];
        /** The classes that were asked for, those that are not met yet; the namespaces of those that were; all as bits. */
        private int asked;
        private int wanted;
        private int found;
        private int order;
        private int steps;
        private int last;
        private int woken;
        private boolean hasSkipped;
        /** Whether an order came to its end, as there was no room. */
        private boolean isOut;
        /** Those that come about by way of types that have numbers; for each the place of the last chosen one ahead of it. */
        private int[] met = new int[FEW];
        private int[] ahead = new int[FEW];
        private int metCount;

        Walk(Types types, Hierarchy hierarchy, Templates templates, Bodies bodies, Explorer explorer, Frontier frontier) {
            this.types = types;
            this.hierarchy = hierarchy;
            this.templates = templates;
            this.bodies = bodies;
            this.explorer = explorer;
            this.frontier = frontier;
        }

        /** Begins to look up classes, told as bits; what can be met by way of the arguments must be known. */
        void begin(int classes) {
            asked = classes;
            wanted = classes;
            found = 0;
            start(MIXED);
        }

        /** The namespaces of the classes that were met, as bits. */
        int found() {
            return found;
        }

        /** Whether there is something to find yet. */
        boolean lacksSome() {
            return wanted != 0;
        }

        /** Begins to go through types in an order. */
        private void start(int order) {
            this.order = order;
            last = steps + (order == MIXED ? MOST_STEPS : MOST_STEPS_ALONE);
            isOut = false;
            clear();
            unmarkAll(Types.NOTED | Types.PENDING);
        }

        private void clear() {
            frontier.clear();
            hasSkipped = false;
        }

        private void unmarkAll(long marks) {
            for (int id = 0; id < types.count; id++) {
                types.nodes[id] &= ~marks;
            }
        }

        /** Begins anew, as what was chosen was forgotten. */
        void startAnew() {
            bodies.unmarkAll(Bodies.WAITING);
            bodies.keepWaiting();
            begin(asked);
        }

        /** Begins to go on in the next order, if something was left out in this one; false if there is none. */
        boolean startsNext() {
            if (!isOut || order == 0) return false;
            start(order - 1);
            return true;
        }

        void put(int id) {
            if ((types.nodes[id] & (Types.NOTED | Types.PENDING)) != 0) return;
            types.nodes[id] |= Types.PENDING;
            if (!frontier.puts(id)) hasSkipped = true;
        }

        /** Whether there is nothing to go on with. */
        boolean isIdle() {
            return frontier.count() == 0 && !hasSkipped;
        }

        /** Goes through so many types at most. */
        void goOn(int most) {
            for (int i = 0; i < most && wanted != 0; i++) {
                if (!explorer.makeRoom() && !forgets()) return;
                if (steps > last) {
                    isOut = true;
                    clear();
                }
                int id = takes();
                if (id == NONE) return;
                scan(id);
            }
        }

        /** Forgets what was met to make room; if this is not worth while, this order is at its end. */
        private boolean forgets() {
            boolean areFew = frontier.count() <= FEW_PENDING && !hasSkipped;
            unmarkAll(areFew ? Types.NOTED : Types.NOTED | Types.PENDING);
            if (!areFew) clear();
            explorer.retry();
            boolean hasRoom = explorer.makeRoom();
            if (!hasRoom || !areFew) isOut = true;
            if (!hasRoom) clear();
            return hasRoom && areFew;
        }

        private int takes() {
            if (frontier.count() == 0 && hasSkipped) putSkipped();
            int id = frontier.takes(order == MIXED ? steps / TURN % Frontier.ORDERS : order);
            if (id != NONE) types.nodes[id] &= ~Types.PENDING;
            return id;
        }

        /** Puts those for which there was no room. */
        private void putSkipped() {
            hasSkipped = false;
            for (int id = 0; id < types.count && !hasSkipped; id++) {
                boolean isPending = (types.nodes[id] & (Types.NOTED | Types.PENDING)) == Types.PENDING;
                if (isPending && !frontier.puts(id)) hasSkipped = true;
            }
        }

        /** Goes through a type: to the classes in it, and to the bases of the instances in it. */
        private void scan(int type) {
            int top = 1;
            stack[0] = type;
            for (int i = 0; i < stack.length && top > 0; i++) {
                int id = stack[--top];
                long node = types.nodes[id];
                if ((node & Types.NOTED) != 0) continue;
                types.nodes[id] = node | Types.NOTED;
                steps++;
                int head = (int) node & Types.TOKEN;
                if (Types.isClass(head)) meet(head - Types.CLASS);
                if (head >= Types.TWOFOLD) stack[top++] = types.second(id);
                if (head >= Types.POINTER) stack[top++] = types.first(id);
                boolean isBehind = head >= Types.SINGLE && (templates.classesBehind(Types.templateOf(head)) & wanted) != 0;
                if (isBehind && !goesBehind(id)) {
                    bodies.addGoal(id, Bodies.WAITING);
                    explorer.put(id);
                }
            }
        }

        private void meet(int cls) {
            int all = hierarchy.allBases(cls);
            for (int i = 0; i < hierarchy.count(); i++) {
                if ((all >> i & 1) == 1) found |= 1 << hierarchy.namespace(i);
            }
            wanted = 0;
            for (int i = 0; i < hierarchy.count(); i++) {
                boolean isAsked = (asked >> i & 1) == 1;
                if (isAsked && (found >> hierarchy.namespace(i) & 1) == 0) wanted |= 1 << i;
            }
        }

        /** Puts the base of an instance; false if it may have several ones. */
        private boolean goesBehind(int id) {
            int bodiesLeft = bodies.setOf(id);
            int base = bodies.baseAt(id, Bodies.code(bodiesLeft));
            bodiesLeft &= bodiesLeft - 1;
            while (bodiesLeft != 0) {
                if (bodies.baseAt(id, Bodies.code(bodiesLeft)) != base) return false;
                bodiesLeft &= bodiesLeft - 1;
            }
            if (types.isShort()) {
                // It is to be gone through once more when there is room.
                types.nodes[id] &= ~Types.NOTED;
                base = id;
            }
            if (base != NONE) put(base);
            return true;
        }

        // ---- those that come about by way of types that have numbers

        /** Puts the instances among them for which it is not known what goes; tells whether any of them was not there yet. */
        boolean putsMet() {
            boolean isNew = false;
            findMet();
            for (int i = 0; i < metCount; i++) {
                if (!isLeft(met[i])) continue;
                bodies.mark(met[i], Bodies.NUMBERED);
                explorer.put(met[i]);
                isNew = true;
            }
            return isNew;
        }

        /** Whether there was room for all that come about by way of types that have numbers. */
        boolean hasMetAll() {
            return metCount < MOST_MET;
        }

        /** As putsMet, and besides those through which this went, if these are not too many. */
        boolean putsWalked() {
            boolean isNew = putsMet();
            int left = 0;
            for (int id = Types.POINTER; id < types.count; id++) {
                if ((types.nodes[id] & Types.NOTED) != 0 && isLeft(id)) left++;
            }
            if (left == 0 || left > MOST_LEFT) return isNew;
            for (int id = Types.POINTER; id < types.count; id++) {
                if ((types.nodes[id] & Types.NOTED) == 0 || !isLeft(id)) continue;
                bodies.mark(id, Bodies.NUMBERED);
                explorer.put(id);
            }
            return true;
        }

        private boolean isLeft(int id) {
            return types.headOf(id) >= Types.SINGLE && bodies.isOpen(id) && !bodies.is(id, Bodies.MEMBER);
        }

        /** The last one whose body was chosen on the way on which an instance comes about; NONE if there is none. */
        int chosenAhead(int id) {
            findMet();
            for (int i = 0; i < metCount; i++) {
                if (met[i] == id) return ahead[i] == NONE ? NONE : met[ahead[i]];
            }
            return NONE;
        }

        /** Finds those in the types that have numbers, their bases as far as they are known, those in these, and so on. */
        private void findMet() {
            metCount = 0;
            for (int i = 0; i < types.numbered(); i++) {
                comesAbout(types.id(i), NONE);
            }
            for (int i = 0; i < metCount; i++) {
                int id = met[i];
                int head = types.headOf(id);
                comesAbout(types.first(id), ahead[i]);
                if (head >= Types.TWOFOLD) comesAbout(types.second(id), ahead[i]);
                if (head < Types.SINGLE) continue;
                int set = bodies.setOf(id);
                boolean isChosen = Bodies.isChosen(types.infos[id]);
                if (Bodies.isSingle(set)) comesAbout(bodies.baseAt(id, Bodies.code(set)), isChosen ? i : ahead[i]);
            }
            for (int i = 0; i < metCount; i++) {
                bodies.unmark(met[i], Bodies.MET);
            }
        }

        private void comesAbout(int id, int chosen) {
            if (id < Types.POINTER || bodies.is(id, Bodies.MET) || types.isShort()) return;
            if (metCount == met.length) {
                if (metCount == MOST_MET) return;
                met = Arrays.copyOf(met, Math.min(MOST_MET, metCount << MORE));
                ahead = Arrays.copyOf(ahead, met.length);
            }
            bodies.mark(id, Bodies.MET);
            ahead[metCount] = chosen;
            met[metCount++] = id;
        }

        // ---- those whose bodies must be found first

        /** Goes on from those of whose bodies something was found. */
        void wake() {
            for (int i = 0; i < explorer.woken(); i++) {
                wake(explorer.wokenAt(i));
            }
            explorer.clearWoken();
        }

        private void wake(int id) {
            if (id < Types.POINTER || !bodies.is(id, Bodies.WAITING)) return;
            if (!goesBehind(id)) return;
            // If its body was chosen, it is asked for again if that is to be forgotten.
            boolean isChosen = Bodies.isChosen(types.infos[id]);
            bodies.unmark(id, isChosen ? Bodies.WAITING : Bodies.WAITING | Bodies.GOAL);
            woken++;
        }

        /** How many were waited for, and are not any more. */
        int woken() {
            return woken;
        }

        /** Goes on from all of whose bodies enough is known, and tells how many wait yet. */
        int wakeAll() {
            for (int i = 0; i < bodies.goals(); i++) {
                wake(bodies.goal(i));
            }
            return bodies.keepWaiting();
        }
    }

    /**
     * The methods that classes override, what their bodies do, the objects and blocks, and the trace of what is made
     * and taken down.
     */
    private static final class Making {
        static final int TIMES = 99;
        static final int BLOCKS = 10;
        static final int ARRAY = 5;
        static final int LIVING = 40;
        private static final int TRACE = 600;
        private static final int TEMPORARY = -1;

        private final Hierarchy hierarchy;
        private final boolean[] doOverride = new boolean[Hierarchy.CLASSES * METHODS];
        /** For each class and method, the class whose method it is, NONE or SEVERAL. */
        private final int[] owners = new int[Hierarchy.CLASSES * METHODS];
        private final int[] spoken = new int[Hierarchy.CLASSES];
        private final boolean[] doDelegate = new boolean[Hierarchy.CLASSES];
        /** How many times a class is made until it throws, 0 if it does not. */
        private final int[] times = new int[Hierarchy.CLASSES];
        private final boolean[] areTries = new boolean[BLOCKS];
        private int blocks = 1;
        private int living;
        private final int[] livingClasses = new int[LIVING];
        private final long[] livingNumbers = new long[LIVING];
        private final int[] livingBlocks = new int[LIVING];
        private int traced;
        private final char[] kinds = new char[TRACE];
        private final int[] classes = new int[TRACE];
        private final int[] objects = new int[TRACE];
        private long next;
        private long madeParts;
        private long takenParts;

        Making(Hierarchy hierarchy) {
            this.hierarchy = hierarchy;
            for (int i = 0; i < Hierarchy.CLASSES; i++) {
                spoken[i] = NONE;
            }
            for (int i = 0; i < Hierarchy.CLASSES * METHODS; i++) {
                owners[i] = NONE;
            }
        }

        boolean changeOverriding(int cls, int method, boolean does) {
            boolean before = doOverride[cls * METHODS + method];
            doOverride[cls * METHODS + method] = does;
            findOwners();
            return before;
        }

        int changeBody(int cls, int method, boolean delegates) {
            int before = spoken[cls];
            spoken[cls] = method;
            doDelegate[cls] = delegates;
            return before;
        }

        /** The class whose method it is for a class, NONE or SEVERAL. */
        int ownerOf(int cls, int method) {
            return owners[cls * METHODS + method];
        }

        /** To be called whenever a class gets a base, too. */
        void findOwners() {
            for (int cls = 0; cls < hierarchy.count(); cls++) {
                for (int method = 0; method < METHODS; method++) {
                    owners[cls * METHODS + method] = foundOwner(cls, method);
                }
            }
        }

        private int foundOwner(int cls, int method) {
            if (doOverride[cls * METHODS + method]) return cls;
            int owner = NONE;
            for (int base = 0; base < cls; base++) {
                boolean isOne = hierarchy.isBase(base, cls) && doOverride[base * METHODS + method];
                if (isOne && !isBehindAnother(base, cls, method)) {
                    if (owner != NONE) return SEVERAL;
                    owner = base;
                }
            }
            return owner;
        }

        private boolean isBehindAnother(int base, int cls, int method) {
            for (int other = base + 1; other < cls; other++) {
                boolean isOne = hierarchy.isBase(other, cls) && doOverride[other * METHODS + method];
                if (isOne && hierarchy.isBase(base, other)) return true;
            }
            return false;
        }

        boolean hasBegun() {
            return next > 0;
        }

        int blocks() {
            return blocks;
        }

        int livingCount() {
            return living;
        }

        int traced() {
            return traced;
        }

        char kindAt(int index) {
            return kinds[index];
        }

        int classAt(int index) {
            return classes[index];
        }

        int objectAt(int index) {
            return objects[index];
        }

        long madeParts() {
            return madeParts;
        }

        long takenParts() {
            return takenParts;
        }

        int changeTimes(int cls, int howMany) {
            int before = times[cls];
            times[cls] = howMany;
            return before;
        }

        int openBlock(boolean isTry) {
            areTries[blocks] = isTry;
            return ++blocks;
        }

        int closeBlock() {
            takeTemporaries();
            blocks--;
            takeDownFrom(blocks);
            return blocks;
        }

        char makeObjects(int cls, boolean isTemporary, int count) {
            int before = living;
            for (int i = 0; i < count; i++) {
                long number = next;
                if (!makeWhole(cls)) {
                    takeDownArray(before);
                    return unwind();
                }
                livingClasses[living] = cls;
                livingNumbers[living] = number;
                livingBlocks[living] = isTemporary ? TEMPORARY : blocks - 1;
                living++;
            }
            return 'm';
        }

        int takeTemporaries() {
            int taken = 0;
            for (int i = living - 1; i >= 0; i--) {
                if (livingBlocks[i] == TEMPORARY) {
                    takeWhole(livingClasses[i], livingNumbers[i]);
                    closeGap(i);
                    taken++;
                }
            }
            return taken;
        }

        /** Takes down what a throw leaves behind, and tells whether a try caught it. */
        char unwind() {
            takeTemporaries();
            while (blocks > 1) {
                blocks--;
                takeDownFrom(blocks);
                if (areTries[blocks]) return 'c';
            }
            takeDownFrom(0);
            return 'u';
        }

        /** Takes down the objects of a block and of those in it; there are no temporaries among them. */
        private void takeDownFrom(int block) {
            while (living > 0 && livingBlocks[living - 1] >= block) {
                living--;
                takeWhole(livingClasses[living], livingNumbers[living]);
            }
        }

        private void takeDownArray(int before) {
            while (living > before) {
                living--;
                takeWhole(livingClasses[living], livingNumbers[living]);
            }
        }

        private void closeGap(int at) {
            living--;
            for (int i = at; i < living; i++) {
                livingClasses[i] = livingClasses[i + 1];
                livingNumbers[i] = livingNumbers[i + 1];
                livingBlocks[i] = livingBlocks[i + 1];
            }
        }

        private boolean makeWhole(int cls) {
            if (isQuiet(cls, true)) return makeQuietly(cls, true);
            long number = next++;
            int virtuals = hierarchy.virtuals(cls);
            for (int i = 0; i < virtuals; i++) {
                long before = next;
                if (!makePart(hierarchy.virtualAt(cls, i), number)) {
                    takeVirtuals(cls, number, before, i);
                    return false;
                }
            }
            long before = next;
            if (makePart(cls, number)) return true;
            takeVirtuals(cls, number, before, virtuals);
            return false;
        }

        private boolean makePart(int cls, long number) {
            if (isQuiet(cls, false)) return makeQuietly(cls, false);
            int bases = hierarchy.bases(cls);
            for (int i = 0; i < bases; i++) {
                long before = next;
                if (!hierarchy.isVirtualAt(cls, i) && !makePart(hierarchy.baseAt(cls, i), number)) {
                    takeInner(cls, number, before, 0, i);
                    return false;
                }
            }
            int members = hierarchy.members(cls);
            for (int i = 0; i < members; i++) {
                long before = next;
                if (!makeWhole(hierarchy.memberAt(cls, i))) {
                    takeInner(cls, number, before, i, bases);
                    return false;
                }
            }
            if (makeBody(cls, number)) return true;
            takeInner(cls, number, next, members, bases);
            return false;
        }

        private boolean makeBody(int cls, long number) {
            boolean isThrowing = times[cls] == 1;
            if (times[cls] > 0) times[cls]--;
            boolean delegates = doDelegate[cls];
            if (isThrowing && !delegates) {
                note('X', cls, number);
                return false;
            }
            note('C', cls, number);
            speak(cls, number);
            madeParts++;
            if (delegates) note(isThrowing ? 'X' : 'G', cls, number);
            if (isThrowing) takeBody(cls, number);
            return !isThrowing;
        }

        private void takeBody(int cls, long number) {
            speak(cls, number);
            note('D', cls, number);
            takenParts++;
        }

        private void takeWhole(int cls, long number) {
            long end = number + hierarchy.wholeObjects(cls);
            takePart(cls, number, end);
            takeVirtuals(cls, number, end - hierarchy.partObjects(cls), hierarchy.virtuals(cls));
        }

        /** Takes down the first so many virtual bases; the members in them have the numbers ahead of the end. */
        private void takeVirtuals(int cls, long number, long end, int count) {
            long left = end;
            for (int i = count - 1; i >= 0; i--) {
                int base = hierarchy.virtualAt(cls, i);
                takePart(base, number, left);
                left -= hierarchy.partObjects(base);
            }
        }

        private void takePart(int cls, long number, long end) {
            if (traced >= TRACE) {
                for (int i = 0; i <= cls; i++) {
                    takenParts += hierarchy.partBodies(cls, i);
                }
                return;
            }
            takeBody(cls, number);
            takeInner(cls, number, end, hierarchy.members(cls), hierarchy.bases(cls));
        }

        /** Takes down the first so many members, and the first so many own bases. */
        private void takeInner(int cls, long number, long end, int members, int bases) {
            long left = end;
            for (int i = members - 1; i >= 0; i--) {
                int member = hierarchy.memberAt(cls, i);
                left -= hierarchy.wholeObjects(member);
                takeWhole(member, left);
            }
            for (int i = bases - 1; i >= 0; i--) {
                if (hierarchy.isVirtualAt(cls, i)) continue;
                int base = hierarchy.baseAt(cls, i);
                takePart(base, number, left);
                left -= hierarchy.partObjects(base);
            }
        }

        /** Whether nothing of a making is traced, and none of it throws: as it may be very long, it is only counted. */
        private boolean isQuiet(int cls, boolean isWhole) {
            if (traced < TRACE) return false;
            for (int i = 0; i <= cls; i++) {
                if (times[i] > 0 && bodiesOf(i, cls, isWhole) >= times[i]) return false;
            }
            return true;
        }

        private boolean makeQuietly(int cls, boolean isWhole) {
            for (int i = 0; i <= cls; i++) {
                long bodies = bodiesOf(i, cls, isWhole);
                madeParts += bodies;
                if (times[i] > 0) times[i] -= (int) bodies;
            }
            next += isWhole ? hierarchy.wholeObjects(cls) : hierarchy.partObjects(cls);
            return true;
        }

        private long bodiesOf(int which, int cls, boolean isWhole) {
            return isWhole ? hierarchy.wholeBodies(cls, which) : hierarchy.partBodies(cls, which);
        }

        private void speak(int cls, long number) {
            int method = spoken[cls];
            if (method != NONE) note('V', ownerOf(cls, method), number);
        }

        private void note(char kind, int cls, long number) {
            if (traced >= TRACE) return;
            kinds[traced] = kind;
            classes[traced] = cls;
            objects[traced] = (int) number;
            traced++;
        }
    }
}
