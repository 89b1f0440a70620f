import java.util.Arrays;
import java.util.NoSuchElementException;

/** A language of templates and objects; the document that it keeps to is ../shared/DOC.md. */
public final class Overloadery {
    private static final int NONE = -1;
    private static final int SEVERAL = -2;
    private static final int NOT_SURE = -2;
    private static final int NAMES = 6;
    private static final int METHODS = 4;
    private static final int PARAMETERS = 3;

    /** What is asked: of an instance its body, its base; of two types the steps; of functions all the others. */
    private static final int BODY = 0;
    private static final int BASE = 1;
    private static final int DISTANCE = 2;
    private static final int VIABLE = 3;
    private static final int COMING = 4;
    private static final int DEDUCED = 5;
    private static final int SHARE = 6;
    private static final int BEST = 7;
    private static final int BEST_ANEW = 8;
    /** Answers for a function that is not viable, and for a parameter that stands for nothing. */
    private static final int NOT_VIABLE = -1_000_000;
    private static final int NOTHING = -2_000_000;
    /** How often bodies are supposed, and found, for a question; how often instances are looked at. */
    private static final int RUNS = 1 << 12;
    private static final int ROUNDS = 1 << 6;
    private static final int LOOKS = 1 << 25;
    /** How many bodies are looked for on a walk at most. */
    private static final int MOST_OPEN = 1 << 24;

    private final Types table;
    private final Hierarchy hierarchy;
    private final Templates templates;
    private final Instances instances;
    private final Look look;
    private final Descent descent;
    private final Functions functions;
    private final Call call;
    private final Walk walk;
    private final Making making;

    public Overloadery() {
        Types newTypes = new Types();
        Hierarchy newHierarchy = new Hierarchy();
        Templates newTemplates = new Templates(newTypes, newHierarchy);
        Instances newInstances = new Instances();
        Look newLook = new Look(newTypes, newHierarchy, newTemplates, newInstances);
        Functions newFunctions = new Functions(newTypes);
        table = newTypes;
        hierarchy = newHierarchy;
        templates = newTemplates;
        instances = newInstances;
        look = newLook;
        descent = new Descent(newTypes, newInstances, new Look(newTypes, newHierarchy, newTemplates, newInstances));
        functions = newFunctions;
        call = new Call(newTypes, newHierarchy, newTemplates, newFunctions, newLook);
        walk = new Walk(newTypes, newHierarchy, newTemplates, newInstances, newLook);
        making = new Making(newHierarchy);
    }

    // ---- types

    public int pointerTo(int type) throws IndexOutOfBoundsException, IllegalStateException {
        needType(type);
        return needRoom(table.numberFor(Types.POINTER, type, NONE));
    }

    public int classType(int cls) throws IndexOutOfBoundsException, IllegalStateException {
        needClass(cls);
        return needRoom(table.numberFor(Types.CLASS + cls, NONE, NONE));
    }

    public int parameter(int parameter) throws IllegalArgumentException, IllegalStateException {
        if (!isParameter(parameter)) throw new IllegalArgumentException();
        return needRoom(table.numberFor(Types.PARAMETER + parameter, NONE, NONE));
    }

    public int instance(int template, int first, int second)
            throws IndexOutOfBoundsException, IllegalArgumentException, IllegalStateException {
        needRow(template, first, second);
        boolean isSingle = templates.parameters(template) == 1;
        int head = (isSingle ? Types.SINGLE : Types.TWOFOLD) + template;
        return needRoom(table.numberFor(head, first, second));
    }

    public char kindOf(int type) throws IndexOutOfBoundsException {
        needType(type);
        int head = table.head(type);
        if (head == Types.POINTER) return 'p';
        if (Types.isClass(head)) return 'c';
        if (Types.isParameter(head)) return 't';
        return Types.isInstance(head) ? 'i' : 'b';
    }

    public int types() {
        return table.numbered();
    }

    public int baseOf(int type)
            throws IndexOutOfBoundsException, IllegalArgumentException, NoSuchElementException, IllegalStateException {
        needClosedInstance(type);
        if (answer(BASE, type, NONE) == NOTHING) throw new NoSuchElementException();
        return needRoom(table.numberOf(Types.OTHER * Types.WIDTH));
    }

    public int chosenFor(int type) throws IndexOutOfBoundsException, IllegalArgumentException {
        needClosedInstance(type);
        long body = answer(BODY, type, NONE);
        if (body == Instances.ITSELF) return Templates.ITSELF;
        return body == Instances.UNSURE ? NOT_SURE : (int) body;
    }

    // ---- namespaces, classes, templates

    public int addNamespace(int outer) throws IndexOutOfBoundsException, IllegalStateException {
        needNamespace(outer);
        if (functions.namespaces() >= Functions.NAMESPACES) throw new IllegalStateException();
        return functions.putNamespace(outer);
    }

    public int addClass(int namespace) throws IndexOutOfBoundsException, IllegalStateException {
        needNamespace(namespace);
        if (hierarchy.count() >= Hierarchy.CLASSES) throw new IllegalStateException();
        return hierarchy.put(namespace);
    }

    public int addBase(int cls, int base, boolean isVirtual)
            throws IndexOutOfBoundsException, IllegalArgumentException, IllegalStateException {
        needClass(cls);
        needClass(base);
        if (base >= cls || hierarchy.hasOwnBase(cls, base)) throw new IllegalArgumentException();
        if (hierarchy.bases(cls) >= Hierarchy.EACH || making.hasBegun()) throw new IllegalStateException();
        int bases = hierarchy.putBase(cls, base, isVirtual);
        making.findOwners();
        return bases;
    }

    public int addMember(int cls, int member)
            throws IndexOutOfBoundsException, IllegalArgumentException, IllegalStateException {
        needClass(cls);
        needClass(member);
        if (member >= cls) throw new IllegalArgumentException();
        if (hierarchy.members(cls) >= Hierarchy.EACH || making.hasBegun()) throw new IllegalStateException();
        return hierarchy.putMember(cls, member);
    }

    public int addConversion(int cls, int type, boolean isFrom)
            throws IndexOutOfBoundsException, IllegalArgumentException, IllegalStateException {
        needClass(cls);
        needType(type);
        boolean isItself = table.head(type) == Types.CLASS + cls;
        if (isOpen(type) || isItself || hierarchy.hasConversion(cls, type, isFrom)) {
            throw new IllegalArgumentException();
        }
        if (hierarchy.conversions(cls, isFrom) >= Hierarchy.TOLD) throw new IllegalStateException();
        return hierarchy.putConversion(cls, type, isFrom);
    }

    public int addTemplate(int parameters) throws IllegalArgumentException, IllegalStateException {
        if (parameters < 1 || parameters > 2) throw new IllegalArgumentException();
        if (templates.count() >= Templates.TEMPLATES) throw new IllegalStateException();
        return templates.put(parameters);
    }

    public int specialise(int template, int first, int second)
            throws IndexOutOfBoundsException, IllegalArgumentException, IllegalStateException {
        needRow(template, first, second);
        if (templates.specialisations(template) >= Templates.EACH) throw new IllegalStateException();
        return templates.putSpecialisation(template, first, second);
    }

    public int setBase(int template, int specialisation, int type)
            throws IndexOutOfBoundsException, IllegalArgumentException {
        needTemplate(template);
        if (specialisation != Templates.ITSELF) needSpecialisation(template, specialisation);
        if (type != NONE) {
            needType(type);
            if (!hasBases(type)) throw new IllegalArgumentException();
        }
        return templates.changeBase(template, specialisation, type);
    }

    public int constrain(int template, int specialisation, int parameter, char letter, int cls)
            throws IndexOutOfBoundsException, IllegalArgumentException, IllegalStateException {
        needTemplate(template);
        needSpecialisation(template, specialisation);
        needConstraint(parameter, letter, cls);
        int set = Templates.place(template, specialisation);
        if (templates.constraints(set) >= Templates.MOST_CONSTRAINTS) throw new IllegalStateException();
        int count = templates.putConstraint(set, parameter, letter, cls);
        templates.compareAll(template);
        return count;
    }

    public int distance(int type, int base)
            throws IndexOutOfBoundsException, IllegalArgumentException, NoSuchElementException,
            UnsupportedOperationException {
        needType(type);
        needType(base);
        if (isOpen(type) || isOpen(base)) throw new IllegalArgumentException();
        if (!hasBases(type) || !hasBases(base)) throw new IllegalArgumentException();
        int steps = (int) answer(DISTANCE, type, base);
        if (steps == NONE) throw new NoSuchElementException();
        if (steps == SEVERAL) throw new UnsupportedOperationException();
        return steps;
    }

    // ---- functions and calls

    public int addFunction(int namespace, int name, boolean isDeleted)
            throws IndexOutOfBoundsException, IllegalArgumentException, IllegalStateException {
        needNamespace(namespace);
        needName(name);
        if (functions.count() >= Functions.FUNCTIONS) throw new IllegalStateException();
        return functions.put(namespace, name, isDeleted);
    }

    public int addParameter(int function, char mode, int type)
            throws IndexOutOfBoundsException, IllegalArgumentException, IllegalStateException {
        needFunction(function);
        needType(type);
        if (mode != 'v' && mode != 'r' && mode != 'c' && mode != 'm') throw new IllegalArgumentException();
        if (functions.parameters(function) >= Functions.EACH) throw new IllegalStateException();
        return functions.putParameter(function, mode, type);
    }

    public int require(int function, int parameter, char letter, int cls)
            throws IndexOutOfBoundsException, IllegalArgumentException, IllegalStateException {
        needFunction(function);
        needConstraint(parameter, letter, cls);
        int set = Functions.constraintSet(function);
        if (templates.constraints(set) >= Templates.MOST_CONSTRAINTS) throw new IllegalStateException();
        return templates.putConstraint(set, parameter, letter, cls);
    }

    public int addArgument(int type, char category)
            throws IndexOutOfBoundsException, IllegalArgumentException, IllegalStateException {
        needType(type);
        boolean isCategory = category == 'l' || category == 'k' || category == 'r';
        if (isOpen(type) || !isCategory) throw new IllegalArgumentException();
        if (call.count() >= Functions.EACH) throw new IllegalStateException();
        return call.put(type, category);
    }

    public int clearArguments() {
        return call.clear();
    }

    public int candidates(int namespace, int name) throws IndexOutOfBoundsException, IllegalArgumentException {
        needNamespace(namespace);
        needName(name);
        gather(namespace, name);
        return call.candidateCount();
    }

    public boolean isViable(int function) throws IndexOutOfBoundsException {
        needFunction(function);
        return answer(VIABLE, function, NONE) == 1;
    }

    public int coming(int function, int argument) throws IndexOutOfBoundsException, IllegalStateException {
        needFunction(function);
        if (argument < 0 || argument >= call.count()) throw new IndexOutOfBoundsException();
        int way = (int) answer(COMING, function, argument);
        if (way == NOT_VIABLE) throw new IllegalStateException();
        return way;
    }

    public int deduced(int function, int parameter)
            throws IndexOutOfBoundsException, IllegalStateException, NoSuchElementException,
            UnsupportedOperationException {
        needFunction(function);
        if (!isParameter(parameter)) throw new IndexOutOfBoundsException();
        long answer = answer(DEDUCED, function, parameter);
        if (answer == NOT_VIABLE) throw new IllegalStateException();
        if (answer == NOTHING) throw new NoSuchElementException();
        int number = table.numberOf(call.boundPlace(parameter));
        if (number == NONE) throw new UnsupportedOperationException();
        return number;
    }

    public int resolve(int namespace, int name) throws IndexOutOfBoundsException, IllegalArgumentException {
        needNamespace(namespace);
        needName(name);
        gather(namespace, name);
        return (int) answer(BEST, NONE, NONE);
    }

    public int resolveAnew(int namespace, int name) throws IndexOutOfBoundsException, IllegalArgumentException {
        needNamespace(namespace);
        needName(name);
        gather(namespace, name);
        return (int) answer(BEST_ANEW, NONE, NONE);
    }

    // ---- objects

    public boolean override(int cls, int method, boolean does)
            throws IndexOutOfBoundsException, IllegalArgumentException {
        needClass(cls);
        if (!isMethod(method)) throw new IllegalArgumentException();
        return making.changeOverriding(cls, method, does);
    }

    public int overrider(int cls, int method) throws IndexOutOfBoundsException, IllegalArgumentException {
        needClass(cls);
        if (!isMethod(method)) throw new IllegalArgumentException();
        return making.ownerOf(cls, method);
    }

    public int setBody(int cls, int method, boolean delegates)
            throws IndexOutOfBoundsException, IllegalArgumentException {
        needClass(cls);
        if (method != NONE && !isMethod(method)) throw new IllegalArgumentException();
        return making.changeBody(cls, method, delegates);
    }

    public int setThrow(int cls, int times) throws IndexOutOfBoundsException, IllegalArgumentException {
        needClass(cls);
        if (times < 0 || times > Making.TIMES) throw new IllegalArgumentException();
        return making.changeTimes(cls, times);
    }

    public int open(boolean isTry) throws IllegalStateException {
        if (making.blocks() >= Making.BLOCKS) throw new IllegalStateException();
        return making.openBlock(isTry);
    }

    public int close() throws IllegalStateException {
        if (making.blocks() <= 1) throw new IllegalStateException();
        return making.closeBlock();
    }

    public char make(int cls, char how, int many)
            throws IndexOutOfBoundsException, IllegalArgumentException, IllegalStateException {
        needClass(cls);
        boolean isArray = how == 'a';
        if (!isArray && how != 'o' && how != 't' && how != 'l') throw new IllegalArgumentException();
        if (isArray && (many < 1 || many > Making.ARRAY)) throw new IllegalArgumentException();
        int count = isArray ? many : 1;
        if (making.livingCount() + count > Making.LIVING) throw new IllegalStateException();
        return making.makeObjects(cls, how == 't', count);
    }

    public int endExpression() {
        return making.takeTemporaries();
    }

    public char raise() {
        return making.unwind();
    }

    public int living() {
        return making.livingCount();
    }

    public int trace() {
        return making.traced();
    }

    public char traceKind(int index) throws IndexOutOfBoundsException {
        needTraced(index);
        return making.kindAt(index);
    }

    public int traceClass(int index) throws IndexOutOfBoundsException {
        needTraced(index);
        return making.classAt(index);
    }

    public int traceObject(int index) throws IndexOutOfBoundsException {
        needTraced(index);
        return making.objectAt(index);
    }

    // ---- totals

    public long made() {
        return making.madeParts();
    }

    public long takenDown() {
        return making.takenParts();
    }

    public float viableShare() throws ArithmeticException {
        int all = functions.count();
        if (all == 0) throw new ArithmeticException();
        int viable = (int) answer(SHARE, NONE, NONE);
        return (float) viable / (float) all;
    }

    public double meanParts() throws ArithmeticException {
        int all = hierarchy.count();
        if (all == 0) throw new ArithmeticException();
        long sum = 0;
        for (int i = 0; i < all; i++) {
            sum += hierarchy.allParts(i);
        }
        return (double) sum / (double) all;
    }

    // ---- how answers are found

    /**
     * The answer to a question. As long as it is not the same whatever bodies instances have of whom this is not known, their
     * bodies are found; at last they have those that they have if what is open does not hold.
     */
    private long answer(int kind, int one, int two) {
        if (kind < BEST) descent.begin();
        int last = descent.looks() + LOOKS;
        long answer = 0;
        boolean isCareful = false;
        for (int level = 0; level <= Descent.LEVELS; level++) {
            boolean isLast = level == Descent.LEVELS || descent.looks() > last;
            boolean isNew = true;
            for (int round = 0; round < ROUNDS && isNew; round++) {
                look.begin(isCareful);
                boolean isAlike = true;
                boolean goesOn = true;
                for (int run = 0; run < RUNS && goesOn; run++) {
                    for (int i = 0; i < functions.count() && kind > DISTANCE; i++) {
                        call.settle(kind, one, i);
                    }
                    long now = kind > DISTANCE ? call.outcome(kind, one, two) : look.outcome(kind, one, two);
                    isAlike = run == 0 || now == answer;
                    if (run == 0) answer = now;
                    goesOn = isAlike && look.advances();
                }
                boolean isOver = look.isOver() || isAlike && goesOn;
                if (isAlike && !isOver) return answer;
                if (isOver && !isCareful) {
                    isCareful = true;
                    continue;
                }
                isNew = isLast;
                for (int i = 1; i < look.supposals().count(); i++) {
                    long first = look.supposals().askedWord(i, 0);
                    long second = look.supposals().askedWord(i, 1);
                    long third = look.supposals().askedWord(i, 2);
                    if (isLast) descent.settleAtLeast(first, second, third);
                    else if (descent.finds(first, second, third, level)) isNew = true;
                }
            }
        }
        return answer;
    }

    /** Finds the candidates of the call of a name. */
    private void gather(int namespace, int name) {
        descent.begin();
        call.beginCandidates(namespace, name);
        int contents = 0;
        for (int i = 0; i < call.count(); i++) {
            contents |= table.contents(call.argument(i));
        }
        templates.findEnds();
        templates.lookBehind(contents);
        walk.begin(call.wantedClasses(name));
        boolean isDone = call.count() == 0;
        for (int i = 0; i < Descent.LEVELS * Walk.ORDERS && walk.lacksSome() && !isDone; i++) {
            walk.start(i / Walk.ORDERS, i % Walk.ORDERS);
            for (int j = 0; j < call.count(); j++) {
                walk.put(call.argument(j));
            }
            int last = descent.looks() + walk.mostLooks();
            for (int j = 0; j < MOST_OPEN && walk.goesOn(); j++) {
                walk.packOpen();
                int level = descent.looks() < last ? walk.openLevel() : Descent.LEVELS;
                boolean isFound = level < Descent.LEVELS && descent.finds(table.first, table.second, table.third, level);
                walk.packOpen();
                boolean isLast = walk.openLevel() == Descent.LEVELS - 1;
                if (isLast && !isFound) descent.settleAtLeast(table.first, table.second, table.third);
                walk.goFromOpen();
            }
            for (int depth = 1; depth <= Walk.DEPTH && walk.lacksSome(); depth++) {
                walk.meetAnyway(depth);
            }
            isDone = walk.isDone();
            if (!walk.isForked()) i += Walk.ORDERS - 1 - i % Walk.ORDERS;
        }
        for (int i = 0; i < functions.namespaces(); i++) {
            if ((walk.found() >> i & 1) == 1) call.takesFrom(i, name);
        }
    }

    // ---- what the calls ask of their arguments

    private void needType(int type) {
        if (!table.has(type)) throw new IndexOutOfBoundsException();
    }

    private void needClass(int cls) {
        if (cls < 0 || cls >= hierarchy.count()) throw new IndexOutOfBoundsException();
    }

    private void needNamespace(int namespace) {
        if (namespace < 0 || namespace >= functions.namespaces()) throw new IndexOutOfBoundsException();
    }

    private void needTemplate(int template) {
        if (template < 0 || template >= templates.count()) throw new IndexOutOfBoundsException();
    }

    private void needSpecialisation(int template, int specialisation) {
        if (specialisation < 0 || specialisation >= templates.specialisations(template)) {
            throw new IndexOutOfBoundsException();
        }
    }

    private void needFunction(int function) {
        if (function < 0 || function >= functions.count()) throw new IndexOutOfBoundsException();
    }

    private void needTraced(int index) {
        if (index < 0 || index >= making.traced()) throw new IndexOutOfBoundsException();
    }

    private void needName(int name) {
        if (name < 0 || name >= NAMES) throw new IllegalArgumentException();
    }

    /** A row of one or two types for a template. */
    private void needRow(int template, int first, int second) {
        needTemplate(template);
        needType(first);
        if (second != NONE) needType(second);
        boolean isSingle = templates.parameters(template) == 1;
        if (isSingle != (second == NONE)) throw new IllegalArgumentException();
    }

    private void needClosedInstance(int type) {
        needType(type);
        if (!Types.isInstance(table.head(type)) || isOpen(type)) throw new IllegalArgumentException();
    }

    private void needConstraint(int parameter, char letter, int cls) {
        if (letter == 'd') needClass(cls);
        boolean isLetter = letter == 'p' || letter == 'c' || letter == 'b' || letter == 'd';
        if (!isParameter(parameter) || !isLetter) throw new IllegalArgumentException();
    }

    private int needRoom(int type) {
        if (type == NONE) throw new IllegalStateException();
        return type;
    }

    private boolean isOpen(int type) {
        return table.isOpen(type);
    }

    private boolean hasBases(int type) {
        int head = table.head(type);
        return Types.isClass(head) || Types.isInstance(head);
    }

    private static boolean isParameter(int parameter) {
        return parameter >= 0 && parameter < PARAMETERS;
    }

    private static boolean isMethod(int method) {
        return method >= 0 && method < METHODS;
    }

    /**
     * The types. Each is a row of tokens, in which what stands ahead of a type comes first, and then those that it is made
     * of. The first rows are those of the types that have a number; behind them are rows that calls use again.
     */
    private static final class Types {
        static final int TRUTH = 0;
        static final int LETTER = 1;
        static final int WHOLE = 2;
        static final int BASIC = 5;
        static final int CLASS = 5;
        static final int PARAMETER = 17;
        static final int POINTER = 20;
        static final int SINGLE = 21;
        static final int TWOFOLD = 26;

        static final int NUMBERED = 150;
        static final int LARGEST = 30;
        /** The places of a row. */
        static final int WIDTH = 32;

        /** The rows behind the numbered ones: an instance that is looked at, bases, and those that are kept for a while. */
        static final int OWN = NUMBERED;
        static final int CHAIN = OWN + 1;
        static final int TAKEN = CHAIN + Look.STEPS;
        static final int LINE = TAKEN + Functions.EACH;
        static final int WALKED = LINE + Look.STEPS;
        static final int OTHER = WALKED + 1;
        static final int OPENED = OTHER + 2;
        private static final int MADE = OPENED + Look.MOST_OPEN;
        private static final int ROWS = MADE + 1;

        /** The frames of what parameters stand for. */
        static final int FITTING = 0;
        static final int PART = 1;
        static final int OF_BASE = 2;
        static final int DEDUCED = 3;
        static final int TRIED = 4;
        static final int SPECIAL = 5;
        private static final int FRAMES = 6;

        /** A type as three words: each token takes five bits, twelve of them a word. */
        private static final int BITS = 5;
        private static final int TOKEN = (1 << BITS) - 1;
        private static final int WORD = 12;
        private static final int TWO_WORDS = 24;

        final int[] tokens = new int[ROWS * WIDTH];
        /** For each place where a type begins, the place behind it. */
        final int[] ends = new int[ROWS * WIDTH];
        private final int[] spots = new int[LARGEST];
        /** The places of what the parameters stand for, NONE for nothing. */
        final int[] bound = new int[FRAMES * PARAMETERS];
        /** The words of the type that was packed last. */
        long first;
        long second;
        long third;
        private int numbered;

        Types() {
            for (int i = 0; i < BASIC; i++) {
                tokens[i * WIDTH] = i;
                ends[i * WIDTH] = i * WIDTH + 1;
            }
            numbered = BASIC;
            Arrays.fill(bound, NONE);
        }

        static boolean isBasic(int token) {
            return token >= 0 && token < BASIC;
        }

        static boolean isClass(int token) {
            return token >= CLASS && token < PARAMETER;
        }

        static boolean isParameter(int token) {
            return token >= PARAMETER && token < POINTER;
        }

        static boolean isInstance(int token) {
            return token >= SINGLE;
        }

        static int templateOf(int token) {
            return token >= TWOFOLD ? token - TWOFOLD : token - SINGLE;
        }

        int numbered() {
            return numbered;
        }

        boolean has(int number) {
            return number >= 0 && number < numbered;
        }

        /** What stands ahead in a type with a number; NONE for no type. */
        int head(int number) {
            return number == NONE ? NONE : tokens[number * WIDTH];
        }

        int size(int number) {
            return number == NONE ? 0 : ends[number * WIDTH] - number * WIDTH;
        }

        boolean isOpen(int number) {
            for (int i = number * WIDTH; i < ends[number * WIDTH]; i++) {
                if (isParameter(tokens[i])) return true;
            }
            return false;
        }

        /** Finds the ends of all types in a row, the last one first. */
        private void parse(int from, int end) {
            int last = end;
            for (int at = end - 1; at >= from; at--) {
                int token = tokens[at];
                if (token < POINTER) last = at + 1;
                else if (token >= TWOFOLD) last = ends[last];
                ends[at] = last;
            }
        }

        /** Copies a type with its ends, and tells the place behind it. */
        private int copied(int from, int to) {
            int length = ends[from] - from;
            int shift = to - from;
            for (int i = 0; i < length; i++) {
                tokens[to + i] = tokens[from + i];
                ends[to + i] = ends[from + i] + shift;
            }
            return to + length;
        }

        void copyRow(int place, int row) {
            copied(place, row * WIDTH);
        }

        boolean isSame(int place, int other) {
            int length = ends[place] - place;
            if (ends[other] - other != length) return false;
            for (int i = 0; i < length; i++) {
                if (tokens[place + i] != tokens[other + i]) return false;
            }
            return true;
        }

        /** The number of a type that is made of up to two types, NONE if it can't have one, or is too large. */
        int numberFor(int head, int one, int other) {
            if (1 + size(one) + size(other) > LARGEST) return NONE;
            int at = MADE * WIDTH;
            tokens[at++] = head;
            if (one != NONE) at = copied(one * WIDTH, at);
            if (other != NONE) at = copied(other * WIDTH, at);
            parse(MADE * WIDTH, at);
            return numberOf(MADE * WIDTH);
        }

        /** The number of a type, a new one if need be; NONE if it can't have one. */
        int numberOf(int place) {
            for (int i = 0; i < numbered; i++) {
                if (isSame(i * WIDTH, place)) return i;
            }
            if (numbered >= NUMBERED) return NONE;
            copyRow(place, numbered);
            return numbered++;
        }

        void pack(int place) {
            int size = ends[place] - place;
            long word = 0;
            for (int i = place + Math.min(size, WORD) - 1; i >= place; i--) {
                word = word << BITS | tokens[i];
            }
            first = word;
            word = 0;
            for (int i = place + Math.min(size, TWO_WORDS) - 1; i >= place + WORD; i--) {
                word = word << BITS | tokens[i];
            }
            second = word;
            word = 0;
            for (int i = place + size - 1; i >= place + TWO_WORDS; i--) {
                word = word << BITS | tokens[i];
            }
            third = word;
        }

        void unpack(long one, long two, long three, int row) {
            int at = row * WIDTH;
            int left = 1;
            long word = one;
            for (int i = 0; i < LARGEST && left > 0; i++) {
                if (i == WORD) word = two;
                if (i == TWO_WORDS) word = three;
                int token = (int) word & TOKEN;
                word >>>= BITS;
                tokens[at++] = token;
                left += token < POINTER ? -1 : token < TWOFOLD ? 0 : 1;
            }
            parse(row * WIDTH, at);
        }

        void empty(int frame) {
            for (int i = frame * PARAMETERS; i < (frame + 1) * PARAMETERS; i++) {
                bound[i] = NONE;
            }
        }

        void copyFrame(int from, int to) {
            System.arraycopy(bound, from * PARAMETERS, bound, to * PARAMETERS, PARAMETERS);
        }

        /** Whether one or two patterns, which have numbers, match what stands from a place on; what is matched is gathered. */
        boolean matches(int frame, int pattern, int secondPattern, int place) {
            int at = place;
            int number = pattern;
            for (int i = 0; i < 2 && number != NONE; i++) {
                int end = ends[number * WIDTH];
                for (int j = number * WIDTH; j < end; j++) {
                    int token = tokens[j];
                    if (token < PARAMETER || token >= POINTER) {
                        if (tokens[at++] != token) return false;
                        continue;
                    }
                    int slot = frame * PARAMETERS + token - PARAMETER;
                    int known = bound[slot];
                    int length = ends[at] - at;
                    if (known == NONE) bound[slot] = at;
                    else if (ends[known] - known != length) return false;
                    for (int k = 0; k < length && known != NONE; k++) {
                        if (tokens[known + k] != tokens[at + k]) return false;
                    }
                    at += length;
                }
                number = secondPattern;
            }
            return true;
        }

        /**
         * Writes a type, which has a number, into a row, with the types for which its parameters stand; false if one stands
         * for nothing, or if it would be too large.
         */
        boolean builds(int frame, int number, int row) {
            int at = row * WIDTH;
            int last = at + LARGEST;
            int from = number * WIDTH;
            int end = ends[from];
            for (int i = from; i < end; i++) {
                int token = tokens[i];
                boolean isParameter = token >= PARAMETER && token < POINTER;
                int place = isParameter ? bound[frame * PARAMETERS + token - PARAMETER] : i;
                if (place == NONE) return false;
                int length = isParameter ? ends[place] - place : 1;
                if (at + length > last) return false;
                spots[i - from] = at;
                for (int j = 0; j < length; j++) {
                    tokens[at + j] = tokens[place + j];
                    ends[at + j] = ends[place + j] + at - place;
                }
                at += length;
            }
            // The ends of what was copied are known; the others are those of what they are made of now.
            for (int i = end - 1; i >= from; i--) {
                int spot = spots[i - from];
                if (tokens[i] < POINTER) continue;
                ends[spot] = tokens[i] < TWOFOLD ? ends[spot + 1] : ends[ends[spot + 1]];
            }
            return true;
        }

        /** The classes and templates in a type, as bits, those of the classes first. */
        int contents(int place) {
            int all = 0;
            for (int i = place; i < ends[place]; i++) {
                int token = tokens[i];
                if (isClass(token)) all |= 1 << token - CLASS;
                if (isInstance(token)) all |= 1 << Hierarchy.CLASSES + templateOf(token);
            }
            return all;
        }
    }

    /**
     * The class templates with their specialisations, and the sets of constraints, those of specialisations ahead of
     * those of functions; and what follows from all this whatever the types are.
     */
    private static final class Templates {
        static final int TEMPLATES = 5;
        static final int EACH = 4;
        static final int MOST_CONSTRAINTS = 4;
        /** The number of the template itself among its bodies. */
        static final int ITSELF = -1;
        private static final int ROW = 2;
        private static final int FITTINGS = 1 << EACH;
        private static final int SETS = TEMPLATES * EACH + Functions.FUNCTIONS;
        /** What a parameter can stand for, as bits; and what each token is, the last one standing for nothing. */
        private static final int POINTERS = 1;
        private static final int CLASSES = 2;
        private static final int BASICS = 4;
        private static final int ANYTHING = 15;
        private static final int NOTHING_THERE = 31;
        private static final int[] KINDS = {
            4, 4, 4, 4, 4, 2, 2, 2, 2, 2, 2, 2, 2, 2, 2, 2, 2, 0, 0, 0, 1, 2, 2, 2, 2, 2, 2, 2, 2, 2, 2, 8,
        };

        private final Types types;
        private final Hierarchy hierarchy;
        private int count;
        private final int[] parameters = new int[TEMPLATES];
        private final int[] specialisations = new int[TEMPLATES];
        private final int[] patterns = new int[TEMPLATES * EACH * ROW];
        private final int[] bases = new int[TEMPLATES * (EACH + 1)];
        private final boolean[] isOver = new boolean[TEMPLATES * EACH * EACH];
        /** For each template, and the specialisations that fit and those that may, the bodies that can be, all as bits. */
        private final int[] possible = new int[TEMPLATES * FITTINGS * FITTINGS];
        private final int[] constraintCounts = new int[SETS];
        private final int[] constrained = new int[SETS * MOST_CONSTRAINTS];
        private final char[] letters = new char[SETS * MOST_CONSTRAINTS];
        private final int[] classes = new int[SETS * MOST_CONSTRAINTS];
        /** For each set and parameter, what it can stand for, and the classes of its constraints 'd', as bits. */
        private final int[] allowed = new int[SETS * PARAMETERS];
        private final int[] wanted = new int[SETS * PARAMETERS];
        /** For each number of steps, the classes at which the bases of an instance can end at most, as bits. */
        private final int[] ends = new int[(Look.STEPS + 1) * TEMPLATES];
        /** For each number of steps by which an instance was come to, the classes to which it can lead at most, as bits. */
        private final int[] led = new int[(Look.STEPS + 1) * TEMPLATES];
        /** The classes to which a type can lead at most that begins with a token, as bits. */
        private final int[] reach = new int[NOTHING_THERE + 1];
        /** The classes and templates that can be met by way of an instance, as bits. */
        private final int[] behind = new int[TEMPLATES];
        private int changes;
        private int changesSeen = NONE;

        Templates(Types types, Hierarchy hierarchy) {
            this.types = types;
            this.hierarchy = hierarchy;
            Arrays.fill(allowed, ANYTHING);
        }

        /** The set of constraints of a specialisation. */
        static int place(int template, int specialisation) {
            return template * EACH + specialisation;
        }

        int count() {
            return count;
        }

        int parameters(int template) {
            return parameters[template];
        }

        int specialisations(int template) {
            return specialisations[template];
        }

        int pattern(int template, int specialisation, int at) {
            return patterns[(template * EACH + specialisation) * ROW + at];
        }

        int base(int template, int body) {
            return bases[template * (EACH + 1) + body + 1];
        }

        /** The bodies that can be chosen if some specialisations fit, and others may, all as bits. */
        int possible(int template, int sure, int maybe) {
            return possible[(template * FITTINGS + sure) * FITTINGS + maybe];
        }

        int constraints(int set) {
            return constraintCounts[set];
        }

        /** Whether the constraints of a set hold for what is matched, as far as its kind tells it. */
        int fits(int frame, int set) {
            int fits = Look.YES;
            for (int i = 0; i < PARAMETERS; i++) {
                int place = types.bound[frame * PARAMETERS + i];
                int head = place == NONE ? NOTHING_THERE : types.tokens[place];
                if ((allowed[set * PARAMETERS + i] & KINDS[head]) == 0) return Look.NO;
                int classes = wanted[set * PARAMETERS + i];
                if ((classes & ~reach[head]) != 0) return Look.NO;
                if (classes != 0 && head >= Types.SINGLE) fits = Look.OPEN;
            }
            return fits;
        }

        /** Whether a parameter can stand for what begins so. */
        private boolean suits(int set, int parameter, int head) {
            return (allowed[set * PARAMETERS + parameter] & KINDS[head]) != 0;
        }

        /** The classes to which an instance that was come to by some steps can lead at most, as bits. */
        int led(int template, int step) {
            return led[step * TEMPLATES + template];
        }

        /** The classes to which the type of a parameter must lead, as bits. */
        int wanted(int set, int parameter) {
            return wanted[set * PARAMETERS + parameter];
        }

        /** How often something was changed on which bodies depend. */
        int changes() {
            return changes + hierarchy.changes();
        }

        int put(int howMany) {
            parameters[count] = howMany;
            for (int body = ITSELF; body < EACH; body++) {
                bases[count * (EACH + 1) + body + 1] = NONE;
            }
            compareAll(count);
            return count++;
        }

        int putSpecialisation(int template, int first, int second) {
            int number = specialisations[template]++;
            int row = place(template, number) * ROW;
            patterns[row] = first;
            patterns[row + 1] = second;
            compareAll(template);
            return number;
        }

        int changeBase(int template, int body, int type) {
            int place = template * (EACH + 1) + body + 1;
            int before = bases[place];
            bases[place] = type;
            changes++;
            return before;
        }

        int putConstraint(int set, int parameter, char letter, int cls) {
            int place = set * MOST_CONSTRAINTS + constraintCounts[set];
            constrained[place] = parameter;
            letters[place] = letter;
            // The class of another letter has no meaning, so it must not tell two constraints apart.
            classes[place] = letter == 'd' ? cls : NONE;
            if (letter == 'd') wanted[set * PARAMETERS + parameter] |= 1 << cls;
            allowed[set * PARAMETERS + parameter] &= letter == 'p' ? POINTERS : letter == 'b' ? BASICS : CLASSES;
            return ++constraintCounts[set];
        }

        void compareAll(int template) {
            changes++;
            for (int own = 0; own < specialisations[template]; own++) {
                for (int other = 0; other < specialisations[template]; other++) {
                    int ownPlace = place(template, own);
                    int otherPlace = place(template, other);
                    isOver[ownPlace * EACH + other] = isMoreSpecial(patterns, ownPlace * ROW, otherPlace * ROW,
                            parameters[template], ownPlace, otherPlace);
                }
            }
            for (int maybe = 0; maybe < FITTINGS; maybe++) {
                int one = maybe & -maybe;
                for (int sure = 0; sure < FITTINGS; sure++) {
                    int at = (template * FITTINGS + sure) * FITTINGS;
                    possible[at + maybe] = maybe == 0 ? foundFirst(template, sure)
                            : possible[at + maybe - one] | possible(template, sure | one, maybe - one);
                }
            }
        }

        /** The one that is more special than all others that fit. */
        private int foundFirst(int template, int fitting) {
            for (int own = 0; own < EACH; own++) {
                boolean isFirst = (fitting >> own & 1) == 1;
                for (int other = 0; other < EACH && isFirst; other++) {
                    boolean isRival = other != own && (fitting >> other & 1) == 1;
                    if (isRival && !isOver[place(template, own) * EACH + other]) isFirst = false;
                }
                if (isFirst) return 1 << own;
            }
            return fitting == 0 ? 1 << Instances.ITSELF : 1 << Instances.UNSURE;
        }

        /** Whether one row of patterns, with a set of constraints, is more special than another one. */
        boolean isMoreSpecial(int[] rows, int own, int other, int length, int ownSet, int otherSet) {
            if (!matchesAll(rows, other, own, length)) return false;
            if (!matchesAll(rows, own, other, length)) return true;
            return holdsAllOf(ownSet, otherSet) && !holdsAllOf(otherSet, ownSet);
        }

        private boolean matchesAll(int[] rows, int matching, int matched, int length) {
            types.empty(Types.SPECIAL);
            for (int i = 0; i < length; i++) {
                int place = rows[matched + i] * Types.WIDTH;
                if (!types.matches(Types.SPECIAL, rows[matching + i], NONE, place)) return false;
            }
            return true;
        }

        private boolean holdsAllOf(int set, int other) {
            for (int i = 0; i < constraintCounts[other]; i++) {
                if (!hasConstraint(set, other * MOST_CONSTRAINTS + i)) return false;
            }
            return true;
        }

        private boolean hasConstraint(int set, int place) {
            for (int i = set * MOST_CONSTRAINTS; i < set * MOST_CONSTRAINTS + constraintCounts[set]; i++) {
                boolean isSameLetter = letters[i] == letters[place] && classes[i] == classes[place];
                if (isSameLetter && constrained[i] == constrained[place]) return true;
            }
            return false;
        }

        /** To be called ahead of a question, as templates or classes may have changed. */
        void findEnds() {
            if (changes() == changesSeen) return;
            changesSeen = changes();
            for (int steps = 1; steps <= Look.STEPS; steps++) {
                for (int i = 0; i < count; i++) {
                    int all = 0;
                    for (int body = ITSELF; body < specialisations[i]; body++) {
                        int head = canBeChosen(i, body) ? types.head(base(i, body)) : NONE;
                        if (Types.isClass(head)) all |= 1 << head - Types.CLASS;
                        if (Types.isInstance(head)) all |= ends[(steps - 1) * TEMPLATES + Types.templateOf(head)];
                    }
                    ends[steps * TEMPLATES + i] = all;
                }
            }
            for (int step = 0; step < Look.STEPS; step++) {
                for (int i = 0; i < count; i++) {
                    led[step * TEMPLATES + i] = foundLed(i, step);
                }
            }
            for (int i = 0; i < hierarchy.count(); i++) {
                reach[Types.CLASS + i] = hierarchy.led(i, 0);
            }
            for (int i = 0; i < count; i++) {
                reach[Types.SINGLE + i] = led[i];
                reach[Types.TWOFOLD + i] = led[i];
            }
        }

        private int foundLed(int template, int step) {
            int all = 0;
            for (int next = step + 1; next <= Look.STEPS; next++) {
                for (int cls = 0; cls < hierarchy.count(); cls++) {
                    if ((ends[(next - step) * TEMPLATES + template] >> cls & 1) == 1) all |= hierarchy.led(cls, next);
                }
            }
            return all;
        }

        /** Whether a body can be chosen for any instance. */
        private boolean canBeChosen(int template, int body) {
            if (isNeverFirst(template, body)) return false;
            boolean isPossible = true;
            for (int i = 0; i < PARAMETERS && isPossible && body != ITSELF; i++) {
                int classes = wanted(place(template, body), i);
                isPossible = classes == 0;
                for (int cls = 0; cls < hierarchy.count() && !isPossible; cls++) {
                    isPossible = hierarchy.leads(cls, classes, 0) || hierarchy.leads(cls, classes, 1);
                }
            }
            return isPossible;
        }

        /** Whether a specialisation that always fits stands in the way of a body. */
        private boolean isNeverFirst(int template, int body) {
            for (int i = 0; i < specialisations[template]; i++) {
                boolean isRival = i != body && alwaysFits(template, i);
                if (!isRival) continue;
                if (body == ITSELF || !isOver[place(template, body) * EACH + i]) return true;
            }
            return false;
        }

        private boolean alwaysFits(int template, int specialisation) {
            int first = types.head(pattern(template, specialisation, 0));
            int second = types.head(pattern(template, specialisation, 1));
            boolean isSingle = parameters[template] == 1;
            boolean isAny = Types.isParameter(first) && (isSingle || Types.isParameter(second));
            return isAny && first != second && constraintCounts[place(template, specialisation)] == 0;
        }

        /** Finds what can be met by way of instances, if classes and templates are about, which are told as bits. */
        void lookBehind(int present) {
            int about = present;
            for (int i = 0; i < TEMPLATES * (EACH + 1); i++) {
                for (int template = 0; template < count; template++) {
                    if (isIn(template, about)) about |= contentsOfBases(template, about);
                }
            }
            for (int template = 0; template < count; template++) {
                behind[template] = contentsOfBases(template, about);
            }
            for (int i = 0; i < TEMPLATES; i++) {
                for (int template = 0; template < count; template++) {
                    for (int other = 0; other < count; other++) {
                        if (isIn(other, behind[template])) behind[template] |= behind[other];
                    }
                }
            }
        }

        private static boolean isIn(int template, int contents) {
            return (contents >> Hierarchy.CLASSES + template & 1) == 1;
        }

        /** The classes that can be met by way of the bases of an instance, but for those in it, as bits. */
        int classesBehind(int template) {
            int found = 0;
            for (int cls = 0; cls < hierarchy.count(); cls++) {
                if ((behind[template] >> cls & 1) == 1) found |= hierarchy.allBases(cls);
            }
            return found;
        }

        /** The classes and templates in the bases that a template can have, with these classes and templates about. */
        private int contentsOfBases(int template, int about) {
            int all = 0;
            for (int body = ITSELF; body < specialisations[template]; body++) {
                int base = base(template, body);
                boolean isPossible = base != NONE && canBeChosen(template, body);
                for (int i = 0; i < PARAMETERS && isPossible && body != ITSELF; i++) {
                    isPossible = canHold(place(template, body), i, about);
                }
                if (isPossible) all |= types.contents(base * Types.WIDTH);
            }
            return all;
        }

        /** Whether the constraints of a parameter may hold, with these classes and templates about. */
        private boolean canHold(int set, int parameter, int about) {
            if (canHoldFor(set, parameter, Types.POINTER)) return true;
            if (canHoldFor(set, parameter, Types.TRUTH)) return true;
            for (int i = 0; i < Hierarchy.CLASSES; i++) {
                if ((about >> i & 1) == 1 && canHoldFor(set, parameter, Types.CLASS + i)) return true;
            }
            for (int i = 0; i < count; i++) {
                if (isIn(i, about) && canHoldFor(set, parameter, Types.SINGLE + i)) return true;
            }
            return false;
        }

        private boolean canHoldFor(int set, int parameter, int head) {
            if (!suits(set, parameter, head)) return false;
            int classes = wanted(set, parameter);
            if (classes == 0) return true;
            if (Types.isClass(head)) return hierarchy.leads(head - Types.CLASS, classes, 0);
            if (!Types.isInstance(head)) return false;
            return hierarchy.oneLeads(ends[Look.STEPS * TEMPLATES + Types.templateOf(head)], classes, 1);
        }
    }

    /** The classes with their bases, members and conversions, and what follows from these. */
    private static final class Hierarchy {
        static final int CLASSES = 12;
        static final int EACH = 3;
        static final int TOLD = 2;

        private int count;
        private final int[] namespaces = new int[CLASSES];
        private final int[] baseCounts = new int[CLASSES];
        private final int[] bases = new int[CLASSES * EACH];
        private final boolean[] areVirtual = new boolean[CLASSES * EACH];
        private final int[] memberCounts = new int[CLASSES];
        private final int[] members = new int[CLASSES * EACH];
        private final int[] toldCounts = new int[CLASSES * 2];
        private final int[] told = new int[CLASSES * 2 * TOLD];
        /** For each two classes, the least number of steps to a base, NONE if it is none. */
        private final int[] steps = new int[CLASSES * CLASSES];
        /** For each two classes, the parts to which there is a way without a virtual base. */
        private final int[] innerParts = new int[CLASSES * CLASSES];
        /** For each number of steps by which a class was come to, the classes to which it leads, as bits. */
        private final int[] led = new int[(Look.STEPS + 1) * CLASSES];
        /** The virtual bases of a class in the order in which they are made. */
        private final int[] virtuals = new int[CLASSES * CLASSES];
        private final int[] virtualCounts = new int[CLASSES];
        /** For each two classes, the bodies of one in another one, members counted: as a part, and as a whole. */
        private final long[] partBodies = new long[CLASSES * CLASSES];
        private final long[] wholeBodies = new long[CLASSES * CLASSES];
        /** How many numbers of objects the making of a class takes: as a part, and as a whole. */
        private final long[] partObjects = new long[CLASSES];
        private final long[] wholeObjects = new long[CLASSES];
        private int changes;

        int count() {
            return count;
        }

        int namespace(int cls) {
            return namespaces[cls];
        }

        int bases(int cls) {
            return baseCounts[cls];
        }

        int baseAt(int cls, int at) {
            return bases[cls * EACH + at];
        }

        boolean isVirtualAt(int cls, int at) {
            return areVirtual[cls * EACH + at];
        }

        int members(int cls) {
            return memberCounts[cls];
        }

        int memberAt(int cls, int at) {
            return members[cls * EACH + at];
        }

        int virtuals(int cls) {
            return virtualCounts[cls];
        }

        int virtualAt(int cls, int at) {
            return virtuals[cls * CLASSES + at];
        }

        int steps(int cls, int base) {
            return steps[cls * CLASSES + base];
        }

        boolean isBase(int base, int cls) {
            return steps(cls, base) > 0;
        }

        long partBodies(int cls, int of) {
            return partBodies[cls * CLASSES + of];
        }

        long wholeBodies(int cls, int of) {
            return wholeBodies[cls * CLASSES + of];
        }

        long partObjects(int cls) {
            return partObjects[cls];
        }

        long wholeObjects(int cls) {
            return wholeObjects[cls];
        }

        int put(int namespace) {
            namespaces[count] = namespace;
            count++;
            workOut();
            return count - 1;
        }

        boolean hasOwnBase(int cls, int base) {
            for (int i = 0; i < baseCounts[cls]; i++) {
                if (baseAt(cls, i) == base) return true;
            }
            return false;
        }

        int putBase(int cls, int base, boolean isVirtual) {
            int place = cls * EACH + baseCounts[cls];
            bases[place] = base;
            areVirtual[place] = isVirtual;
            baseCounts[cls]++;
            workOut();
            return baseCounts[cls];
        }

        int putMember(int cls, int member) {
            members[cls * EACH + memberCounts[cls]] = member;
            memberCounts[cls]++;
            workOut();
            return memberCounts[cls];
        }

        int conversions(int cls, boolean isFrom) {
            return toldCounts[cls * 2 + (isFrom ? 1 : 0)];
        }

        int conversionAt(int cls, boolean isFrom, int at) {
            return told[(cls * 2 + (isFrom ? 1 : 0)) * TOLD + at];
        }

        boolean hasConversion(int cls, int type, boolean isFrom) {
            for (int i = 0; i < conversions(cls, isFrom); i++) {
                if (conversionAt(cls, isFrom, i) == type) return true;
            }
            return false;
        }

        int putConversion(int cls, int type, boolean isFrom) {
            int side = cls * 2 + (isFrom ? 1 : 0);
            told[side * TOLD + toldCounts[side]] = type;
            return ++toldCounts[side];
        }

        /** How many parts of a base a class has as a whole object. */
        int parts(int cls, int base) {
            int sum = innerParts[cls * CLASSES + base];
            for (int i = 0; i < virtualCounts[cls]; i++) {
                sum += innerParts[virtualAt(cls, i) * CLASSES + base];
            }
            return sum;
        }

        /** A class and its bases, as bits. */
        int allBases(int cls) {
            int all = 0;
            for (int base = 0; base <= cls; base++) {
                if (steps[cls * CLASSES + base] != NONE) all |= 1 << base;
            }
            return all;
        }

        /** The classes to which a class leads that was come to by some steps, as bits. */
        int led(int cls, int step) {
            return led[step * CLASSES + cls];
        }

        /** Whether a class that was come to by some steps leads to all these classes, which are bits. */
        boolean leads(int cls, int all, int step) {
            return (all & ~led[step * CLASSES + cls]) == 0;
        }

        /** Whether one of some classes, each come to by some steps, leads to all these classes. */
        boolean oneLeads(int some, int all, int step) {
            for (int cls = 0; cls < count; cls++) {
                if ((some >> cls & 1) == 1 && (all & ~led[step * CLASSES + cls]) == 0) return true;
            }
            return false;
        }

        /**
         * The steps to a base from a class that was come to by some steps; NONE if it is no class or no base, SEVERAL if
         * there are several parts of it.
         */
        int stepsFrom(int cls, int base, int step) {
            if (base < 0 || base >= count) return NONE;
            int more = steps[cls * CLASSES + base];
            if (more == NONE) return NONE;
            if ((led[step * CLASSES + cls] >> base & 1) == 1) return step + more;
            return step == 0 ? SEVERAL : NONE;
        }

        private void findLed(int cls) {
            for (int step = 0; step <= Look.STEPS; step++) {
                int all = 0;
                for (int base = 0; base <= cls; base++) {
                    int steps = steps(cls, base);
                    boolean isLed = step == 0 ? parts(cls, base) == 1 : step + steps <= Look.STEPS;
                    if (steps != NONE && isLed) all |= 1 << base;
                }
                led[step * CLASSES + cls] = all;
            }
        }

        long allParts(int cls) {
            long sum = 0;
            for (int base = 0; base < count; base++) {
                sum += parts(cls, base);
            }
            return sum;
        }

        /** How often something of the classes was changed. */
        int changes() {
            return changes;
        }

        /** Bases and members have lower numbers, so that what they need is worked out ahead of what needs them. */
        private void workOut() {
            changes++;
            for (int cls = 0; cls < count; cls++) {
                begin(cls);
                for (int i = 0; i < baseCounts[cls]; i++) {
                    takeBase(cls, baseAt(cls, i), isVirtualAt(cls, i));
                }
                for (int i = 0; i < memberCounts[cls]; i++) {
                    takeMember(cls, memberAt(cls, i));
                }
                finish(cls);
                findLed(cls);
            }
        }

        private void begin(int cls) {
            for (int other = 0; other < CLASSES; other++) {
                boolean isItself = other == cls;
                steps[cls * CLASSES + other] = isItself ? 0 : NONE;
                innerParts[cls * CLASSES + other] = isItself ? 1 : 0;
                partBodies[cls * CLASSES + other] = isItself ? 1 : 0;
            }
            virtualCounts[cls] = 0;
            partObjects[cls] = 0;
        }

        private void takeBase(int cls, int base, boolean isVirtual) {
            for (int other = 0; other <= base; other++) {
                int beyond = steps(base, other);
                int known = steps(cls, other);
                if (beyond != NONE && (known == NONE || known > beyond + 1)) steps[cls * CLASSES + other] = beyond + 1;
                if (!isVirtual) {
                    innerParts[cls * CLASSES + other] += innerParts[base * CLASSES + other];
                    partBodies[cls * CLASSES + other] += partBodies(base, other);
                }
            }
            if (!isVirtual) partObjects[cls] += partObjects[base];
            for (int i = 0; i < virtualCounts[base]; i++) {
                putVirtual(cls, virtualAt(base, i));
            }
            if (isVirtual) putVirtual(cls, base);
        }

        private void putVirtual(int cls, int base) {
            for (int i = 0; i < virtualCounts[cls]; i++) {
                if (virtualAt(cls, i) == base) return;
            }
            virtuals[cls * CLASSES + virtualCounts[cls]] = base;
            virtualCounts[cls]++;
        }

        private void takeMember(int cls, int member) {
            for (int other = 0; other <= member; other++) {
                partBodies[cls * CLASSES + other] += wholeBodies(member, other);
            }
            partObjects[cls] += wholeObjects[member];
        }

        private void finish(int cls) {
            wholeObjects[cls] = 1 + partObjects[cls];
            for (int other = 0; other < CLASSES; other++) {
                wholeBodies[cls * CLASSES + other] = partBodies(cls, other);
            }
            for (int i = 0; i < virtualCounts[cls]; i++) {
                int base = virtualAt(cls, i);
                wholeObjects[cls] += partObjects[base];
                for (int other = 0; other <= base; other++) {
                    wholeBodies[cls * CLASSES + other] += partBodies(base, other);
                }
            }
        }
    }

    /**
     * The instances whose bodies are looked for, each with the bodies that it can have. The body of one can follow from
     * that of another one: then it is bound to this by a map, which tells a body for each body.
     */
    private static final class Instances {
        /** Bodies as codes, behind those of the specialisations. As bits, they are sets. */
        static final int ITSELF = Templates.EACH;
        static final int UNSURE = Templates.EACH + 1;
        static final int BODIES = Templates.EACH + 2;
        static final int ALL = (1 << BODIES) - 1;

        /** A map has three bits for each body; it tells NOWHERE for those that can't be. */
        static final int SAME = 4 << 12 | 5 << 15 | 1 << 3 | 2 << 6 | 3 << 9;
        static final int NOWHERE = 7;
        private static final int CODE = 3;

        /** The row of an instance: the three words of its type, its state, its marks. */
        private static final int STATE = 3;
        private static final int MARKS = 4;
        private static final int ROW = 5;
        /** The state: the bodies, whether one was settled, whether it is bound, to which one, by which map, and more. */
        private static final int SETTLED_AT = 6;
        private static final int BOUND_AT = 7;
        private static final int TO_AT = 8;
        private static final int MAP_AT = 30;
        private static final int STRICT_AT = 48;
        private static final int HELD_AT = 49;
        private static final int DEPTH_AT = 50;
        private static final long DEPTHS = 15L << DEPTH_AT;
        private static final int KEPT_AT = 54;
        private static final long UNKNOWN = ALL | (long) ALL << KEPT_AT;
        private static final int PLACES = (1 << 22) - 1;
        private static final int MAPS = (1 << 18) - 1;
        /** The marks: the walk that came to it, when, whether it has left it, whether that was told earlier; and a place. */
        private static final int TIME_AT = 16;
        private static final int LEFT_AT = 41;
        private static final int LOWERED_AT = 42;
        private static final int PLACE_AT = 43;
        static final int MOST_WALKS = (1 << 16) - 2;
        static final int MOST_TIMES = (1 << 25) - 2;
        private static final int WALKS = (1 << 16) - 1;
        private static final int TIMES = (1 << 25) - 1;

        /** No bounds of the document: those of the room in which the program lives. */
        private static final int FEW = 1 << 9;
        private static final int SPARE = 1 << 8;
        private static final int MORE = 5;
        static final int MOST = 1 << 19;
        private static final int CROWD = MOST - MOST / 4;
        static final int MOST_MEMBERS = 1 << 15;
        private static final int MOST_MET = 1 << 7;
        private static final int MOST_EDGES = 1 << 17;

        /** What is noted of a member: the first of those who depend on it, who is queued at its place, and two truths. */
        private static final int EDGE = 0;
        private static final int QUEUED = 1;
        private static final int NOTED = 2;
        private static final int LINK = 3;
        private static final int IS_QUEUED = 1;
        private static final int IS_LINKED = 2;

        private int count;
        private long[] rows = new long[FEW * ROW];
        /** The instances and 1, each at a place that its words tell, or at the next one that is free. */
        private int[] index = new int[FEW * 2];
        /** The map of the one that was followed last. */
        private int map;
        /** How much is assumed; what is found then is noted with it. */
        private int depth;
        /** Those that were found since this is noted, unless they are too many. */
        private final int[] met = new int[MOST_MET];
        private int metCount;
        /** Those for which bodies are tried, and the guesses on which the bodies of each depend, as bits. */
        private int members;
        private int[] memberRow = new int[0];
        private long[] reasons = new long[0];
        /** Who depends on them, and the queue of those that are to be looked at. */
        private int[] links = new int[0];
        private int[] edges = new int[0];
        private int edgeCount;
        private int queueStart;
        private int queued;

        static boolean isSingle(int set) {
            return (set & set - 1) == 0;
        }

        /** The code of the first body of a set. */
        static int code(int set) {
            int code = 0;
            while (code < UNSURE && (set >> code & 1) == 0) {
                code++;
            }
            return code;
        }

        static int mapped(int map, int code) {
            return map >> code * CODE & NOWHERE;
        }

        /** The bodies that a map tells for a set of bodies. */
        static int image(int map, int set) {
            int all = 0;
            for (int i = 0; i < BODIES; i++) {
                int code = map >> i * CODE & NOWHERE;
                if ((set >> i & 1) == 1 && code != NOWHERE) all |= 1 << code;
            }
            return all;
        }

        /** The bodies for which a map tells one of a set. */
        static int origin(int map, int set) {
            int all = 0;
            for (int i = 0; i < BODIES; i++) {
                int code = map >> i * CODE & NOWHERE;
                if (code != NOWHERE && (set >> code & 1) == 1) all |= 1 << i;
            }
            return all;
        }

        /** The map that tells what one map tells for what another one tells. */
        static int chained(int map, int inner) {
            int all = 0;
            for (int i = 0; i < BODIES; i++) {
                int code = inner >> i * CODE & NOWHERE;
                all |= (code == NOWHERE ? NOWHERE : map >> code * CODE & NOWHERE) << i * CODE;
            }
            return all;
        }

        /** A number that tells a type apart from others. */
        static long mixed(long one, long two, long three) {
            long mixed = one * 0x9E3779B97F4A7C15L;
            mixed = (mixed ^ mixed >>> 29 ^ two) * 0xBF58476D1CE4E5B9L;
            mixed = (mixed ^ mixed >>> 32 ^ three) * 0x94D049BB133111EBL;
            mixed = (mixed ^ mixed >>> 29) * 0x9E3779B97F4A7C15L;
            return mixed ^ mixed >>> 32;
        }

        /** The place of an instance that is told by its words, and by what tells it apart; NONE if it is not there. */
        int find(long one, long two, long three, long mixed) {
            int mask = index.length - 1;
            int at = (int) mixed & mask;
            for (int i = 0; i <= mask && index[at] != 0; i++) {
                int id = index[at] - 1;
                if (rows[id * ROW] == one && rows[id * ROW + 1] == two && rows[id * ROW + 2] == three) {
                    if (metCount < MOST_MET) met[metCount++] = id;
                    return id;
                }
                at = at + 1 & mask;
            }
            return NONE;
        }

        void clearMet() {
            metCount = 0;
        }

        /** Holds all those that were found since clearMet(). */
        void holdMet() {
            for (int i = 0; i < metCount; i++) {
                hold(met[i]);
            }
        }

        /** Puts an instance that is not there yet; NONE if there is no room. */
        int put(long one, long two, long three, int set) {
            int row = count * ROW;
            if (row + ROW > rows.length) return NONE;
            rows[row] = one;
            rows[row + 1] = two;
            rows[row + 2] = three;
            rows[row + STATE] = fresh(depth == 0 ? set : ALL) & ~(long) ALL | set | (long) depth << DEPTH_AT;
            rows[row + MARKS] = 0;
            enter(count, mixed(one, two, three));
            return count++;
        }

        /** The state of an instance of which just its bodies are known. */
        private static long fresh(int set) {
            return set | (long) set << KEPT_AT;
        }

        private void enterAll() {
            for (int i = 0; i < count; i++) {
                enter(i, mixed(rows[i * ROW], rows[i * ROW + 1], rows[i * ROW + 2]));
            }
        }

        private void enter(int id, long mixed) {
            int mask = index.length - 1;
            int at = (int) mixed & mask;
            for (int i = 0; i <= mask && index[at] != 0; i++) {
                at = at + 1 & mask;
            }
            index[at] = id + 1;
        }

        /** Makes room for as many as are put at once. */
        void makeRoom() {
            int most = rows.length / ROW;
            if (count + SPARE <= most || most >= MOST) return;
            int next = Math.min(MOST, most << MORE);
            rows = Arrays.copyOf(rows, next * ROW);
            index = new int[next * 2];
            enterAll();
        }

        /** Whether there may be no room for as many as are put at once. */
        boolean isFull() {
            return count + SPARE > MOST;
        }

        /** Marks an instance, and those to which it is bound, as ones that are not shed. */
        void hold(int id) {
            int at = id;
            for (int i = 0; i < MOST && (rows[at * ROW + STATE] >> HELD_AT & 1) == 0; i++) {
                rows[at * ROW + STATE] |= 1L << HELD_AT;
                if (isBound(at)) at = (int) (rows[at * ROW + STATE] >> TO_AT) & PLACES;
            }
        }

        /** Sheds all instances that are not held. The others get new places, which are told by moved() until remember(). */
        void shed() {
            Arrays.fill(index, NONE);
            int left = 0;
            for (int id = 0; id < count; id++) {
                if ((rows[id * ROW + STATE] >> HELD_AT & 1) == 0) continue;
                index[id] = left;
                for (int i = 0; i < ROW; i++) {
                    rows[left * ROW + i] = rows[id * ROW + i];
                }
                left++;
            }
            count = left;
            for (int id = 0; id < count; id++) {
                long state = rows[id * ROW + STATE] & ~(1L << HELD_AT);
                int to = (int) (state >> TO_AT) & PLACES;
                int next = isBound(id) ? index[to] : NONE;
                if (next != NONE) state = state & ~((long) PLACES << TO_AT) | (long) next << TO_AT;
                rows[id * ROW + STATE] = isBound(id) && next == NONE ? UNKNOWN : state;
            }
        }

        int moved(int id) {
            return index[id];
        }

        /** Lets all instances be found again after they were moved. */
        void remember() {
            Arrays.fill(index, 0);
            enterAll();
        }

        /** Forgets all instances; the last ones first, so that those ahead of them are still found. */
        void forget() {
            int mask = index.length - 1;
            for (int id = count - 1; id >= 0; id--) {
                int row = id * ROW;
                int at = (int) mixed(rows[row], rows[row + 1], rows[row + 2]) & mask;
                for (int i = 0; i <= mask && index[at] != id + 1; i++) {
                    at = at + 1 & mask;
                }
                index[at] = 0;
            }
            count = 0;
            members = 0;
            depth = 0;
        }

        int count() {
            return count;
        }

        boolean isCrowded() {
            return count > CROWD;
        }

        long word(int id, int at) {
            return rows[id * ROW + at];
        }

        // ---- what is known

        int set(int id) {
            return (int) rows[id * ROW + STATE] & ALL;
        }

        /** Lets an instance have fewer bodies. If something is assumed, those that it had without that are kept, too. */
        void putSet(int id, int set) {
            int at = id * ROW + STATE;
            long kept = depth == 0 ? (long) set << KEPT_AT : rows[at] & (long) ALL << KEPT_AT;
            if (set == ((int) rows[at] & ALL)) return;
            rows[at] = rows[at] & ~(ALL | DEPTHS | (long) ALL << KEPT_AT) | set | (long) depth << DEPTH_AT | kept;
        }

        /** Lets an instance have a body whether this follows from others or not. */
        void settle(int id, int set) {
            long kept = depth == 0 ? (long) set << KEPT_AT : rows[id * ROW + STATE] & (long) ALL << KEPT_AT;
            rows[id * ROW + STATE] = set | 1L << SETTLED_AT | (long) depth << DEPTH_AT | kept;
        }

        void putDepth(int depth) {
            this.depth = depth;
        }

        /** Forgets what depends on what was assumed last; those can be come to again that were come to from a time on. */
        void forgetAssumed(int walk, int time, int next) {
            for (int id = 0; id < count; id++) {
                long state = rows[id * ROW + STATE];
                if ((state & DEPTHS) == (long) depth << DEPTH_AT) rows[id * ROW + STATE] = fresh((int) (state >> KEPT_AT) & ALL);
                if (walk(id) == walk && time(id) >= time) rows[id * ROW + MARKS] = next;
            }
        }

        boolean isSettled(int id) {
            return (rows[id * ROW + STATE] >> SETTLED_AT & 1) == 1;
        }

        /** Notes that an instance may have no body for some bodies of others. */
        void restrict(int id) {
            rows[id * ROW + STATE] |= 1L << STRICT_AT;
        }

        boolean isStrict(int id) {
            return (rows[id * ROW + STATE] >> STRICT_AT & 1) == 1;
        }

        boolean isBound(int id) {
            return (rows[id * ROW + STATE] >> BOUND_AT & 1) == 1;
        }

        void bind(int id, int to, int map) {
            long bound = 1L << BOUND_AT | (long) depth << DEPTH_AT | rows[id * ROW + STATE] & (long) ALL << KEPT_AT;
            rows[id * ROW + STATE] = bound | (long) to << TO_AT | (long) map << MAP_AT;
        }

        /** The one to which an instance is bound by one or more maps, or itself; how is told by map(). */
        int follow(int id) {
            int at = id;
            int all = SAME;
            int hops = 0;
            long state = rows[id * ROW + STATE];
            for (; hops < MOST && (state >> BOUND_AT & 1) == 1; hops++) {
                int next = 0;
                for (int i = 0; i < BODIES; i++) {
                    int code = (int) (state >> MAP_AT + i * CODE) & NOWHERE;
                    next |= (code == NOWHERE ? NOWHERE : all >> code * CODE & NOWHERE) << i * CODE;
                }
                all = next;
                at = (int) (state >> TO_AT) & PLACES;
                state = rows[at * ROW + STATE];
            }
            boolean isTold = (state >> SETTLED_AT & 1) == 0;
            for (int i = 0; i < BODIES && !isTold; i++) {
                isTold = (state >> i & 1) == 1 && (all >> i * CODE & NOWHERE) != NOWHERE;
            }
            if (!isTold) {
                // The other one was settled otherwise than by what it was bound with.
                rows[id * ROW + STATE] = UNKNOWN;
                all = SAME;
                at = id;
            }
            if (isTold && hops > 1 && depth == 0) {
                rows[id * ROW + STATE] = 1L << BOUND_AT | (long) at << TO_AT | (long) all << MAP_AT;
            }
            map = all;
            return at;
        }

        int map() {
            return map;
        }

        /** The bodies that an instance can have, by way of the one to which it is bound. */
        int whole(int id) {
            int at = follow(id);
            return image(map, set(at));
        }

        // ---- marks

        void come(int id, int walk, int time, int place) {
            rows[id * ROW + MARKS] = walk | (long) time << TIME_AT | (long) place << PLACE_AT;
        }

        int walk(int id) {
            return (int) rows[id * ROW + MARKS] & WALKS;
        }

        int time(int id) {
            return (int) (rows[id * ROW + MARKS] >> TIME_AT) & TIMES;
        }

        /** Lets an instance have been come to earlier, as one that was come to then depends on it. */
        void lower(int id, int time) {
            int at = id * ROW + MARKS;
            rows[at] = rows[at] & ~((long) TIMES << TIME_AT) | (long) time << TIME_AT | 1L << LOWERED_AT;
        }

        boolean isLowered(int id) {
            return (rows[id * ROW + MARKS] >> LOWERED_AT & 1) == 1;
        }

        boolean isLeft(int id) {
            return (rows[id * ROW + MARKS] >> LEFT_AT & 1) == 1;
        }

        void leave(int id) {
            rows[id * ROW + MARKS] |= 1L << LEFT_AT;
        }

        int place(int id) {
            return (int) (rows[id * ROW + MARKS] >> PLACE_AT);
        }

        // ---- members

        int members() {
            return members;
        }

        int member(int at) {
            return memberRow[at];
        }

        void clearMembers() {
            members = 0;
        }

        /** Takes an instance among the members, unless there is no room. */
        boolean takes(int id) {
            if (members >= MOST_MEMBERS) return false;
            if (members == memberRow.length) {
                memberRow = Arrays.copyOf(memberRow, Math.min(MOST_MEMBERS, Math.max(FEW, members << MORE)));
                reasons = Arrays.copyOf(reasons, memberRow.length);
                links = new int[memberRow.length * LINK];
            }
            int at = id * ROW + MARKS;
            rows[at] = rows[at] & (1L << PLACE_AT) - 1 | (long) members << PLACE_AT;
            memberRow[members] = id;
            reasons[members++] = 0;
            return true;
        }

        boolean isMember(int id) {
            int place = place(id);
            return place < members && memberRow[place] == id;
        }

        /** Queues all members, of none of whom is known who depends on them. */
        void queueAll() {
            edgeCount = 0;
            queueStart = 0;
            queued = members;
            for (int i = 0; i < members; i++) {
                links[i * LINK + EDGE] = NONE;
                links[i * LINK + QUEUED] = i;
                links[i * LINK + NOTED] = IS_QUEUED;
            }
        }

        void queue(int place) {
            if ((links[place * LINK + NOTED] & IS_QUEUED) != 0) return;
            links[place * LINK + NOTED] |= IS_QUEUED;
            int end = queueStart + queued;
            if (end >= members) end -= members;
            links[end * LINK + QUEUED] = place;
            queued++;
        }

        /** Queues a member and those who depend on it. */
        void queueFrom(int id) {
            int place = place(id);
            queue(place);
            int edge = links[place * LINK + EDGE];
            for (int i = 0; i < edgeCount && edge != NONE; i++) {
                queue(edges[edge * 2]);
                edge = edges[edge * 2 + 1];
            }
        }

        /** The place of the next member of the queue, who leaves it; NONE if there is none. */
        int nextQueued() {
            if (queued == 0) return NONE;
            int place = links[queueStart * LINK + QUEUED];
            queueStart = queueStart + 1 == members ? 0 : queueStart + 1;
            queued--;
            links[place * LINK + NOTED] &= ~IS_QUEUED;
            return place;
        }

        /** Whether it is noted on whom a member depends; it is from now on. */
        boolean isLinked(int place) {
            boolean isLinked = (links[place * LINK + NOTED] & IS_LINKED) != 0;
            links[place * LINK + NOTED] |= IS_LINKED;
            return isLinked;
        }

        /** Notes that a member depends on another one. */
        void link(int place, int other) {
            if (!isMember(other) || edgeCount == MOST_EDGES) return;
            if ((edgeCount + 1) * 2 > edges.length) {
                edges = Arrays.copyOf(edges, Math.max(FEW, Math.min(MOST_EDGES * 2, edges.length << MORE)));
            }
            int at = place(other) * LINK + EDGE;
            edges[edgeCount * 2] = place;
            edges[edgeCount * 2 + 1] = links[at];
            links[at] = edgeCount++;
        }

        /** The guesses on which the body of an instance depends, as bits. */
        long reasons(int id) {
            int place = (int) (rows[id * ROW + MARKS] >> PLACE_AT);
            return place < members && memberRow[place] == id ? reasons[place] : 0;
        }

        /** The same for one that is a member. */
        void putReasons(int id, long guesses) {
            reasons[(int) (rows[id * ROW + MARKS] >> PLACE_AT)] = guesses;
        }
    }

    /**
     * Those for whom a body is supposed, and which one. The first of them is the instance that is looked at. All that can
     * be supposed comes in turn: what was supposed last changes first.
     */
    private static final class Supposals {
        static final int MOST = 40;
        private static final int WORDS = 6;
        /** Where the words of the instance are whose body was asked for, while another one decides on that. */
        private static final int ASKED = 3;
        /** The row of one: its place among the instances or NONE, its bodies, and that which is supposed, or NONE. */
        private static final int SET = 1;
        private static final int SUPPOSED = 2;
        private static final int ROW = 3;

        private final long[] words = new long[MOST * WORDS];
        private final int[] rows = new int[MOST * ROW];
        private int count;
        /** For whom something is supposed, in this order, and what is left to suppose. */
        private final int[] order = new int[MOST * 2];
        private int supposed;
        /** Whether there were too many. */
        private boolean isOver;

        int count() {
            return count;
        }

        int id(int at) {
            return rows[at * ROW];
        }

        int set(int at) {
            return rows[at * ROW + SET];
        }

        /** What is supposed, NONE for nothing. */
        int body(int at) {
            return rows[at * ROW + SUPPOSED];
        }

        long word(int at, int word) {
            return words[at * WORDS + word];
        }

        /** A word of the instance for whose body one was put. */
        long askedWord(int at, int word) {
            return words[at * WORDS + ASKED + word];
        }

        /** Notes for whose body one was put. */
        void putAsked(int at, long one, long two, long three) {
            words[at * WORDS + ASKED] = one;
            words[at * WORDS + ASKED + 1] = two;
            words[at * WORDS + ASKED + 2] = three;
        }

        boolean isOver() {
            return isOver;
        }

        void setOver() {
            isOver = true;
        }

        /** Lets the first one be an instance that is told by its words. */
        void putFirst(long one, long two, long three, int id) {
            words[0] = one;
            words[1] = two;
            words[2] = three;
            rows[0] = id;
        }

        /** Forgets all but so many of them, and what is supposed. */
        void clear(int left) {
            count = left;
            supposed = 0;
            isOver = false;
            for (int i = 0; i < left; i++) {
                rows[i * ROW + SUPPOSED] = NONE;
            }
        }

        /** Drops those behind the first ones, for whom nothing is supposed yet. */
        void drop(int left) {
            count = left;
        }

        /** The place of one here, who is put if need be; NONE if there are too many. */
        int place(long one, long two, long three, int id, int set) {
            int place = NONE;
            for (int i = 0; i < count && place == NONE; i++) {
                int at = i * WORDS;
                if (words[at] == one && words[at + 1] == two && words[at + 2] == three) place = i;
            }
            if (place == NONE && count == MOST) return NONE;
            if (place == NONE) {
                place = count++;
                words[place * WORDS] = one;
                words[place * WORDS + 1] = two;
                words[place * WORDS + 2] = three;
                rows[place * ROW] = id;
                rows[place * ROW + SUPPOSED] = NONE;
            }
            rows[place * ROW + SET] = set;
            return place;
        }

        /** The body that is supposed for one, the first that there is if there is none yet. */
        int bodyOf(int at) {
            if (at == NONE) {
                isOver = true;
                return Instances.UNSURE;
            }
            int row = at * ROW;
            if (rows[row + SUPPOSED] == NONE) {
                rows[row + SUPPOSED] = Instances.code(rows[row + SET]);
                order[supposed * 2] = at;
                order[supposed * 2 + 1] = rows[row + SET] & rows[row + SET] - 1;
                supposed++;
            }
            return rows[row + SUPPOSED];
        }

        /** Goes on to suppose something else; false if there is nothing else. */
        boolean advances() {
            while (supposed > 0 && !isOver) {
                int at = (supposed - 1) * 2;
                int row = order[at] * ROW;
                int left = order[at + 1];
                if (left != 0) {
                    rows[row + SUPPOSED] = Instances.code(left);
                    order[at + 1] = left & left - 1;
                    return true;
                }
                rows[row + SUPPOSED] = NONE;
                supposed--;
            }
            return false;
        }
    }

    /**
     * Looks at instances: which bodies one can have, for what is known of others, and on whose bodies this depends. Where
     * one of these is not known, each one that can be is supposed, one after another.
     */
    private static final class Look {
        static final int STEPS = 6;
        /** Whether a constraint holds. */
        static final int NO = 0;
        static final int YES = 1;
        static final int OPEN = 2;
        private static final int OPEN_STEPS = -3;
        private static final int PATHS = 1 << 18;

        /** How often bodies are supposed; what needs more must be found in parts. */
        private static final int RUNS = 1 << 10;
        static final int MOST_OPEN = Templates.EACH * PARAMETERS;
        /**
         * A constraint that is open: the specialisation, the classes to which a type must lead, the place of the one on the
         * way whose body is not known, how many steps there are to it, for whom something is supposed there, and how that
         * tells its body.
         */
        private static final int CLASSES = 1;
        private static final int PLACE = 2;
        private static final int STEP = 3;
        private static final int OTHER = 4;
        private static final int MAP = 5;
        private static final int ASKED = 6;
        /** A body as a set, once for each body that can be supposed of another one. */
        private static final long FOR_ALL = 1 | 1 << 6 | 1 << 12 | 1 << 18 | 1 << 24 | 1L << 30;

        private final Types types;
        private final Hierarchy hierarchy;
        private final Templates templates;
        private final Instances instances;
        private final Supposals supposals = new Supposals();
        private boolean doesSuppose;
        private boolean isCareful;
        private final int[] asked = new int[MOST_OPEN * ASKED];
        private int open;
        /** Where it was not known to what a type leads. */
        private int reached;
        private int reachedStep;
        /** The instances on a way to bases, each with the bodies that are left to go by. */
        private final int[] way = new int[(STEPS + 1) * 2];
        /** What was found of the one that was looked at: its bodies; for each body of the only other one, its own ones. */
        private int template;
        private int sure;
        private int set;
        private long byOther;
        private boolean isStrict;
        private long reasons;
        private int looks;
        /** On whose bodies those depend that were asked for last: its place or NONE, its bodies, and how. */
        private int decider;
        private int deciding;
        private int map;

        Look(Types types, Hierarchy hierarchy, Templates templates, Instances instances) {
            this.types = types;
            this.hierarchy = hierarchy;
            this.templates = templates;
            this.instances = instances;
        }

        /** How often was looked since it is counted. */
        int looks() {
            return looks;
        }

        void count() {
            looks = 0;
        }

        /** The bodies that the one that was looked at can have. */
        int set() {
            return set;
        }

        long reasons() {
            return reasons;
        }

        /** Whether too much had to be supposed, so that something may be missing. */
        boolean isOver() {
            return supposals.isOver();
        }

        /** Whether the one that was looked at has no body for something that was supposed of others. */
        boolean isStrict() {
            return isStrict && supposals.count() > 1 && !supposals.isOver();
        }

        /** Those for whom something was supposed; the first one is that which was looked at. */
        Supposals supposals() {
            return supposals;
        }

        /** The body that the one that was looked at has if no open constraint holds. */
        int leastBody() {
            return templates.possible(template, sure, 0);
        }

        /** How the one that was looked at follows from the only other one, as a map; NONE if it does not. */
        int mapFromOther() {
            if (supposals.count() != 2 || supposals.isOver()) return NONE;
            int map = 0;
            for (int i = 0; i < Instances.BODIES; i++) {
                int own = (int) (byOther >> i * Instances.BODIES) & Instances.ALL;
                boolean isThere = (supposals.set(1) >> i & 1) == 1;
                if (isThere && (own == 0 || !Instances.isSingle(own))) return NONE;
                map |= (isThere ? Instances.code(own) : Instances.NOWHERE) << i * 3;
            }
            return map;
        }

        /** Begins a question about several instances; a careful one supposes nothing where it does not matter. */
        void begin(boolean isCareful) {
            templates.findEnds();
            aim(NONE, NONE, NONE, NONE);
            supposals.clear(1);
            doesSuppose = true;
            this.isCareful = isCareful;
        }

        boolean advances() {
            return supposals.advances();
        }

        void aim(long one, long two, long three, int id) {
            supposals.putFirst(one, two, three, id);
        }

        void aimAt(int id) {
            aim(instances.word(id, 0), instances.word(id, 1), instances.word(id, 2), id);
        }

        /** Aims at the only other one for whom something was supposed. */
        void aimAtOther() {
            aim(supposals.word(1, 0), supposals.word(1, 1), supposals.word(1, 2), supposals.id(1));
        }

        /** Looks at the one at which it is aimed; once more with care if too much is to be supposed. */
        void look() {
            looks++;
            types.unpack(supposals.word(0, 0), supposals.word(0, 1), supposals.word(0, 2), Types.OWN);
            int own = Types.OWN * Types.WIDTH;
            template = Types.templateOf(types.tokens[own]);
            instances.clearMet();
            supposals.setOver();
            for (int turn = 0; turn < 2 && supposals.isOver(); turn++) {
                supposals.clear(1);
                reasons = 0;
                isCareful = turn > 0;
                doesSuppose = false;
                isStrict = false;
                open = 0;
                sure = 0;
                int maybe = 0;
                int rest = (1 << templates.specialisations(template)) - 1;
                set = templates.possible(template, sure, rest);
                for (int i = 0; i < templates.specialisations(template) && !Instances.isSingle(set); i++) {
                    rest &= ~(1 << i);
                    int fits = fitsOwn(i, own);
                    if (fits == YES) sure |= 1 << i;
                    if (fits == OPEN) maybe |= 1 << i;
                    set = templates.possible(template, sure, maybe | rest);
                }
                if (!Instances.isSingle(set)) suppose(maybe);
            }
        }

        /** Whether a specialisation fits the one that is looked at, for what is known; what is open is noted. */
        private int fitsOwn(int specialisation, int own) {
            int pattern = templates.pattern(template, specialisation, 0);
            int second = templates.pattern(template, specialisation, 1);
            types.empty(Types.FITTING);
            if (!types.matches(Types.FITTING, pattern, second, own + 1)) return NO;
            int constraints = Templates.place(template, specialisation);
            int fits = templates.fits(Types.FITTING, constraints);
            if (fits != OPEN) return fits;
            int before = open;
            int countBefore = supposals.count();
            for (int i = 0; i < PARAMETERS; i++) {
                int classes = templates.wanted(constraints, i);
                if (classes == 0) continue;
                int place = types.bound[Types.FITTING * PARAMETERS + i];
                int leads = isCareful ? byAll(place, classes, NONE) : leads(place, 0, classes);
                if (leads == NO) {
                    open = before;
                    supposals.drop(countBefore);
                    return NO;
                }
                if (leads == OPEN && isCareful) leads(place, 0, classes);
                if (leads == OPEN) noteOpen(specialisation, classes);
            }
            return open == before ? YES : OPEN;
        }

        private void noteOpen(int specialisation, int classes) {
            int row = open * ASKED;
            asked[row] = specialisation;
            asked[row + CLASSES] = classes;
            asked[row + STEP] = reachedStep;
            asked[row + OTHER] = placeOfDecider();
            asked[row + MAP] = map;
            asked[row + PLACE] = reached;
            if (reachedStep > 0) {
                // What is asked next writes its bases to the same rows.
                types.copyRow(reached, Types.OPENED + open);
                asked[row + PLACE] = (Types.OPENED + open) * Types.WIDTH;
            }
            open++;
        }

        /** Finds the bodies by supposing, one after another, all bodies of those on which they depend. */
        private void suppose(int maybe) {
            doesSuppose = true;
            byOther = 0;
            int all = 0;
            boolean goesOn = true;
            for (int run = 0; run < RUNS && goesOn; run++) {
                int fitting = sure;
                int rest = maybe;
                int possible = Instances.ALL;
                boolean holds = true;
                for (int i = 0; i < open && !Instances.isSingle(possible); i++) {
                    int row = i * ASKED;
                    if (holds) {
                        int body = Instances.mapped(asked[row + MAP], supposals.bodyOf(asked[row + OTHER]));
                        int at = baseAt(asked[row + PLACE], body, Types.CHAIN + asked[row + STEP]);
                        holds = at != NONE && leads(at, asked[row + STEP] + 1, asked[row + CLASSES]) == YES;
                    }
                    if (i + 1 < open && asked[row + ASKED] == asked[row]) continue;
                    rest &= ~(1 << asked[row]);
                    if (holds) fitting |= 1 << asked[row];
                    possible = templates.possible(template, fitting, rest);
                    holds = true;
                }
                int own = supposals.body(0);
                if (own == NONE || (possible >> own & 1) == 1) {
                    all |= possible;
                    noteByOther(possible);
                } else {
                    isStrict = true;
                }
                goesOn = supposals.advances();
            }
            if (goesOn) supposals.setOver();
            if (!supposals.isOver()) set = all;
        }

        /** Notes which body follows from what is supposed of the only other one. */
        private void noteByOther(int possible) {
            int other = supposals.count() > 1 ? supposals.body(1) : NONE;
            byOther |= other == NONE ? FOR_ALL * possible : (long) possible << other * Instances.BODIES;
        }

        /**
         * Whether a type that was come to by some steps leads to all these classes, which are bits; OPEN if it is not known
         * and nothing is supposed.
         */
        int leads(int type, int steps, int classes) {
            int at = type;
            for (int step = steps; step <= STEPS; step++) {
                int head = types.tokens[at];
                if (Types.isClass(head)) return hierarchy.leads(head - Types.CLASS, classes, step) ? YES : NO;
                if (!Types.isInstance(head) || step == STEPS) return NO;
                if ((classes & ~templates.led(Types.templateOf(head), step)) != 0) return NO;
                int bodies = setAt(at);
                if (!Instances.isSingle(bodies) && !doesSuppose) {
                    reached = at;
                    reachedStep = step;
                    return OPEN;
                }
                boolean isKnown = Instances.isSingle(bodies);
                int body = isKnown ? Instances.code(bodies) : supposals.bodyOf(placeOfDecider());
                if (!isKnown) body = Instances.mapped(map, body);
                at = baseAt(at, body, Types.CHAIN + step);
                if (at == NONE) return NO;
            }
            return NO;
        }

        /**
         * The steps from a type to a base, 0 to itself; NONE if it is no base, SEVERAL if there are several parts. For that
         * something is supposed.
         */
        int steps(int type, int target) {
            int all = isCareful ? byAll(type, 0, target) : OPEN_STEPS;
            if (all != OPEN_STEPS) return all;
            int at = type;
            int aim = types.tokens[target];
            for (int step = 0; step <= STEPS && at != NONE; step++) {
                if (types.isSame(at, target)) return step;
                int head = types.tokens[at];
                if (Types.isClass(head)) return hierarchy.stepsFrom(head - Types.CLASS, aim - Types.CLASS, step);
                if (!Types.isInstance(head) || step == STEPS) return NONE;
                boolean mayLead = !Types.isClass(aim)
                        || (templates.led(Types.templateOf(head), step) >> aim - Types.CLASS & 1) == 1;
                if (!mayLead) return NONE;
                at = baseAt(at, supposedOf(setAt(at)), Types.CHAIN + step);
            }
            return NONE;
        }

        /** Whether the constraints of a set hold for what is matched; for that something is supposed. */
        boolean areMet(int frame, int constraints) {
            if (templates.fits(frame, constraints) == NO) return false;
            for (int i = 0; i < PARAMETERS; i++) {
                int classes = templates.wanted(constraints, i);
                int place = types.bound[frame * PARAMETERS + i];
                if (classes == 0) continue;
                int leads = isCareful ? byAll(place, classes, NONE) : OPEN;
                if (leads == OPEN) leads = leads(place, 0, classes);
                if (leads != YES) return false;
            }
            return true;
        }

        /**
         * Whether a type leads to some classes, or how many steps there are to a target, if it is the same by all bases that
         * instances may have; otherwise OPEN, or OPEN_STEPS.
         */
        private int byAll(int type, int classes, int target) {
            int open = target == NONE ? OPEN : OPEN_STEPS;
            int found = open;
            int step = 0;
            way[0] = type;
            way[1] = Types.isInstance(types.tokens[type]) ? setAt(type) : 0;
            if (way[1] == 0 || target != NONE && types.isSame(type, target)) return open;
            for (int i = 0; i < PATHS && step >= 0; i++) {
                int left = way[step * 2 + 1];
                if (left == 0) {
                    step--;
                    continue;
                }
                way[step * 2 + 1] = left & left - 1;
                int base = baseAt(way[step * 2], Instances.code(left), Types.CHAIN + step);
                boolean isInstance = base != NONE && Types.isInstance(types.tokens[base]) && step + 1 < STEPS;
                boolean isThere = base != NONE && target != NONE && types.isSame(base, target);
                if (isInstance && !isThere) {
                    step++;
                    way[step * 2] = base;
                    way[step * 2 + 1] = setAt(base);
                    continue;
                }
                int leads = base == NONE ? target == NONE ? NO : NONE : endOf(base, step + 1, classes, target);
                if (found != open && leads != found) return open;
                found = leads;
            }
            return step < 0 ? found : open;
        }

        private int endOf(int type, int step, int classes, int target) {
            int head = types.tokens[type];
            if (target != NONE) {
                if (types.isSame(type, target)) return step;
                int base = types.tokens[target] - Types.CLASS;
                return Types.isClass(head) ? hierarchy.stepsFrom(head - Types.CLASS, base, step) : NONE;
            }
            return Types.isClass(head) && hierarchy.leads(head - Types.CLASS, classes, step) ? YES : NO;
        }

        /** The bodies that an instance at a place can have, for what is known. */
        int setAt(int place) {
            int template = Types.templateOf(types.tokens[place]);
            int sure = 0;
            int maybe = 0;
            for (int i = 0; i < templates.specialisations(template); i++) {
                int second = templates.pattern(template, i, 1);
                types.empty(Types.PART);
                if (!types.matches(Types.PART, templates.pattern(template, i, 0), second, place + 1)) continue;
                int fits = templates.fits(Types.PART, Templates.place(template, i));
                if (fits == YES) sure |= 1 << i;
                if (fits == OPEN) maybe |= 1 << i;
            }
            int all = templates.possible(template, sure, maybe);
            decider = NONE;
            map = Instances.SAME;
            deciding = all;
            if (Instances.isSingle(all)) return all;
            types.pack(place);
            long mixed = Instances.mixed(types.first, types.second, types.third);
            int id = instances.find(types.first, types.second, types.third, mixed);
            if (id == NONE) return all;
            decider = instances.follow(id);
            map = instances.map();
            reasons |= instances.reasons(decider);
            deciding = instances.set(decider);
            if (decider != id) deciding &= Instances.origin(map, Instances.ALL);
            else if (!instances.isSettled(id)) deciding &= all;
            return Instances.image(map, deciding);
        }

        /** On whose body that depends which was asked for last; NONE if it is not among the instances. */
        int decider() {
            return decider;
        }

        int deciding() {
            return deciding;
        }

        /** The body of the instance whose bodies were asked for last: the only one, or that which is supposed. */
        int supposedOf(int bodies) {
            if (Instances.isSingle(bodies)) return Instances.code(bodies);
            return Instances.mapped(map, supposals.bodyOf(placeOfDecider()));
        }

        /** The place among those for whom something is supposed of that on whose bodies those depend which were asked for. */
        private int placeOfDecider() {
            boolean isKept = decider != NONE;
            long one = isKept ? instances.word(decider, 0) : types.first;
            long two = isKept ? instances.word(decider, 1) : types.second;
            long three = isKept ? instances.word(decider, 2) : types.third;
            int before = supposals.count();
            int place = supposals.place(one, two, three, decider, deciding);
            if (place == before) supposals.putAsked(place, types.first, types.second, types.third);
            return place;
        }

        /** The base of an instance with a body, written into a row; NONE if it has none. */
        int baseAt(int place, int body, int row) {
            int template = Types.templateOf(types.tokens[place]);
            boolean isItself = body == Instances.ITSELF;
            int told = body >= Instances.UNSURE ? NONE : templates.base(template, isItself ? Templates.ITSELF : body);
            if (told == NONE) return NONE;
            types.empty(Types.OF_BASE);
            if (isItself) {
                boolean isTwofold = types.tokens[place] >= Types.TWOFOLD;
                types.bound[Types.OF_BASE * PARAMETERS] = place + 1;
                types.bound[Types.OF_BASE * PARAMETERS + 1] = isTwofold ? types.ends[place + 1] : NONE;
            } else {
                int second = templates.pattern(template, body, 1);
                int pattern = templates.pattern(template, body, 0);
                if (!types.matches(Types.OF_BASE, pattern, second, place + 1)) return NONE;
            }
            return types.builds(Types.OF_BASE, told, row) ? row * Types.WIDTH : NONE;
        }

        /** What is asked of an instance, or of two types, for what is supposed; a base by what tells it apart. */
        long outcome(int kind, int type, int other) {
            int place = type * Types.WIDTH;
            if (kind == DISTANCE) return steps(place, other * Types.WIDTH);
            int body = supposedOf(setAt(place));
            if (kind == BODY) return body;
            int base = baseAt(place, body, Types.OTHER);
            if (base == NONE) return NOTHING;
            types.pack(base);
            return Instances.mixed(types.first, types.second, types.third) >>> 1;
        }
    }

    /**
     * Finds the bodies of instances. It goes from one to those on which its body depends, and finds these first; those that
     * ask for one another are told apart as they are left, and given to Ways. As it may be very far to what decides, it goes
     * only so far at a level: on from the first one that is open, then near by, then on from the last one.
     */
    private static final class Descent {
        static final int LEVELS = 6;
        private static final int LOOKS = 1 << 8;
        private static final int FARTHER = 3;
        /** How far it goes forward at last. */
        private static final int MOST_LOOKS = 1 << 25;

        /** What is done next; the first ones begin with a look. */
        private static final int DESCEND = 0;
        private static final int RUN_ON = 1;
        private static final int HOLD = 2;
        private static final int GATHER = 3;
        private static final int TRY = 4;
        private static final int GO_ON = 5;
        private static final int END_WALK = 6;
        private static final int START_GATHERING = 7;
        private static final int GATHER_ON = 8;
        private static final int END_GATHERING = 9;
        private static final int START_TRY = 10;
        private static final int END_TRY = 11;
        private static final int ASSUME = 12;
        private static final int DONE = 13;

        /** What is done at a level, one after another. */
        private static final int FORWARD = 0;
        private static final int NEAR = 1;
        private static final int WITHIN = 2;
        private static final int ALL = 3;
        private static final int NARROW = 4;
        private static final int WIDE = 5;
        private static final int BACKWARD = 6;
        private static final int WIDEST = 7;
        private static final int WIDER = 8;
        private static final int FIRST = 9;
        private static final int ALONE = 10;
        private static final int FIRST_ALONE = 11;

        /**
         * What is assumed of one of a circle that is too large: where it is on the path, how many were left in circles ahead
         * of it, when it was come to; its bodies, those that are left to assume, that which is assumed, and those that go.
         */
        private static final int HEIGHT = 0;
        private static final int STACKED = 1;
        private static final int TIME = 2;
        private static final int BODIES = 3;
        private static final int LEFT = 4;
        private static final int ASSUMED = 5;
        private static final int GOING = 6;
        private static final int ROW = 7;
        private static final int MOST_ASSUMED = 12;

        /** Where there are more instances than these, only some of a long line of them are kept. */
        private static final int DENSE = Instances.MOST / 4;
        private static final int RUN = 64;
        private static final int MOST_NEAR = 1 << 17;
        private static final int MOST_TRIED = 1 << 21;
        private static final int FEW = 1 << 6;
        private static final int MORE = 5;
        private static final int MOST = 1 << 28;

        private final Types types;
        private final Instances instances;
        private final Look look;
        private final Ways ways;
        private int phase;
        private int plan;
        private int goal;
        private int level;
        private int limit;
        /** The walk that goes on, and the one that gathered those within which it is to stay. */
        private int walk;
        private int gathering;
        private int time;
        /** From the first place on, those from whom it goes on, or those gathered; from the last one, those left in circles. */
        private int[] path = new int[FEW];
        private int height;
        private int stacked;
        /** How many of the path were looked at in their turn. */
        private int seen;
        /** Whether something was left out, there was a choice where to go on, and nothing more can be shed. */
        private boolean isCut;
        private boolean isForked;
        private boolean isPacked;
        /** How many in a line were not kept, and what follows for the last one that was kept. */
        private int run;
        private int runMap;
        private final int[] assumed = new int[MOST_ASSUMED * ROW];
        private int depth;

        Descent(Types types, Instances instances, Look look) {
            this.types = types;
            this.instances = instances;
            this.look = look;
            ways = new Ways(types, instances, look);
        }

        int looks() {
            return look.looks();
        }

        /** Begins to find bodies for a question. */
        void begin() {
            instances.forget();
            look.count();
        }

        /** Finds the body of an instance if a level is enough for that, and tells whether it is. */
        boolean finds(long one, long two, long three, int level) {
            if (instances.isCrowded() || walk > Instances.MOST_WALKS - FEW) {
                instances.forget();
                walk = 0;
            }
            instances.makeRoom();
            goal = instances.find(one, two, three, Instances.mixed(one, two, three));
            if (goal == NONE) goal = instances.put(one, two, three, Instances.ALL);
            if (goal == NONE) return false;
            this.level = level;
            startWalk(FORWARD);
            for (int i = 0; i < MOST && phase != DONE; i++) {
                if (phase < TRY || phase == TRY && ways.aims()) look.look();
                switch (phase) {
                    case DESCEND: descend(); break;
                    case RUN_ON: runOn(path[height - 1]); break;
                    case HOLD: hold(); break;
                    case GATHER: gather(); break;
                    case TRY: if (ways.isDone()) phase = END_TRY; else ways.goOn(); break;
                    case GO_ON: goOn(); break;
                    case END_WALK: endWalk(); break;
                    case START_GATHERING: startGathering(); break;
                    case GATHER_ON: gatherOn(); break;
                    case END_GATHERING: endGathering(); break;
                    case START_TRY: startTry(); break;
                    case ASSUME: assumeNext(); break;
                    default: endTry();
                }
            }
            return isFound();
        }

        /** Lets an instance whose body could not be found have the one that it has if what is open does not hold. */
        void settleAtLeast(long one, long two, long three) {
            instances.makeRoom();
            int id = instances.find(one, two, three, Instances.mixed(one, two, three));
            if (id == NONE) id = instances.put(one, two, three, Instances.ALL);
            if (id == NONE) return;
            look.aim(one, two, three, id);
            look.look();
            int bodies = instances.whole(id) & look.set();
            int least = look.leastBody();
            if (bodies == 0 || (bodies & least) != 0) bodies = least;
            instances.settle(id, 1 << Instances.code(bodies));
        }

        private boolean isFound() {
            return Instances.isSingle(instances.whole(goal));
        }

        /** How far it goes at this level from now on. */
        private int last() {
            return look.looks() + (LOOKS << level * FARTHER);
        }

        // ---- walks

        private void startWalk(int next) {
            plan = next;
            phase = GO_ON;
            walk++;
            time = 1;
            height = 0;
            stacked = 0;
            isCut = false;
            isForked = false;
            isPacked = false;
            depth = 0;
            limit = next == FORWARD && level == LEVELS - 1 ? look.looks() + MOST_LOOKS : last();
        }

        /** Aims at the last one of the path, or finds what else is to be done. */
        private void goOn() {
            instances.makeRoom();
            if (instances.isFull() && plan != WITHIN && !isPacked && height > 0) {
                phase = HOLD;
                seen = 0;
                look.aimAt(path[0]);
                return;
            }
            if (height == 0) {
                int first = instances.follow(goal);
                boolean isNew = !isFound() && instances.walk(first) != walk;
                if (isNew && mayEnter(first)) enter(first);
            }
            phase = height > 0 ? DESCEND : END_WALK;
            if (height > 0) look.aimAt(path[height - 1]);
        }

        private void endWalk() {
            boolean isEnd = plan == BACKWARD || plan == FORWARD && isCut && !isForked;
            if (isFound() || isEnd) phase = DONE;
            else gatherFor(plan == FORWARD && isCut ? NEAR : ALL);
        }

        private void gatherFor(int next) {
            plan = next;
            phase = START_GATHERING;
        }

        private void tryFor(int next) {
            plan = next;
            phase = START_TRY;
        }

        /** Holds what those on the path depend on; then all other instances are shed, so that there is room for new ones. */
        private void hold() {
            instances.holdMet();
            seen++;
            if (seen < height) {
                look.aimAt(path[seen]);
                return;
            }
            instances.hold(goal);
            for (int i = 0; i < height + stacked; i++) {
                instances.hold(path[i < height ? i : path.length - 1 - (i - height)]);
            }
            instances.shed();
            goal = instances.moved(goal);
            for (int i = 0; i < height + stacked; i++) {
                int at = i < height ? i : path.length - 1 - (i - height);
                path[at] = instances.moved(path[at]);
            }
            instances.remember();
            isPacked = instances.isCrowded();
            phase = GO_ON;
        }

        private boolean mayEnter(int id) {
            boolean isNear = plan != WITHIN || id != NONE && instances.walk(id) == gathering;
            boolean hasRoom = (id != NONE || !instances.isFull()) && time < Instances.MOST_TIMES;
            boolean may = isNear && hasRoom && look.looks() < limit;
            if (!may) isCut = true;
            return may;
        }

        private void enter(int id) {
            makeRoom(height + stacked + 1);
            instances.come(id, walk, time++, stacked);
            path[height++] = id;
        }

        private void makeRoom(int least) {
            if (least <= path.length) return;
            int[] longer = Arrays.copyOf(path, Math.min(Instances.MOST + FEW, path.length << MORE));
            for (int i = 0; i < stacked; i++) {
                longer[longer.length - 1 - i] = path[path.length - 1 - i];
            }
            path = longer;
        }

        private int stackedAt(int at) {
            return path[path.length - 1 - at];
        }

        /** Goes on with what a look at the last one of the path has told. */
        private void descend() {
            int top = path[height - 1];
            int set = instances.set(top) & look.set();
            phase = GO_ON;
            if (isAssumed()) {
                if (set == 0) endAssumed(false);
                else if (set == look.set()) endAssumed(true);
                else goFrom(top);
                return;
            }
            if (set == 0) {
                leaveWithout(top);
                return;
            }
            instances.putSet(top, set);
            if (look.isStrict()) instances.restrict(top);
            int map = Instances.isSingle(set) ? NONE : look.mapFromOther();
            if (Instances.isSingle(set)) leave(top);
            else if (map == NONE || !goesAlong(top, map)) goFrom(top);
        }

        /** Leaves the last one of the path. Those in circles with it can be come to again, as more is known then. */
        private void leave(int top) {
            height--;
            while (stacked > instances.place(top)) {
                stacked--;
                instances.come(stackedAt(stacked), plan == WITHIN ? gathering : 0, 0, 0);
            }
        }

        /** There is no body that goes for an instance: it is not sure, or that which was asked for if this depends on it. */
        private void leaveWithout(int top) {
            if (depth > 0) {
                endAssumed(false);
                return;
            }
            boolean isGoal = instances.follow(goal) == top;
            instances.settle(isGoal ? goal : top, 1 << Instances.UNSURE);
            if (isGoal) phase = DONE;
            else leave(top);
        }

        /** Binds an instance to the only one on which its body depends, or begins to run on from this. */
        private boolean goesAlong(int top, int map) {
            int other = look.supposals().id(1);
            if (other == NONE && plan == WITHIN) return false;
            if (other == NONE && instances.count() > DENSE) {
                run = 1;
                runMap = map;
                look.aimAtOther();
                phase = RUN_ON;
                return true;
            }
            if (other == NONE) other = putStop(1);
            if (other == NONE) return false;
            goAlong(top, other, map);
            return true;
        }

        private int putStop(int at) {
            int id = look.supposals().id(at);
            if (id != NONE) return id;
            int set = at == 0 ? Instances.ALL : look.supposals().set(at);
            Supposals others = look.supposals();
            return instances.put(others.word(at, 0), others.word(at, 1), others.word(at, 2), set);
        }

        private void goAlong(int top, int other, int map) {
            leave(top);
            bind(top, other, map);
            if (instances.walk(other) != walk && mayEnter(other)) enter(other);
        }

        private void bind(int id, int other, int map) {
            int set = instances.set(other) & Instances.origin(map, instances.set(id));
            if (set != 0) instances.putSet(other, set);
            instances.bind(id, other, map);
        }

        /** Goes on along a line of instances, each of which depends on the next one alone. */
        private void runOn(int top) {
            int map = Instances.isSingle(look.set()) ? NONE : look.mapFromOther();
            int next = NONE;
            int bodies = 0;
            if (map != NONE) {
                runMap = Instances.chained(runMap, map);
                next = look.supposals().id(1);
                bodies = Instances.image(runMap, look.supposals().set(1));
            } else if (Instances.isSingle(look.set())) {
                bodies = Instances.image(runMap, look.set());
            }
            if (next == top) bodies = sameIn(runMap);
            boolean isEnd = next == top || bodies != 0 && Instances.isSingle(bodies);
            if (!isEnd && map != NONE && next == NONE && run < RUN && look.looks() < limit) {
                run++;
                look.aimAtOther();
                return;
            }
            phase = GO_ON;
            if (isEnd) endRun(top, bodies);
            else goFromRun(top, putStop(map == NONE ? 0 : 1));
        }

        private void endRun(int top, int bodies) {
            int set = instances.set(top) & bodies;
            if (set == 0) {
                leaveWithout(top);
                return;
            }
            instances.putSet(top, set);
            leave(top);
            if (!Instances.isSingle(set)) instances.leave(top);
        }

        private void goFromRun(int top, int next) {
            if (next != NONE) {
                goAlong(top, next, runMap);
            } else {
                isCut = true;
                leave(top);
                instances.leave(top);
            }
        }

        /** The bodies for which a map tells the same one. */
        private static int sameIn(int map) {
            int all = 0;
            for (int i = 0; i < Instances.BODIES; i++) {
                if (Instances.mapped(map, i) == i) all |= 1 << i;
            }
            return all;
        }

        /** Goes from an instance to the next one on which it depends; if there is none, leaves it. */
        private void goFrom(int top) {
            if (look.isOver()) isCut = true;
            isForked = true;
            int next = NONE;
            int least = instances.time(top);
            for (int i = 1; i < look.supposals().count(); i++) {
                int at = plan == BACKWARD ? look.supposals().count() - i : i;
                int id = look.supposals().id(at);
                boolean isNew = id == NONE || instances.walk(id) != walk;
                if (isNew && next == NONE && mayEnter(id)) next = at;
                if (!isNew && !instances.isLeft(id)) least = Math.min(least, instances.time(id));
            }
            if (least < instances.time(top)) instances.lower(top, least);
            int id = next == NONE ? NONE : putStop(next);
            if (id != NONE) enter(id);
            else leaveOpen(top);
        }

        /** Leaves an instance whose body is not found. All with which it is in a circle are tried together. */
        private void leaveOpen(int top) {
            if (isAssumed()) {
                endAssumed(true);
                return;
            }
            height--;
            if (instances.isLowered(top)) {
                path[path.length - 1 - stacked] = top;
                stacked++;
                return;
            }
            int end = stacked;
            while (stacked > 0 && instances.time(stackedAt(stacked - 1)) >= instances.time(top)) {
                stacked--;
            }
            instances.leave(top);
            instances.clearMembers();
            boolean doFit = end > stacked;
            for (int i = stacked; i < end; i++) {
                instances.leave(stackedAt(i));
                doFit = doFit && instances.takes(stackedAt(i));
            }
            if (doFit && instances.takes(top)) phase = START_TRY;
            else if (end > stacked) assume(top);
        }

        // ---- assuming

        /** Begins to assume, one after another, the bodies that an instance can have; it is the next one on the path. */
        private void assume(int top) {
            instances.clearMembers();
            if (depth == MOST_ASSUMED) return;
            int row = depth * ROW;
            path[height] = top;
            assumed[row + HEIGHT] = height;
            assumed[row + STACKED] = stacked;
            assumed[row + TIME] = instances.time(top);
            assumed[row + BODIES] = instances.set(top);
            assumed[row + LEFT] = instances.set(top);
            assumed[row + GOING] = 0;
            depth++;
            phase = ASSUME;
        }

        /** Whether the last one of the path is that of which something is assumed. */
        private boolean isAssumed() {
            return depth > 0 && assumed[(depth - 1) * ROW + HEIGHT] == height - 1;
        }

        private void endAssumed(boolean doesGo) {
            int row = (depth - 1) * ROW;
            if (doesGo) assumed[row + GOING] |= assumed[row + ASSUMED];
            phase = ASSUME;
        }

        /** Assumes the next body, or ends: then the only body that goes is the one that it has. */
        private void assumeNext() {
            int row = (depth - 1) * ROW;
            int going = assumed[row + GOING];
            height = assumed[row + HEIGHT];
            stacked = assumed[row + STACKED];
            int top = path[height];
            instances.putDepth(depth);
            instances.forgetAssumed(walk, assumed[row + TIME], plan == WITHIN ? gathering : 0);
            phase = GO_ON;
            if (assumed[row + LEFT] != 0 && (going & going - 1) == 0) {
                int next = first(assumed[row + LEFT]);
                assumed[row + LEFT] &= ~next;
                assumed[row + ASSUMED] = next;
                instances.putSet(top, next);
                enter(top);
                return;
            }
            depth--;
            instances.putDepth(depth);
            instances.putSet(top, going == 0 ? assumed[row + BODIES] : going);
            instances.restrict(top);
            if (going == 0) endCircle(Ways.NO_WAY, top);
            if ((going & going - 1) == 0) return;
            instances.come(top, walk, assumed[row + TIME], stacked);
            instances.leave(top);
        }

        // ---- gathering

        private void startGathering() {
            phase = GATHER_ON;
            instances.makeRoom();
            gathering = ++walk;
            height = 0;
            seen = 0;
            stacked = 0;
            isCut = false;
            limit = last();
            add(instances.follow(goal));
            for (int i = 0; i < types.numbered() && plan == WIDEST; i++) {
                int id = idOfNumbered(i);
                if (id != NONE) add(instances.follow(id));
            }
            for (int i = 0; i < instances.count() && plan != NEAR; i++) {
                if (instances.isStrict(i)) add(i);
            }
        }

        /** An instance that has a number, NONE for other types. */
        private int idOfNumbered(int number) {
            if (!Types.isInstance(types.head(number)) || types.isOpen(number)) return NONE;
            types.pack(number * Types.WIDTH);
            long mixed = Instances.mixed(types.first, types.second, types.third);
            int id = instances.find(types.first, types.second, types.third, mixed);
            return id != NONE ? id : instances.put(types.first, types.second, types.third, Instances.ALL);
        }

        private void add(int id) {
            if (id == NONE || height >= (plan == NEAR ? MOST_NEAR : Instances.MOST_MEMBERS)) {
                isCut = true;
                return;
            }
            if (instances.walk(id) == gathering) return;
            instances.come(id, gathering, 0, 0);
            makeRoom(height + 1);
            path[height++] = id;
        }

        private void gatherOn() {
            instances.makeRoom();
            while (seen < height && isDecided(path[seen])) {
                seen++;
            }
            if (seen < height && look.looks() >= limit) isCut = true;
            phase = seen < height && look.looks() < limit ? GATHER : END_GATHERING;
            if (phase == GATHER) look.aimAt(path[seen]);
        }

        private boolean isDecided(int id) {
            if (instances.isBound(id) || instances.isSettled(id)) return true;
            return Instances.isSingle(instances.set(id)) && (plan == NEAR || !instances.isStrict(id));
        }

        private void gather() {
            int id = path[seen++];
            int set = instances.set(id) & look.set();
            boolean isGoal = set == 0 && instances.follow(goal) == id;
            if (set == 0) instances.settle(isGoal ? goal : id, 1 << Instances.UNSURE);
            else instances.putSet(id, set);
            if (set != 0 && look.isStrict()) instances.restrict(id);
            phase = isGoal ? DONE : GATHER_ON;
            int map = Instances.isSingle(set) ? NONE : look.mapFromOther();
            if (look.isOver()) isCut = true;
            for (int i = 1; i < look.supposals().count() && !isDecided(id); i++) {
                int other = putStop(i);
                if (other != NONE && map != NONE) bind(id, other, map);
                add(other);
            }
        }

        private void endGathering() {
            if (isFound()) {
                phase = DONE;
            } else if (plan == NEAR) {
                startWalk(WITHIN);
            } else {
                takeMembers();
                tryFor(plan == ALL ? NARROW : plan == WIDEST ? WIDER : FIRST_ALONE);
            }
        }

        /** Takes all that were gathered and are not decided, those that are near last. */
        private void takeMembers() {
            instances.clearMembers();
            for (int i = height - 1; i >= 0; i--) {
                if (!isDecided(path[i]) && !instances.takes(path[i])) isCut = true;
            }
        }

        // ---- trying

        private void startTry() {
            phase = TRY;
            int last = look.looks() + Math.max(instances.members() * 2, Math.min(MOST_TRIED, LOOKS << level * FARTHER));
            // In a circle on the way it goes no farther than the walk.
            if (isCircle()) last = Math.max(limit, look.looks() + instances.members() * 2);
            boolean isFirst = plan == FIRST || plan == FIRST_ALONE;
            boolean isWide = plan == WIDE || plan == WIDER;
            int tested = isCircle() ? instances.member(instances.members() - 1) : goal;
            if (isFirst) ways.beginFirst(tested, last);
            else if (isCircle()) ways.beginForAll(tested, last);
            else ways.begin(tested, isWide, last);
        }

        /** Whether those are tried that are in a circle on the way. */
        private boolean isCircle() {
            return plan <= WITHIN || plan == BACKWARD;
        }

        private void endTry() {
            int found = ways.found();
            if (isCircle()) {
                endCircle(found, instances.member(instances.members() - 1));
            } else if (found == Ways.ONE) {
                if (plan == FIRST || plan == FIRST_ALONE) instances.settle(goal, ways.survivors());
                phase = DONE;
            } else if (found == Ways.UNKNOWN) {
                endWithout();
            } else if (plan == NARROW && found == Ways.NO_WAY) {
                instances.settle(goal, 1 << Instances.UNSURE);
                phase = DONE;
            } else if (plan == NARROW) {
                tryFor(WIDE);
            } else if (isCut && plan == WIDE) {
                startWalk(BACKWARD);
            } else if (plan == WIDE) {
                gatherFor(WIDEST);
            } else if (plan == WIDER) {
                tryFor(FIRST);
            } else if (plan == FIRST) {
                gatherFor(ALONE);
            } else {
                instances.settle(goal, first(instances.whole(goal)));
                phase = DONE;
            }
        }

        private void endWithout() {
            if (plan == FIRST || plan == WIDER) gatherFor(ALONE);
            else if (plan == NARROW || plan == WIDE) startWalk(BACKWARD);
            else phase = DONE;
        }

        /** The body that is taken first where the document is silent, as a set. */
        static int first(int set) {
            return (set >> Instances.ITSELF & 1) == 1 ? 1 << Instances.ITSELF : set & -set;
        }

        /** Goes on when all those in a circle were tried, of which one was come to first. */
        private void endCircle(int found, int top) {
            phase = GO_ON;
            for (int i = 0; i < instances.members() && (found == Ways.ONE || found == Ways.NO_WAY); i++) {
                instances.come(instances.member(i), plan == WITHIN ? gathering : 0, 0, 0);
            }
            instances.clearMembers();
            if (found == Ways.UNKNOWN) {
                isCut = true;
                if (look.looks() < limit) assume(top);
            }
            if (found != Ways.NO_WAY) return;
            if (depth > 0) {
                endAssumed(false);
                return;
            }
            boolean isGoal = instances.follow(goal) == top;
            instances.settle(isGoal ? goal : top, 1 << Instances.UNSURE);
            if (isGoal) phase = DONE;
        }
    }

    /**
     * Tries ways to choose the bodies of the members, which ask for one another. A body is guessed for one of them, and what
     * follows must go with the guesses. Where just one body of the goal goes with the document, it is this one; the
     * document is silent about several ways, and about none.
     */
    private static final class Ways {
        /** What was found. */
        static final int UNKNOWN = 0;
        static final int NO_WAY = 1;
        static final int ONE = 2;
        static final int MORE_THAN_ONE = 3;

        /** What is done next; the first two begin with a look. */
        private static final int SPREAD = 0;
        private static final int JUDGE = 1;
        private static final int NEXT = 2;
        private static final int GUESS = 3;
        private static final int CLASH = 4;
        private static final int LEAVE_OUT = 5;
        private static final int NEXT_SUBJECT = 6;
        private static final int END = 7;
        private static final int DONE = 8;

        /**
         * A guess: for whom, the bodies that are left to try, how many there were on the trail ahead of it, how many guesses
         * there were when it was seen to go with what follows from it, 0 if it was not; the earlier guesses with which the
         * bodies that were tried do not go; the body that is tried.
         */
        private static final int GUESSED = 0;
        private static final int UNTRIED = 1;
        private static final int AHEAD = 2;
        private static final int SEEN = 3;
        private static final int CONFLICT = 4;
        private static final int TRIED = 5;
        private static final int ROW = 6;
        private static final int MOST = 1 << 12;
        /** The guesses behind the others share the last bit. */
        private static final int LAST_BIT = 62;

        private static final int MOST_TRAILED = 1 << 16;
        private static final int FEW = 1 << 6;
        private static final int MORE = 4;

        private final Types types;
        private final Instances instances;
        private final Look look;
        private int phase;
        private int found;
        private int goal;
        private int limit;
        private boolean isWide;
        private boolean isFirst;
        private boolean isForAll;
        /** For whom bodies are tested: the goal, then members; the place of the last one of these. */
        private int subject;
        private int subjectPlace;
        /** The bodies that are left to test, that which is tested, and those that go. */
        private int untested;
        private int tested;
        private int survivors;
        private long[] guesses = new long[0];
        private int guessed;
        /** The instances that were narrowed with their bodies ahead of that, and the guesses on which these depended. */
        private long[] trail = new long[0];
        private int trailed;
        /** The guesses on which a clash depends, as bits; the only one of them. */
        private long conflict;
        private int blamed;
        /** The place of the member, or the guess, that is looked at. */
        private int one;

        Ways(Types types, Instances instances, Look look) {
            this.types = types;
            this.instances = instances;
            this.look = look;
        }

        int found() {
            return found;
        }

        int survivors() {
            return survivors;
        }

        boolean isDone() {
            return phase == DONE;
        }

        /** Begins to find which bodies of the goal go; in a wide way all members must have a body. */
        void begin(int goal, boolean isWide, int limit) {
            this.goal = goal;
            this.isWide = isWide;
            this.limit = limit;
            isFirst = false;
            isForAll = false;
            subjectPlace = instances.members();
            test(goal);
            guessed = 0;
            trailed = 0;
            instances.queueAll();
            phase = SPREAD;
        }

        private void test(int id) {
            subject = id;
            untested = Instances.ALL;
            tested = 0;
            survivors = 0;
            phase = NEXT;
        }

        /** Begins to find the bodies of all members, if just one body of the goal goes. */
        void beginForAll(int goal, int limit) {
            begin(goal, false, limit);
            isForAll = true;
        }

        /** Begins to find the first way, in which those that have numbers come first, so that all calls find the same one. */
        void beginFirst(int goal, int limit) {
            begin(goal, true, limit);
            isFirst = true;
        }

        /** Aims at the one that must be looked at next, and tells whether there is one. */
        boolean aims() {
            one = phase == SPREAD ? instances.nextQueued() : NONE;
            if (one != NONE) look.aimAt(instances.member(one));
            for (int i = 0; i < guessed && phase == JUDGE && one == NONE; i++) {
                if (guesses[i * ROW + SEEN] == 0) one = i;
            }
            if (phase == JUDGE && one != NONE) look.aimAt(instances.follow((int) guesses[one * ROW + GUESSED]));
            return one != NONE;
        }

        /** Goes on with what the look has told, if there was one. */
        void goOn() {
            boolean isOut = look.looks() > limit || guessed == MOST || trailed + 1 >= MOST_TRAILED;
            if (isOut && phase != END) end(subject == goal ? UNKNOWN : ONE);
            switch (phase) {
                case SPREAD:
                    if (one != NONE) take();
                    else phase = guessed == 0 ? NEXT : JUDGE;
                    break;
                case JUDGE:
                    if (one != NONE) judge();
                    else choose();
                    break;
                case NEXT: next(); break;
                case GUESS: tryNext(); break;
                case CLASH: goBack(); break;
                case LEAVE_OUT: leaveOut(blamed); break;
                case NEXT_SUBJECT: nextSubject(); break;
                default: finish();
            }
        }

        private void end(int what) {
            found = what;
            phase = END;
        }

        private void finish() {
            if (found == NO_WAY) undo(0);
            else if (guessed > 0) undo((int) guesses[AHEAD]);
            phase = DONE;
        }

        /** Finds which body of the subject is tested next. */
        private void next() {
            untested &= instances.whole(subject);
            if (isFirst) {
                phase = JUDGE;
            } else if (untested == 0 || Integer.bitCount(survivors) > 1) {
                endSubject(Integer.bitCount(survivors));
            } else {
                tested = Descent.first(untested);
                untested &= ~tested;
                put(subject, tested);
            }
        }

        /** Ends with the subject when so many of its bodies go, and goes on to the next one. */
        private void endSubject(int going) {
            // The others were ruled out for it; that it has this one must still go with what is found of others.
            if (going == 1) instances.restrict(instances.follow(subject));
            if (subject == goal && (going != 1 || !isForAll)) {
                end(going == 0 ? NO_WAY : going == 1 ? ONE : MORE_THAN_ONE);
                return;
            }
            if (subject == goal) trailed = 0;
            phase = NEXT_SUBJECT;
        }

        private void nextSubject() {
            subjectPlace--;
            int next = subjectPlace < 0 ? NONE : instances.member(subjectPlace);
            if (next == NONE) end(ONE);
            else if (!Instances.isSingle(instances.set(next))) test(next);
        }

        /** Puts a guess for an instance, to try some bodies. */
        private void put(int id, int set) {
            if (!instances.isMember(instances.follow(id))) {
                end(UNKNOWN);
                return;
            }
            if ((guessed + 1) * ROW > guesses.length) {
                guesses = Arrays.copyOf(guesses, Math.max(FEW * ROW, Math.min(MOST * ROW, guesses.length << MORE)));
            }
            int at = guessed * ROW;
            guesses[at + GUESSED] = id;
            guesses[at + UNTRIED] = set;
            guesses[at + AHEAD] = trailed;
            guesses[at + SEEN] = 0;
            guesses[at + CONFLICT] = instances.reasons(instances.follow(id));
            guessed++;
            phase = GUESS;
        }

        private static long bit(int guess) {
            return 1L << Math.min(guess, LAST_BIT);
        }

        private void tryNext() {
            int at = (guessed - 1) * ROW;
            int body = Descent.first((int) guesses[at + UNTRIED]);
            guesses[at + UNTRIED] &= ~body;
            guesses[at + TRIED] = body;
            guesses[at + SEEN] = 0;
            int decider = instances.follow((int) guesses[at + GUESSED]);
            int set = instances.set(decider) & Instances.origin(instances.map(), body);
            long reasons = Instances.isSingle(set) ? 0 : instances.reasons(decider);
            narrow(decider, set, reasons | bit(guessed - 1));
            phase = SPREAD;
        }

        /** Lets a member have fewer bodies, for some guesses, and queues those who depend on it. */
        private void narrow(int id, int set, long reasons) {
            if ((trailed + 1) * 2 > trail.length) {
                int most = Math.min(MOST_TRAILED * 2, trail.length << MORE);
                trail = Arrays.copyOf(trail, Math.max(FEW * 2, most));
            }
            trail[trailed * 2] = (long) id << Instances.BODIES | instances.set(id);
            trail[trailed * 2 + 1] = instances.reasons(id);
            trailed++;
            instances.putSet(id, set);
            instances.putReasons(id, reasons);
            instances.queueFrom(id);
        }

        private void undo(int left) {
            while (trailed > left) {
                trailed--;
                int id = (int) (trail[trailed * 2] >> Instances.BODIES);
                instances.putSet(id, (int) trail[trailed * 2] & Instances.ALL);
                instances.putReasons(id, trail[trailed * 2 + 1]);
            }
        }

        /** Takes what follows for a member from what is known or guessed of others. */
        private void take() {
            int id = instances.member(one);
            // Those on whom it depends are never more later, as more is known then.
            boolean isLinked = instances.isLinked(one);
            for (int i = 1; i < look.supposals().count() && !isLinked; i++) {
                int other = look.supposals().id(i);
                if (other != NONE) instances.link(one, other);
            }
            int set = instances.set(id);
            int next = set & look.set();
            long reasons = instances.reasons(id) | look.reasons();
            if (next == 0) clash(reasons);
            else if (next != set) narrow(id, next, reasons);
        }

        private void clash(long reasons) {
            conflict = reasons;
            phase = CLASH;
            int next = 0;
            for (int i = 0; i <= instances.members() && next != NONE; i++) {
                next = instances.nextQueued();
            }
        }

        /** Looks whether a guess goes with what follows from it; if that is open, guesses for one on whom it depends. */
        private void judge() {
            int decider = instances.follow((int) guesses[one * ROW + GUESSED]);
            int set = instances.set(decider);
            if ((set & look.set()) == 0) {
                clash(instances.reasons(decider) | look.reasons());
                return;
            }
            int next = NONE;
            for (int i = 1; i < look.supposals().count() && (look.set() & ~set) != 0 && next == NONE; i++) {
                int other = look.supposals().id(i);
                boolean isOpen = other != NONE && !Instances.isSingle(instances.set(other));
                if (isOpen && instances.isMember(other)) next = other;
            }
            if (next == NONE) guesses[one * ROW + SEEN] = guessed;
            else put(next, instances.set(next));
        }

        /** All guesses go with what follows. In a wide way it guesses on until all members have a body. */
        private void choose() {
            int next = isFirst ? nextWithNumber() : NONE;
            for (int i = instances.members() - 1; i >= 0 && isWide && next == NONE; i--) {
                if (!Instances.isSingle(instances.set(instances.member(i)))) next = instances.member(i);
            }
            if (next != NONE) {
                put(next, instances.whole(next));
            } else if (isFirst) {
                survivors = Descent.first(instances.whole(goal));
                end(ONE);
            } else {
                survivors |= tested;
                undo((int) guesses[AHEAD]);
                guessed = 0;
                phase = NEXT;
            }
        }

        private int nextWithNumber() {
            for (int i = 0; i < types.numbered(); i++) {
                if (!Types.isInstance(types.head(i)) || types.isOpen(i)) continue;
                types.pack(i * Types.WIDTH);
                long mixed = Instances.mixed(types.first, types.second, types.third);
                int id = instances.find(types.first, types.second, types.third, mixed);
                if (id == NONE || Instances.isSingle(instances.whole(id))) continue;
                if (instances.isMember(instances.follow(id))) return id;
            }
            return NONE;
        }

        /** Takes back the last guess on which the clash depends, and those behind it. */
        private void goBack() {
            boolean isHigh = guessed > LAST_BIT && conflict >> LAST_BIT != 0;
            int at = isHigh ? guessed - 1 : LAST_BIT + 1 - Long.numberOfLeadingZeros(conflict);
            if (guessed == 0 || at < 0) {
                end(subject == goal ? NO_WAY : ONE);
                return;
            }
            int row = at * ROW;
            long others = at <= LAST_BIT ? conflict & ~bit(at) : conflict;
            if (others == 0) {
                blamed = at;
                phase = LEAVE_OUT;
                return;
            }
            undo((int) guesses[row + AHEAD]);
            for (int i = 0; i < at; i++) {
                if (guesses[i * ROW + SEEN] > at) guesses[i * ROW + SEEN] = 0;
            }
            conflict = others | guesses[row + CONFLICT];
            guesses[row + CONFLICT] = conflict;
            boolean hasMore = guesses[row + UNTRIED] != 0;
            guessed = hasMore ? at + 1 : at;
            if (hasMore) phase = GUESS;
        }

        /** A body that does not go whatever else is guessed is left out for good, and all guesses begin anew. */
        private void leaveOut(int at) {
            int decider = instances.follow((int) guesses[at * ROW + GUESSED]);
            int out = Instances.origin(instances.map(), (int) guesses[at * ROW + TRIED]);
            undo((int) guesses[AHEAD]);
            int set = instances.set(decider) & ~out;
            if (at > 0) untested |= tested;
            instances.restrict(decider);
            guessed = 0;
            phase = SPREAD;
            if (set == 0) clash(0);
            else narrow(decider, set, 0);
        }
    }

    /** The namespaces and the functions in them. */
    private static final class Functions {
        static final int NAMESPACES = 6;
        static final int FUNCTIONS = 24;
        static final int EACH = 3;

        private final Types types;
        private int namespaces = 1;
        private final int[] outers = new int[NAMESPACES];
        private int count;
        private final int[] places = new int[FUNCTIONS];
        private final int[] names = new int[FUNCTIONS];
        private final boolean[] areDeleted = new boolean[FUNCTIONS];
        private final int[] counts = new int[FUNCTIONS];
        private final char[] modes = new char[FUNCTIONS * EACH];
        private final int[] told = new int[FUNCTIONS * EACH];

        Functions(Types types) {
            this.types = types;
            outers[0] = NONE;
        }

        static int constraintSet(int function) {
            return Templates.TEMPLATES * Templates.EACH + function;
        }

        int namespaces() {
            return namespaces;
        }

        /** The namespace in which one is, NONE for the first one. */
        int outer(int namespace) {
            return outers[namespace];
        }

        int putNamespace(int outer) {
            outers[namespaces] = outer;
            return namespaces++;
        }

        int count() {
            return count;
        }

        int put(int namespace, int name, boolean isDeleted) {
            places[count] = namespace;
            names[count] = name;
            areDeleted[count] = isDeleted;
            return count++;
        }

        int putParameter(int function, char mode, int type) {
            int place = function * EACH + counts[function];
            modes[place] = mode;
            told[place] = type;
            return ++counts[function];
        }

        boolean isNamed(int function, int namespace, int name) {
            return places[function] == namespace && names[function] == name;
        }

        boolean isDeleted(int function) {
            return areDeleted[function];
        }

        int parameters(int function) {
            return counts[function];
        }

        char mode(int function, int at) {
            return modes[function * EACH + at];
        }

        int told(int function, int at) {
            return told[function * EACH + at];
        }

        /** All types as told, three places a function. */
        int[] allTold() {
            return told;
        }

        boolean isOfTemplate(int function) {
            for (int i = 0; i < counts[function]; i++) {
                if (types.isOpen(told(function, i))) return true;
            }
            return false;
        }
    }

    /** The arguments of a call, how they come to the parameters of a function, the candidates, and which is chosen. */
    private static final class Call {
        private static final int RANK = 1000;
        private static final int TO_TRUTH = 99;
        private static final int NO_VIABLE = -1;
        private static final int NO_BEST = -2;
        private static final int DELETED = -3;
        private static final int NOT_SURE = -4;

        private final Types types;
        private final Hierarchy hierarchy;
        private final Templates templates;
        private final Functions functions;
        private final Look look;
        private int count;
        private final int[] arguments = new int[Functions.EACH];
        private final char[] categories = new char[Functions.EACH];
        /** The places of the types of the parameters of the function that was looked at last. */
        private final int[] taken = new int[Functions.EACH];
        private final int[] ways = new int[Functions.FUNCTIONS * Functions.EACH];
        private final boolean[] areSure = new boolean[Functions.FUNCTIONS * Functions.EACH];
        private final boolean[] areCandidates = new boolean[Functions.FUNCTIONS];
        private final boolean[] areViable = new boolean[Functions.FUNCTIONS];

        Call(Types types, Hierarchy hierarchy, Templates templates, Functions functions, Look look) {
            this.types = types;
            this.hierarchy = hierarchy;
            this.templates = templates;
            this.functions = functions;
            this.look = look;
        }

        int count() {
            return count;
        }

        /** The place of the type of an argument. */
        int argument(int at) {
            return arguments[at] * Types.WIDTH;
        }

        int put(int type, char category) {
            arguments[count] = type;
            categories[count] = category;
            return ++count;
        }

        int clear() {
            int before = count;
            count = 0;
            return before;
        }

        /** The place of what was deduced for a parameter in the function that was looked at last, NONE for nothing. */
        int boundPlace(int parameter) {
            return types.bound[Types.DEDUCED * PARAMETERS + parameter];
        }

        // ---- candidates

        /** Takes as the candidates those of the innermost namespace that has some. */
        void beginCandidates(int namespace, int name) {
            for (int i = 0; i < Functions.FUNCTIONS; i++) {
                areCandidates[i] = false;
            }
            int at = namespace;
            for (int i = 0; i < Functions.NAMESPACES && at != NONE; i++) {
                at = takesFrom(at, name) ? NONE : functions.outer(at);
            }
        }

        /** Takes those of a namespace, too, and tells whether there are some. */
        boolean takesFrom(int namespace, int name) {
            boolean hasSome = false;
            for (int i = 0; i < functions.count(); i++) {
                if (functions.isNamed(i, namespace, name)) {
                    areCandidates[i] = true;
                    hasSome = true;
                }
            }
            return hasSome;
        }

        /** The classes by way of whose namespace a candidate may be found that is missing, as bits. */
        int wantedClasses(int name) {
            int wanted = 0;
            for (int i = 0; i < functions.count(); i++) {
                for (int cls = 0; cls < hierarchy.count() && !areCandidates[i]; cls++) {
                    if (functions.isNamed(i, hierarchy.namespace(cls), name)) wanted |= 1 << cls;
                }
            }
            return wanted;
        }

        int candidateCount() {
            int sum = 0;
            for (int i = 0; i < functions.count(); i++) {
                if (areCandidates[i]) sum++;
            }
            return sum;
        }

        // ---- what is asked, for what is supposed of bodies

        /** What is asked of one function, or of all that there are, or of all candidates. */
        long outcome(int kind, int function, int other) {
            if (kind == SHARE) return viableCount();
            if (kind >= BEST) return answerFor(kind == BEST ? bestByWalks() : bestByPairs());
            if (kind == VIABLE) return areViable[function] ? 1 : 0;
            if (!areViable[function]) return NOT_VIABLE;
            if (kind == COMING) {
                int way = ways[function * Functions.EACH + other];
                return areSure[function * Functions.EACH + other] ? way : -1 - way;
            }
            int place = boundPlace(other);
            if (place == NONE) return NOTHING;
            types.pack(place);
            return Instances.mixed(types.first, types.second, types.third) >>> 1;
        }

        private int viableCount() {
            int sum = 0;
            for (int i = 0; i < functions.count(); i++) {
                if (areViable[i]) sum++;
            }
            return sum;
        }

        /** Finds how the arguments come to the parameters of a function, if this is asked, and whether it is viable. */
        void settle(int kind, int asked, int function) {
            areViable[function] = false;
            boolean isAsked = kind == SHARE || (kind >= BEST ? areCandidates[function] : asked == function);
            if (!isAsked || functions.parameters(function) != count) return;
            types.empty(Types.DEDUCED);
            for (int i = 0; i < count; i++) {
                int told = functions.told(function, i);
                taken[i] = types.isOpen(told) ? matched(told, i) : told * Types.WIDTH;
                if (taken[i] == NONE) return;
            }
            if (!look.areMet(Types.DEDUCED, Functions.constraintSet(function))) return;
            for (int i = 0; i < count; i++) {
                int way = directWay(function, i);
                int conversions = 0;
                boolean isMadeFor = way == NONE && functions.mode(function, i) != 'r';
                if (isMadeFor) way = valueWay(argument(i), taken[i]);
                for (int j = 0; j < 2 * Hierarchy.TOLD && isMadeFor && way == NONE; j++) {
                    int told = conversion(argument(i), taken[i], j);
                    int from = j < Hierarchy.TOLD ? argument(i) : told;
                    int to = j < Hierarchy.TOLD ? told : taken[i];
                    if (told != NONE && (types.isSame(from, to) || valueWay(from, to) != NONE)) conversions++;
                }
                if (conversions > 0) way = 3 * RANK;
                if (way == NONE) return;
                ways[function * Functions.EACH + i] = way;
                areSure[function * Functions.EACH + i] = conversions < 2;
            }
            areViable[function] = true;
        }

        /** The place of a type that is told for a conversion, those from which a class can be made first; or NONE. */
        private int conversion(int from, int to, int at) {
            boolean isFrom = at < Hierarchy.TOLD;
            int head = types.tokens[isFrom ? to : from];
            int place = isFrom ? at : at - Hierarchy.TOLD;
            if (!Types.isClass(head) || place >= hierarchy.conversions(head - Types.CLASS, isFrom)) return NONE;
            return hierarchy.conversionAt(head - Types.CLASS, isFrom, place) * Types.WIDTH;
        }

        /** The place of the type that a pattern takes: that of the argument, or the only one of its bases that matches. */
        private int matched(int pattern, int at) {
            int type = argument(at);
            if (triesPattern(pattern, type)) {
                types.copyFrame(Types.TRIED, Types.DEDUCED);
                return type;
            }
            if (!Types.isInstance(types.head(pattern))) return NONE;
            int only = NONE;
            int base = type;
            for (int step = 0; step < Look.STEPS && Types.isInstance(types.tokens[base]); step++) {
                base = look.baseAt(base, look.supposedOf(look.setAt(base)), Types.LINE + step);
                if (base == NONE || isInLine(base, step)) break;
                if (triesPattern(pattern, base)) {
                    if (only != NONE) return NONE;
                    only = base;
                }
            }
            if (only == NONE) return NONE;
            // Another argument's bases may be written there, so the one that is taken is kept elsewhere.
            types.copyRow(only, Types.TAKEN + at);
            only = (Types.TAKEN + at) * Types.WIDTH;
            triesPattern(pattern, only);
            types.copyFrame(Types.TRIED, Types.DEDUCED);
            return only;
        }

        private boolean isInLine(int base, int length) {
            for (int i = 0; i < length; i++) {
                if (types.isSame((Types.LINE + i) * Types.WIDTH, base)) return true;
            }
            return false;
        }

        private boolean triesPattern(int pattern, int place) {
            types.copyFrame(Types.DEDUCED, Types.TRIED);
            return types.matches(Types.TRIED, pattern, NONE, place);
        }

        /** How an argument comes without a value that is made for it. */
        private int directWay(int function, int at) {
            char category = categories[at];
            char mode = functions.mode(function, at);
            boolean isGoing = category == 'r';
            if (mode == 'r' && category != 'l') return NONE;
            boolean isAlone = Types.isParameter(types.head(functions.told(function, at)));
            if (mode == 'm' && !isGoing && !isAlone) return NONE;
            int steps = look.steps(argument(at), taken[at]);
            if (steps < 0) return NONE;
            boolean isWorse = mode == 'm' ? !isGoing : mode != 'r' && category != 'k';
            return (steps == 0 ? 0 : 2 * RANK + 2 * steps) + (isWorse ? 1 : 0);
        }

        /** How a type comes to another one by a value that is made, but for the conversions of classes. */
        private int valueWay(int from, int to) {
            int head = types.tokens[from];
            int target = types.tokens[to];
            if (Types.isBasic(head)) {
                if (!Types.isBasic(target) || head == target) return NONE;
                boolean isGrowing = head == Types.TRUTH || head == Types.LETTER;
                return isGrowing && target == Types.WHOLE ? RANK : 2 * RANK;
            }
            if (head != Types.POINTER) return NONE;
            if (target == Types.TRUTH) return 2 * RANK + TO_TRUTH;
            if (target != Types.POINTER) return NONE;
            int steps = look.steps(from + 1, to + 1);
            return steps > 0 ? 2 * RANK + 2 * steps : NONE;
        }

        // ---- choosing

        /** The best one by a walk for it and a walk against it. */
        private int bestByWalks() {
            int best = NO_VIABLE;
            for (int i = 0; i < functions.count(); i++) {
                if (areViable[i] && (best == NO_VIABLE || isBetter(i, best))) best = i;
            }
            for (int i = 0; i < functions.count() && best >= 0; i++) {
                if (areViable[i] && i != best && !isBetter(best, i)) best = NO_BEST;
            }
            return best;
        }

        /** The best one by comparing each two. */
        private int bestByPairs() {
            int answer = NO_VIABLE;
            for (int own = 0; own < functions.count(); own++) {
                if (!areViable[own]) continue;
                boolean isBest = true;
                for (int other = 0; other < functions.count(); other++) {
                    if (areViable[other] && other != own && !isBetter(own, other)) isBest = false;
                }
                if (isBest) return own;
                answer = NO_BEST;
            }
            return answer;
        }

        private int answerFor(int best) {
            if (best < 0) return best;
            if (functions.isDeleted(best)) return DELETED;
            for (int i = 0; i < count; i++) {
                if (!areSure[best * Functions.EACH + i]) return NOT_SURE;
            }
            return best;
        }

        private boolean isBetter(int own, int other) {
            boolean isAlike = true;
            for (int i = 0; i < count; i++) {
                int difference = ways[own * Functions.EACH + i] - ways[other * Functions.EACH + i];
                if (difference > 0) return false;
                if (difference < 0) isAlike = false;
            }
            if (!isAlike) return true;
            boolean isOwnTemplate = functions.isOfTemplate(own);
            boolean isOtherTemplate = functions.isOfTemplate(other);
            if (!isOwnTemplate || !isOtherTemplate) return !isOwnTemplate && isOtherTemplate;
            return templates.isMoreSpecial(functions.allTold(), own * Functions.EACH, other * Functions.EACH,
                    count, Functions.constraintSet(own), Functions.constraintSet(other));
        }
    }

    /** What a walk is to go through yet, in queues of which the first come first, and what it has noted as met. */
    private static final class Frontier {
        private static final int FEW = 1 << 6;
        private static final int MORE = 5;
        private static final int MOST_NOTED = 1 << 19;
        private static final int MOST_PENDING = 1 << 15;

        /** One that is pending: the three words of its type, the third one with how long its line is; and the next one. */
        private static final int NEXT = 3;
        private static final int ROW = 4;
        private static final int RUN_AT = 32;
        private static final long THIRD = (1L << RUN_AT) - 1;

        private long[] pending = new long[FEW * ROW];
        private int used;
        /** The one that was put last, and the one that was taken last. */
        private int last;
        /** The first and the last one of each queue; those that are used no longer are in the queue behind the others. */
        private final int[] firsts;
        private final int[] lasts;
        private boolean isForked;
        /** Numbers that tell apart what was met; each round has numbers of its own. */
        private long[] noted = new long[FEW];
        private int count;
        private int round;

        Frontier(int queues) {
            firsts = new int[(queues > 0 ? queues : 1) + 1];
            lasts = new int[(queues > 0 ? queues : 1) + 1];
        }

        /** Forgets all. */
        void clear() {
            if (count > 0) Arrays.fill(noted, 0);
            count = 0;
            isForked = false;
            startRound();
        }

        void startRound() {
            round++;
            used = 0;
            Arrays.fill(firsts, NONE);
            Arrays.fill(lasts, NONE);
        }

        /** Whether there was ever more than one that was pending. */
        boolean isForked() {
            return isForked;
        }

        void fork() {
            isForked = true;
        }

        /** Puts a type into a queue, as the first or the last one; false if there is no room. */
        boolean puts(long one, long two, long three, int queue, boolean isAhead) {
            int free = firsts.length - 1;
            int at = firsts[free];
            if (at != NONE) firsts[free] = (int) pending[at * ROW + NEXT];
            else at = used < MOST_PENDING ? used++ : NONE;
            last = at;
            if (at == NONE) return false;
            if ((at + 1) * ROW > pending.length) {
                pending = Arrays.copyOf(pending, Math.min(MOST_PENDING * ROW, pending.length << MORE));
            }
            pending[at * ROW] = one;
            pending[at * ROW + 1] = two;
            pending[at * ROW + 2] = three;
            if (used > 1) isForked = true;
            boolean isFirst = isAhead || firsts[queue] == NONE;
            pending[at * ROW + NEXT] = isFirst ? firsts[queue] : NONE;
            if (isFirst) firsts[queue] = at;
            else pending[lasts[queue] * ROW + NEXT] = at;
            if (!isFirst || lasts[queue] == NONE) lasts[queue] = at;
            return true;
        }

        /** Notes how long the line of the one is that was put last. */
        void lengthen(int run) {
            if (last != NONE) pending[last * ROW + 2] |= (long) run << RUN_AT;
        }

        /** Takes the first one of a queue, or else of the next one; tells the queue, NONE if there is nothing in any. */
        int takes(int from) {
            int queues = firsts.length - 1;
            int queue = from;
            for (int i = 0; i < queues && firsts[queue] == NONE; i++) {
                queue = queue + 1 == queues ? 0 : queue + 1;
            }
            int at = firsts[queue];
            if (at == NONE) return NONE;
            last = at;
            firsts[queue] = (int) pending[at * ROW + NEXT];
            if (firsts[queue] == NONE) lasts[queue] = NONE;
            pending[at * ROW + NEXT] = firsts[queues];
            firsts[queues] = at;
            return queue;
        }

        boolean hasSome(int queue) {
            return firsts[queue] != NONE;
        }

        /** A word of the one that was taken. */
        long word(int at) {
            return pending[last * ROW + at] & (at == 2 ? THIRD : NONE);
        }

        int run() {
            return (int) (pending[last * ROW + 2] >> RUN_AT);
        }

        /** A number of a type in this round. */
        long number(long one, long two, long three) {
            long number = Instances.mixed(one, two, three ^ (long) round << RUN_AT);
            return number == 0 ? 1 : number;
        }

        boolean isNoted(long number) {
            int mask = noted.length - 1;
            int at = (int) number & mask;
            for (int i = 0; i <= mask && noted[at] != 0; i++) {
                if (noted[at] == number) return true;
                at = at + 1 & mask;
            }
            return false;
        }

        void note(long number) {
            if (isFull()) {
                // There is no room: another one is forgotten, and may be met again.
                noted[(int) number & noted.length - 1] = number;
                return;
            }
            if (count > noted.length - noted.length / 4 && noted.length < MOST_NOTED) grow();
            enter(number);
            count++;
        }

        private void enter(long number) {
            int mask = noted.length - 1;
            int at = (int) number & mask;
            for (int i = 0; i <= mask && noted[at] != 0; i++) {
                at = at + 1 & mask;
            }
            noted[at] = number;
        }

        private void grow() {
            long[] before = noted;
            noted = new long[Math.min(MOST_NOTED, before.length << MORE)];
            for (int i = 0; i < before.length; i++) {
                if (before[i] != 0) enter(before[i]);
            }
        }

        boolean isFull() {
            return count > MOST_NOTED - MOST_NOTED / 8;
        }

        /** Whether there is much room to note yet. */
        boolean hasRoom() {
            return count < MOST_NOTED / 2;
        }
    }

    /**
     * Looks up the namespaces of the classes that are met by way of the arguments: in them, and in the bases of the
     * instances in them, and so on. As there may be very many of these, it goes only so far at a level, in several orders.
     */
    private static final class Walk {
        /** The orders: first what was met first, what is smallest, what was met last. */
        static final int ORDERS = 3;
        private static final int SMALLEST = 1;
        private static final int LATEST = 2;

        private static final int STEPS = 1 << 8;
        private static final int FARTHER = 3;
        /** How far it goes at last if there is never a choice. */
        private static final int LINE_STEPS = 1 << 26;
        private static final int LOOKS = 1 << 14;
        private static final int MORE_LOOKS = 2;
        /** How many in a line may be met without being noted, also if there is less room; after how many a body is found. */
        private static final int RUN = 16;
        private static final int LONG_RUN = 1 << 8;
        private static final int TURN = 16;
        private static final int MOST_UNKNOWN = 64;
        /** How many bodies are assumed at once, and how often. */
        static final int DEPTH = 4;
        private static final int MOST_RUNS = 1 << 9;

        /** Behind the queues of the sizes are those of the instances whose bodies are to be found, by levels. */
        private static final int OPEN = Types.LARGEST + 1;
        private static final int QUEUES = OPEN + Descent.LEVELS;
        private static final int WORDS = 3;

        private final Types types;
        private final Hierarchy hierarchy;
        private final Templates templates;
        private final Instances instances;
        private final Look look;
        /** The classes that were asked for, those that are not met yet; the namespaces of those that were; all as bits. */
        private int asked;
        private int wanted;
        private int found;
        private int level;
        private int order;
        private int steps;
        private int others;
        private int runs;
        private int assumed;
        private int openLevel;
        private boolean isCut;
        private final Frontier frontier = new Frontier(QUEUES);
        /** The instances in a type whose bases are pending, told by their numbers. */
        private final long[] sources = new long[Types.LARGEST];
        private int sourceCount;
        private final long[] unknown = new long[MOST_UNKNOWN * WORDS];
        private int unknowns;

        Walk(Types types, Hierarchy hierarchy, Templates templates, Instances instances, Look look) {
            this.types = types;
            this.hierarchy = hierarchy;
            this.templates = templates;
            this.instances = instances;
            this.look = look;
        }

        /** Begins to look up classes, told as bits; what can be met by way of the arguments must be known. */
        void begin(int classes) {
            asked = classes;
            wanted = classes;
            found = 0;
        }

        /** The namespaces of the classes that were met, as bits. */
        int found() {
            return found;
        }

        /** Whether there is something to find yet. */
        boolean lacksSome() {
            return wanted != 0;
        }

        /** Whether nothing was left out. */
        boolean isDone() {
            return !isCut;
        }

        /** Whether there was a choice where to go on, so that another order may lead elsewhere. */
        boolean isForked() {
            return frontier.isForked();
        }

        int openLevel() {
            return openLevel;
        }

        void start(int level, int order) {
            this.level = level;
            this.order = order;
            unknowns = 0;
            others = 0;
            runs = 0;
            steps = 0;
            isCut = false;
            frontier.clear();
        }

        /** How often may be looked at instances on the way. */
        int mostLooks() {
            return LOOKS << MORE_LOOKS * level;
        }

        void put(int place) {
            int size = types.ends[place] - place;
            types.pack(place);
            int queue = order == SMALLEST ? size : 0;
            if (!frontier.puts(types.first, types.second, types.third, queue, order == LATEST)) isCut = true;
        }

        /** Puts the instance that was packed last among those whose bodies are to be found, at a level. */
        private void putOpen(int level) {
            frontier.fork();
            if (!frontier.puts(types.first, types.second, types.third, OPEN + level, false)) isCut = true;
        }

        /**
         * Takes the next one into a row, and tells whether there is one. Now and then it is an instance whose body must be
         * found, even if there are others.
         */
        private boolean takes() {
            int queue = frontier.takes(steps % TURN == 0 ? OPEN : 0);
            if (queue == NONE) return false;
            types.unpack(frontier.word(0), frontier.word(1), frontier.word(2), Types.WALKED);
            openLevel = queue >= OPEN ? queue - OPEN : NONE;
            steps++;
            others++;
            return true;
        }

        // ---- what was met

        private void meet(int cls) {
            int all = hierarchy.allBases(cls);
            for (int i = 0; i < hierarchy.count(); i++) {
                if ((all >> i & 1) == 1) found |= 1 << hierarchy.namespace(i);
            }
            findWanted();
        }

        private void findWanted() {
            wanted = 0;
            for (int i = 0; i < hierarchy.count(); i++) {
                boolean isAsked = (asked >> i & 1) == 1;
                if (isAsked && (found >> hierarchy.namespace(i) & 1) == 0) wanted |= 1 << i;
            }
        }

        // ---- the walk

        private boolean mayGoOn() {
            if (wanted == 0 || frontier.isFull() && order != LATEST) return false;
            boolean isLine = level == Descent.LEVELS - 1 && !frontier.isForked();
            return steps < (isLine ? LINE_STEPS : STEPS << FARTHER * level);
        }

        /** Goes on until the body of an instance must be found, and tells whether one must. */
        boolean goesOn() {
            for (int i = 0; i < LINE_STEPS && mayGoOn(); i++) {
                if (!takes()) {
                    others = 0;
                    return false;
                }
                if (openLevel != NONE) return true;
                scan(frontier.run());
            }
            isCut = true;
            others = 0;
            for (int i = unknowns; i < MOST_UNKNOWN / 2 && frontier.hasSome(OPEN); i++) {
                frontier.takes(OPEN);
                noteUnknown(frontier.word(0), frontier.word(1), frontier.word(2));
            }
            return false;
        }

        private void noteUnknown(long one, long two, long three) {
            isCut = true;
            if (unknowns == MOST_UNKNOWN) return;
            unknown[unknowns * WORDS] = one;
            unknown[unknowns * WORDS + 1] = two;
            unknown[unknowns * WORDS + 2] = three;
            unknowns++;
        }

        /** Takes an instance whose body could not be found into a row, and tells its place. */
        private int unknownAt(int at) {
            types.unpack(unknown[at * WORDS], unknown[at * WORDS + 1], unknown[at * WORDS + 2], Types.WALKED);
            return Types.WALKED * Types.WIDTH;
        }

        /** The words of the instance whose body must be found. */
        void packOpen() {
            types.pack(Types.WALKED * Types.WIDTH);
        }

        /** Goes on from the instance whose body was looked for. */
        void goFromOpen() {
            sourceCount = 0;
            int place = Types.WALKED * Types.WIDTH;
            if (goesBehind(place)) return;
            types.pack(place);
            if (openLevel < level) putOpen(openLevel + 1);
            else noteUnknown(types.first, types.second, types.third);
        }

        /**
         * Meets what is met whatever body an instance has whose body could not be found: each one is assumed, and with it
         * what follows for others. There may be such ones again, so this calls itself, so often at most.
         */
        void meetAnyway(int depth) {
            int end = unknowns;
            for (int i = 0; i < end && wanted != 0 && runs < MOST_RUNS; i++) {
                int before = found;
                int common = NONE;
                int decider = deciderOf(i);
                int bodies = decider == NONE ? 0 : look.deciding();
                for (int body = 0; body < Instances.BODIES && (common & ~before) != 0; body++) {
                    if ((bodies >> body & 1) == 0) continue;
                    runs++;
                    assumed++;
                    instances.putDepth(assumed);
                    instances.putSet(decider, 1 << body);
                    found = before;
                    findWanted();
                    goAround(end);
                    if (depth > 1) meetAnyway(depth - 1);
                    unknowns = end;
                    common &= found;
                    instances.forgetAssumed(NONE, 0, 0);
                    assumed--;
                    instances.putDepth(assumed);
                }
                found = common == NONE ? before : before | common;
                findWanted();
            }
        }

        /** The instance that decides which body an unknown one has; NONE if this is known. */
        private int deciderOf(int at) {
            if (Instances.isSingle(look.setAt(unknownAt(at)))) return NONE;
            if (look.decider() != NONE) return look.decider();
            instances.makeRoom();
            return instances.put(types.first, types.second, types.third, look.deciding());
        }

        /** Goes from the first unknown ones as far as it can go without bodies that must be found. */
        private void goAround(int end) {
            frontier.startRound();
            steps = 0;
            for (int i = 0; i < end; i++) {
                goesBehind(unknownAt(i));
            }
            int most = STEPS << FARTHER * level;
            int last = Math.min(most, others + (most >> FARTHER));
            for (int i = others; i < last && others < last && mayGoOn() && takes(); i++) {
                if (openLevel == NONE) scan(frontier.run());
                else noteUnknown(frontier.word(0), frontier.word(1), frontier.word(2));
            }
        }

        /** Goes through a type: to the classes in it, and to the bases of the instances in it. */
        private void scan(int run) {
            int from = Types.WALKED * Types.WIDTH;
            sourceCount = 0;
            int opened = 0;
            for (int place = from; place < types.ends[from]; place++) {
                int token = types.tokens[place];
                if (Types.isClass(token)) meet(token - Types.CLASS);
                if (!Types.isInstance(token)) continue;
                if ((templates.classesBehind(Types.templateOf(token)) & wanted) == 0) continue;
                types.pack(place);
                long number = frontier.number(types.first, types.second, types.third);
                steps++;
                others++;
                if (frontier.isNoted(number)) continue;
                sources[sourceCount] = number;
                if (!goesBehind(place)) {
                    frontier.note(number);
                    types.pack(place);
                    putOpen(0);
                    opened++;
                }
            }
            boolean isLine = sourceCount == 1 && opened == 0 && run < (frontier.hasRoom() ? RUN : LONG_RUN);
            for (int i = 0; i < sourceCount && !isLine; i++) {
                frontier.note(sources[i]);
            }
            if (isLine) frontier.lengthen(run + 1);
        }

        /** Queues the base of an instance; false if it may have several ones, so that its body must be found. */
        private boolean goesBehind(int place) {
            int bodies = look.setAt(place);
            int base = NONE;
            boolean isFirst = true;
            for (int i = 0; i < Instances.BODIES; i++) {
                if ((bodies >> i & 1) == 0) continue;
                int other = look.baseAt(place, i, isFirst ? Types.OTHER : Types.OTHER + 1);
                if (isFirst) base = other;
                boolean isSame = base == NONE ? other == NONE : other != NONE && types.isSame(base, other);
                if (!isSame) return false;
                isFirst = false;
            }
            if (base == NONE) return true;
            put(base);
            sourceCount++;
            return true;
        }
    }

    /**
     * The methods that classes override, what their bodies do, the objects and blocks, and the trace of what is made
     * and taken down.
     */
    private static final class Making {
        static final int TIMES = 99;
        static final int BLOCKS = 10;
        static final int ARRAY = 5;
        static final int LIVING = 40;
        private static final int TRACE = 600;
        private static final int TEMPORARY = -1;

        private final Hierarchy hierarchy;
        private final boolean[] doOverride = new boolean[Hierarchy.CLASSES * METHODS];
        /** For each class and method, the class whose method it is, NONE or SEVERAL. */
        private final int[] owners = new int[Hierarchy.CLASSES * METHODS];
        private final int[] spoken = new int[Hierarchy.CLASSES];
        private final boolean[] doDelegate = new boolean[Hierarchy.CLASSES];
        /** How many times a class is made until it throws, 0 if it does not. */
        private final int[] times = new int[Hierarchy.CLASSES];
        private final boolean[] areTries = new boolean[BLOCKS];
        private int blocks = 1;
        private int living;
        private final int[] livingClasses = new int[LIVING];
        private final long[] livingNumbers = new long[LIVING];
        private final int[] livingBlocks = new int[LIVING];
        private int traced;
        private final char[] kinds = new char[TRACE];
        private final int[] classes = new int[TRACE];
        private final int[] objects = new int[TRACE];
        private long next;
        private long madeParts;
        private long takenParts;

        Making(Hierarchy hierarchy) {
            this.hierarchy = hierarchy;
            for (int i = 0; i < Hierarchy.CLASSES; i++) {
                spoken[i] = NONE;
            }
            for (int i = 0; i < Hierarchy.CLASSES * METHODS; i++) {
                owners[i] = NONE;
            }
        }

        boolean changeOverriding(int cls, int method, boolean does) {
            boolean before = doOverride[cls * METHODS + method];
            doOverride[cls * METHODS + method] = does;
            findOwners();
            return before;
        }

        int changeBody(int cls, int method, boolean delegates) {
            int before = spoken[cls];
            spoken[cls] = method;
            doDelegate[cls] = delegates;
            return before;
        }

        /** The class whose method it is for a class, NONE or SEVERAL. */
        int ownerOf(int cls, int method) {
            return owners[cls * METHODS + method];
        }

        /** To be called whenever a class gets a base, too. */
        void findOwners() {
            for (int cls = 0; cls < hierarchy.count(); cls++) {
                for (int method = 0; method < METHODS; method++) {
                    owners[cls * METHODS + method] = foundOwner(cls, method);
                }
            }
        }

        private int foundOwner(int cls, int method) {
            if (doOverride[cls * METHODS + method]) return cls;
            int owner = NONE;
            for (int base = 0; base < cls; base++) {
                boolean isOne = hierarchy.isBase(base, cls) && doOverride[base * METHODS + method];
                if (isOne && !isBehindAnother(base, cls, method)) {
                    if (owner != NONE) return SEVERAL;
                    owner = base;
                }
            }
            return owner;
        }

        private boolean isBehindAnother(int base, int cls, int method) {
            for (int other = base + 1; other < cls; other++) {
                boolean isOne = hierarchy.isBase(other, cls) && doOverride[other * METHODS + method];
                if (isOne && hierarchy.isBase(base, other)) return true;
            }
            return false;
        }

        boolean hasBegun() {
            return next > 0;
        }

        int blocks() {
            return blocks;
        }

        int livingCount() {
            return living;
        }

        int traced() {
            return traced;
        }

        char kindAt(int index) {
            return kinds[index];
        }

        int classAt(int index) {
            return classes[index];
        }

        int objectAt(int index) {
            return objects[index];
        }

        long madeParts() {
            return madeParts;
        }

        long takenParts() {
            return takenParts;
        }

        int changeTimes(int cls, int howMany) {
            int before = times[cls];
            times[cls] = howMany;
            return before;
        }

        int openBlock(boolean isTry) {
            areTries[blocks] = isTry;
            return ++blocks;
        }

        int closeBlock() {
            takeTemporaries();
            blocks--;
            takeDownFrom(blocks);
            return blocks;
        }

        char makeObjects(int cls, boolean isTemporary, int count) {
            int before = living;
            for (int i = 0; i < count; i++) {
                long number = next;
                if (!makeWhole(cls)) {
                    takeDownArray(before);
                    return unwind();
                }
                livingClasses[living] = cls;
                livingNumbers[living] = number;
                livingBlocks[living] = isTemporary ? TEMPORARY : blocks - 1;
                living++;
            }
            return 'm';
        }

        int takeTemporaries() {
            int taken = 0;
            for (int i = living - 1; i >= 0; i--) {
                if (livingBlocks[i] == TEMPORARY) {
                    takeWhole(livingClasses[i], livingNumbers[i]);
                    closeGap(i);
                    taken++;
                }
            }
            return taken;
        }

        /** Takes down what a throw leaves behind, and tells whether a try caught it. */
        char unwind() {
            takeTemporaries();
            while (blocks > 1) {
                blocks--;
                takeDownFrom(blocks);
                if (areTries[blocks]) return 'c';
            }
            takeDownFrom(0);
            return 'u';
        }

        /** Takes down the objects of a block and of those in it; there are no temporaries among them. */
        private void takeDownFrom(int block) {
            while (living > 0 && livingBlocks[living - 1] >= block) {
                living--;
                takeWhole(livingClasses[living], livingNumbers[living]);
            }
        }

        private void takeDownArray(int before) {
            while (living > before) {
                living--;
                takeWhole(livingClasses[living], livingNumbers[living]);
            }
        }

        private void closeGap(int at) {
            living--;
            for (int i = at; i < living; i++) {
                livingClasses[i] = livingClasses[i + 1];
                livingNumbers[i] = livingNumbers[i + 1];
                livingBlocks[i] = livingBlocks[i + 1];
            }
        }

        private boolean makeWhole(int cls) {
            if (isQuiet(cls, true)) return makeQuietly(cls, true);
            long number = next++;
            int virtuals = hierarchy.virtuals(cls);
            for (int i = 0; i < virtuals; i++) {
                long before = next;
                if (!makePart(hierarchy.virtualAt(cls, i), number)) {
                    takeVirtuals(cls, number, before, i);
                    return false;
                }
            }
            long before = next;
            if (makePart(cls, number)) return true;
            takeVirtuals(cls, number, before, virtuals);
            return false;
        }

        private boolean makePart(int cls, long number) {
            if (isQuiet(cls, false)) return makeQuietly(cls, false);
            int bases = hierarchy.bases(cls);
            for (int i = 0; i < bases; i++) {
                long before = next;
                if (!hierarchy.isVirtualAt(cls, i) && !makePart(hierarchy.baseAt(cls, i), number)) {
                    takeInner(cls, number, before, 0, i);
                    return false;
                }
            }
            int members = hierarchy.members(cls);
            for (int i = 0; i < members; i++) {
                long before = next;
                if (!makeWhole(hierarchy.memberAt(cls, i))) {
                    takeInner(cls, number, before, i, bases);
                    return false;
                }
            }
            if (makeBody(cls, number)) return true;
            takeInner(cls, number, next, members, bases);
            return false;
        }

        private boolean makeBody(int cls, long number) {
            boolean isThrowing = times[cls] == 1;
            if (times[cls] > 0) times[cls]--;
            boolean delegates = doDelegate[cls];
            if (isThrowing && !delegates) {
                note('X', cls, number);
                return false;
            }
            note('C', cls, number);
            speak(cls, number);
            madeParts++;
            if (delegates) note(isThrowing ? 'X' : 'G', cls, number);
            if (isThrowing) takeBody(cls, number);
            return !isThrowing;
        }

        private void takeBody(int cls, long number) {
            speak(cls, number);
            note('D', cls, number);
            takenParts++;
        }

        private void takeWhole(int cls, long number) {
            long end = number + hierarchy.wholeObjects(cls);
            takePart(cls, number, end);
            takeVirtuals(cls, number, end - hierarchy.partObjects(cls), hierarchy.virtuals(cls));
        }

        /** Takes down the first so many virtual bases; the members in them have the numbers ahead of the end. */
        private void takeVirtuals(int cls, long number, long end, int count) {
            long left = end;
            for (int i = count - 1; i >= 0; i--) {
                int base = hierarchy.virtualAt(cls, i);
                takePart(base, number, left);
                left -= hierarchy.partObjects(base);
            }
        }

        private void takePart(int cls, long number, long end) {
            if (traced >= TRACE) {
                for (int i = 0; i <= cls; i++) {
                    takenParts += hierarchy.partBodies(cls, i);
                }
                return;
            }
            takeBody(cls, number);
            takeInner(cls, number, end, hierarchy.members(cls), hierarchy.bases(cls));
        }

        /** Takes down the first so many members, and the first so many own bases. */
        private void takeInner(int cls, long number, long end, int members, int bases) {
            long left = end;
            for (int i = members - 1; i >= 0; i--) {
                int member = hierarchy.memberAt(cls, i);
                left -= hierarchy.wholeObjects(member);
                takeWhole(member, left);
            }
            for (int i = bases - 1; i >= 0; i--) {
                if (hierarchy.isVirtualAt(cls, i)) continue;
                int base = hierarchy.baseAt(cls, i);
                takePart(base, number, left);
                left -= hierarchy.partObjects(base);
            }
        }

        /** Whether nothing of a making is traced, and none of it throws: as it may be very long, it is only counted. */
        private boolean isQuiet(int cls, boolean isWhole) {
            if (traced < TRACE) return false;
            for (int i = 0; i <= cls; i++) {
                if (times[i] > 0 && bodiesOf(i, cls, isWhole) >= times[i]) return false;
            }
            return true;
        }

        private boolean makeQuietly(int cls, boolean isWhole) {
            for (int i = 0; i <= cls; i++) {
                long bodies = bodiesOf(i, cls, isWhole);
                madeParts += bodies;
                if (times[i] > 0) times[i] -= (int) bodies;
            }
            next += isWhole ? hierarchy.wholeObjects(cls) : hierarchy.partObjects(cls);
            return true;
        }

        private long bodiesOf(int which, int cls, boolean isWhole) {
            return isWhole ? hierarchy.wholeBodies(cls, which) : hierarchy.partBodies(cls, which);
        }

        private void speak(int cls, long number) {
            int method = spoken[cls];
            if (method != NONE) note('V', ownerOf(cls, method), number);
        }

        private void note(char kind, int cls, long number) {
            if (traced >= TRACE) return;
            kinds[traced] = kind;
            classes[traced] = cls;
            objects[traced] = (int) number;
            traced++;
        }
    }
}
