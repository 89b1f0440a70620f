import java.util.Arrays;
import java.util.NoSuchElementException;

/** A language of templates and objects; the document that it keeps to is ../shared/DOC.md. */
public final class Overloadery {
    private static final int NONE = -1;
    private static final int SEVERAL = -2;
    private static final int NAMES = 6;
    private static final int METHODS = 4;
    private static final int PARAMETERS = 3;

    private final TypeTable table;
    private final Hierarchy hierarchy;
    private final Templates templates;
    private final Bodies bodies;
    private final Likeness likeness;
    private final Search search;
    private final Functions functions;
    private final Call call;
    private final Choice choice;
    private final Making making;

    public Overloadery() {
        TypeTable newTable = new TypeTable();
        Hierarchy newHierarchy = new Hierarchy();
        Templates newTemplates = new Templates(newTable, newHierarchy);
        Bodies newBodies = new Bodies(newTable, newHierarchy, newTemplates);
        Likeness newLikeness = new Likeness(newTable, newTemplates, newBodies);
        Functions newFunctions = new Functions(newTable);
        Call newCall = new Call(newTable, newHierarchy, newBodies, newFunctions);
        table = newTable;
        hierarchy = newHierarchy;
        templates = newTemplates;
        bodies = newBodies;
        search = new Search(newTable, newBodies, newLikeness);
        functions = newFunctions;
        call = newCall;
        likeness = newLikeness;
        choice = new Choice(newTable, newHierarchy, newTemplates, newBodies, newLikeness, newFunctions, newCall);
        making = new Making(newHierarchy);
    }

    // ---- types

    public int pointerTo(int type) throws IndexOutOfBoundsException, IllegalStateException {
        needType(type);
        return numberFor(TypeTable.POINTER, table.place(type), NONE);
    }

    public int classType(int cls) throws IndexOutOfBoundsException, IllegalStateException {
        needClass(cls);
        return numberFor(TypeTable.CLASS + cls, NONE, NONE);
    }

    public int parameter(int parameter) throws IllegalArgumentException, IllegalStateException {
        if (!isParameter(parameter)) throw new IllegalArgumentException();
        return numberFor(TypeTable.PARAMETER + parameter, NONE, NONE);
    }

    public int instance(int template, int first, int second)
            throws IndexOutOfBoundsException, IllegalArgumentException, IllegalStateException {
        needRow(template, first, second);
        boolean isSingle = templates.parameters(template) == 1;
        int head = (isSingle ? TypeTable.SINGLE : TypeTable.TWOFOLD) + template;
        return numberFor(head, table.place(first), table.place(second));
    }

    public char kindOf(int type) throws IndexOutOfBoundsException {
        needType(type);
        int head = table.token(type, 0);
        if (head == TypeTable.POINTER) return 'p';
        if (TypeTable.isClass(head)) return 'c';
        if (TypeTable.isParameter(head)) return 't';
        return TypeTable.isInstance(head) ? 'i' : 'b';
    }

    public int types() {
        return table.numbered();
    }

    public int baseOf(int type)
            throws IndexOutOfBoundsException, IllegalArgumentException, NoSuchElementException, IllegalStateException {
        needClosedInstance(type);
        findBody(type);
        int base = bodies.base(table.place(type));
        if (base == NONE) throw new NoSuchElementException();
        return needRoom(table.number(base));
    }

    public int chosenFor(int type) throws IndexOutOfBoundsException, IllegalArgumentException {
        needClosedInstance(type);
        findBody(type);
        return bodies.body(table.place(type));
    }

    // ---- namespaces, classes, templates

    public int addNamespace(int outer) throws IndexOutOfBoundsException, IllegalStateException {
        needNamespace(outer);
        if (functions.namespaces() >= Functions.NAMESPACES) throw new IllegalStateException();
        return functions.putNamespace(outer);
    }

    public int addClass(int namespace) throws IndexOutOfBoundsException, IllegalStateException {
        needNamespace(namespace);
        if (hierarchy.count() >= Hierarchy.CLASSES) throw new IllegalStateException();
        return hierarchy.put(namespace);
    }

    public int addBase(int cls, int base, boolean isVirtual)
            throws IndexOutOfBoundsException, IllegalArgumentException, IllegalStateException {
        needClass(cls);
        needClass(base);
        if (base >= cls || hierarchy.hasOwnBase(cls, base)) throw new IllegalArgumentException();
        if (hierarchy.bases(cls) >= Hierarchy.EACH || making.hasBegun()) throw new IllegalStateException();
        int bases = hierarchy.putBase(cls, base, isVirtual);
        making.findOwners();
        return bases;
    }

    public int addMember(int cls, int member)
            throws IndexOutOfBoundsException, IllegalArgumentException, IllegalStateException {
        needClass(cls);
        needClass(member);
        if (member >= cls) throw new IllegalArgumentException();
        if (hierarchy.members(cls) >= Hierarchy.EACH || making.hasBegun()) throw new IllegalStateException();
        return hierarchy.putMember(cls, member);
    }

    public int addConversion(int cls, int type, boolean isFrom)
            throws IndexOutOfBoundsException, IllegalArgumentException, IllegalStateException {
        needClass(cls);
        needType(type);
        boolean isItself = table.token(type, 0) == TypeTable.CLASS + cls;
        if (isOpen(type) || isItself || hierarchy.hasConversion(cls, type, isFrom)) {
            throw new IllegalArgumentException();
        }
        if (hierarchy.conversions(cls, isFrom) >= Hierarchy.TOLD) throw new IllegalStateException();
        return hierarchy.putConversion(cls, type, isFrom);
    }

    public int addTemplate(int parameters) throws IllegalArgumentException, IllegalStateException {
        if (parameters < 1 || parameters > 2) throw new IllegalArgumentException();
        if (templates.count() >= Templates.TEMPLATES) throw new IllegalStateException();
        return templates.put(parameters);
    }

    public int specialise(int template, int first, int second)
            throws IndexOutOfBoundsException, IllegalArgumentException, IllegalStateException {
        needRow(template, first, second);
        if (templates.specialisations(template) >= Templates.EACH) throw new IllegalStateException();
        return templates.putSpecialisation(template, first, second);
    }

    public int setBase(int template, int specialisation, int type)
            throws IndexOutOfBoundsException, IllegalArgumentException {
        needTemplate(template);
        if (specialisation != Bodies.ITSELF) needSpecialisation(template, specialisation);
        if (type != NONE) {
            needType(type);
            if (!hasBases(type)) throw new IllegalArgumentException();
        }
        return templates.changeBase(template, specialisation, type);
    }

    public int constrain(int template, int specialisation, int parameter, char letter, int cls)
            throws IndexOutOfBoundsException, IllegalArgumentException, IllegalStateException {
        needTemplate(template);
        needSpecialisation(template, specialisation);
        needConstraint(parameter, letter, cls);
        int set = Templates.place(template, specialisation);
        if (templates.constraints(set) >= Templates.MOST_CONSTRAINTS) throw new IllegalStateException();
        int count = templates.putConstraint(set, parameter, letter, cls);
        templates.compareAll(template);
        return count;
    }

    public int distance(int type, int base)
            throws IndexOutOfBoundsException, IllegalArgumentException, NoSuchElementException,
            UnsupportedOperationException {
        needType(type);
        needType(base);
        if (isOpen(type) || isOpen(base)) throw new IllegalArgumentException();
        if (!hasBases(type) || !hasBases(base)) throw new IllegalArgumentException();
        int target = table.place(base);
        startSearch(Search.LOOKS);
        int steps = bodies.steps(table.place(type), target, table.head(target));
        for (int i = 0; i < Call.MOST_NEEDED && bodies.needsOne(); i++) {
            int needed = bodies.takeNeeded();
            if (!search.finds(needed, Search.LOOKS)) search.answerAtLeast(needed);
            steps = bodies.steps(table.place(type), target, table.head(target));
        }
        if (steps == NONE) throw new NoSuchElementException();
        if (steps == SEVERAL) throw new UnsupportedOperationException();
        return steps;
    }

    // ---- functions and calls

    public int addFunction(int namespace, int name, boolean isDeleted)
            throws IndexOutOfBoundsException, IllegalArgumentException, IllegalStateException {
        needNamespace(namespace);
        needName(name);
        if (functions.count() >= Functions.FUNCTIONS) throw new IllegalStateException();
        return functions.put(namespace, name, isDeleted);
    }

    public int addParameter(int function, char mode, int type)
            throws IndexOutOfBoundsException, IllegalArgumentException, IllegalStateException {
        needFunction(function);
        needType(type);
        if (mode != 'v' && mode != 'r' && mode != 'c' && mode != 'm') throw new IllegalArgumentException();
        if (functions.parameters(function) >= Functions.EACH) throw new IllegalStateException();
        return functions.putParameter(function, mode, type);
    }

    public int require(int function, int parameter, char letter, int cls)
            throws IndexOutOfBoundsException, IllegalArgumentException, IllegalStateException {
        needFunction(function);
        needConstraint(parameter, letter, cls);
        int set = Functions.constraintSet(function);
        if (templates.constraints(set) >= Templates.MOST_CONSTRAINTS) throw new IllegalStateException();
        return templates.putConstraint(set, parameter, letter, cls);
    }

    public int addArgument(int type, char category)
            throws IndexOutOfBoundsException, IllegalArgumentException, IllegalStateException {
        needType(type);
        boolean isCategory = category == 'l' || category == 'k' || category == 'r';
        if (isOpen(type) || !isCategory) throw new IllegalArgumentException();
        if (call.count() >= Functions.EACH) throw new IllegalStateException();
        return call.put(type, category);
    }

    public int clearArguments() {
        return call.clear();
    }

    public int candidates(int namespace, int name) throws IndexOutOfBoundsException, IllegalArgumentException {
        needNamespace(namespace);
        needName(name);
        gather(namespace, name);
        return choice.count();
    }

    public boolean isViable(int function) throws IndexOutOfBoundsException {
        needFunction(function);
        startSearch(Search.LOOKS);
        return settles(function);
    }

    public int coming(int function, int argument) throws IndexOutOfBoundsException, IllegalStateException {
        needFunction(function);
        if (argument < 0 || argument >= call.count()) throw new IndexOutOfBoundsException();
        startSearch(Search.LOOKS);
        if (!settles(function)) throw new IllegalStateException();
        int way = call.wayOf(function, argument);
        return call.isSure(function, argument) ? way : -1 - way;
    }

    public int deduced(int function, int parameter)
            throws IndexOutOfBoundsException, IllegalStateException, NoSuchElementException,
            UnsupportedOperationException {
        needFunction(function);
        if (!isParameter(parameter)) throw new IndexOutOfBoundsException();
        startSearch(Search.LOOKS);
        if (!settles(function)) throw new IllegalStateException();
        int type = call.bound(parameter);
        if (type == NONE) throw new NoSuchElementException();
        int number = table.number(type);
        if (number == NONE) throw new UnsupportedOperationException();
        return number;
    }

    public int resolve(int namespace, int name) throws IndexOutOfBoundsException, IllegalArgumentException {
        needNamespace(namespace);
        needName(name);
        gather(namespace, name);
        startSearch(Search.LOOKS);
        for (int i = 0; i < functions.count(); i++) {
            if (choice.has(i) && !settles(i)) choice.drop(i);
        }
        return choice.answer(choice.bestByWalks());
    }

    public int resolveAnew(int namespace, int name) throws IndexOutOfBoundsException, IllegalArgumentException {
        needNamespace(namespace);
        needName(name);
        gather(namespace, name);
        startSearch(Search.LOOKS);
        for (int i = 0; i < functions.count(); i++) {
            if (choice.has(i) && !settles(i)) choice.drop(i);
        }
        return choice.answer(choice.bestByPairs());
    }

    // ---- objects

    public boolean override(int cls, int method, boolean does)
            throws IndexOutOfBoundsException, IllegalArgumentException {
        needClass(cls);
        if (!isMethod(method)) throw new IllegalArgumentException();
        return making.changeOverriding(cls, method, does);
    }

    public int overrider(int cls, int method) throws IndexOutOfBoundsException, IllegalArgumentException {
        needClass(cls);
        if (!isMethod(method)) throw new IllegalArgumentException();
        return making.ownerOf(cls, method);
    }

    public int setBody(int cls, int method, boolean delegates)
            throws IndexOutOfBoundsException, IllegalArgumentException {
        needClass(cls);
        if (method != NONE && !isMethod(method)) throw new IllegalArgumentException();
        return making.changeBody(cls, method, delegates);
    }

    public int setThrow(int cls, int times) throws IndexOutOfBoundsException, IllegalArgumentException {
        needClass(cls);
        if (times < 0 || times > Making.TIMES) throw new IllegalArgumentException();
        return making.changeTimes(cls, times);
    }

    public int open(boolean isTry) throws IllegalStateException {
        if (making.blocks() >= Making.BLOCKS) throw new IllegalStateException();
        return making.openBlock(isTry);
    }

    public int close() throws IllegalStateException {
        if (making.blocks() <= 1) throw new IllegalStateException();
        return making.closeBlock();
    }

    public char make(int cls, char how, int many)
            throws IndexOutOfBoundsException, IllegalArgumentException, IllegalStateException {
        needClass(cls);
        boolean isArray = how == 'a';
        if (!isArray && how != 'o' && how != 't' && how != 'l') throw new IllegalArgumentException();
        if (isArray && (many < 1 || many > Making.ARRAY)) throw new IllegalArgumentException();
        int count = isArray ? many : 1;
        if (making.livingCount() + count > Making.LIVING) throw new IllegalStateException();
        return making.makeObjects(cls, how == 't', count);
    }

    public int endExpression() {
        return making.takeTemporaries();
    }

    public char raise() {
        return making.unwind();
    }

    public int living() {
        return making.livingCount();
    }

    public int trace() {
        return making.traced();
    }

    public char traceKind(int index) throws IndexOutOfBoundsException {
        needTraced(index);
        return making.kindAt(index);
    }

    public int traceClass(int index) throws IndexOutOfBoundsException {
        needTraced(index);
        return making.classAt(index);
    }

    public int traceObject(int index) throws IndexOutOfBoundsException {
        needTraced(index);
        return making.objectAt(index);
    }

    // ---- totals

    public long made() {
        return making.madeParts();
    }

    public long takenDown() {
        return making.takenParts();
    }

    public float viableShare() throws ArithmeticException {
        int all = functions.count();
        if (all == 0) throw new ArithmeticException();
        int viable = 0;
        startSearch(Search.LOOKS);
        for (int i = 0; i < all; i++) {
            if (settles(i)) viable++;
        }
        return (float) viable / (float) all;
    }

    public double meanParts() throws ArithmeticException {
        int all = hierarchy.count();
        if (all == 0) throw new ArithmeticException();
        long sum = 0;
        for (int i = 0; i < all; i++) {
            sum += hierarchy.allParts(i);
        }
        return (double) sum / (double) all;
    }

    // ---- how bodies are found for a call

    /** Forgets what was found of bodies; from now on there are so many looks at instances. */
    private void startSearch(int looks) {
        templates.findEnds();
        likeness.renew();
        table.forgetPassing();
        bodies.startAnew();
        search.startAnew(looks);
    }

    private void findBody(int type) {
        int place = table.place(type);
        startSearch(Search.LOOKS);
        if (!search.finds(place, Search.LOOKS)) search.answerAtLeast(place);
    }

    /** Whether a function is viable; how the arguments come to its parameters is known then. A search must have begun. */
    private boolean settles(int function) {
        if (table.isFull() || search.isSpent()) startSearch(Search.FEW_LOOKS);
        boolean isViable = call.settles(function);
        for (int i = 0; i < Call.MOST_NEEDED && bodies.needsOne(); i++) {
            int type = bodies.takeNeeded();
            if (!search.finds(type, Search.LOOKS)) search.answerAtLeast(type);
            isViable = call.settles(function);
        }
        return isViable;
    }

    /** Finds the candidates of the call of a name. */
    private void gather(int namespace, int name) {
        choice.begin(namespace, name);
        for (int i = 0; i < call.count() && choice.lacksSome(); i++) {
            templates.findEnds();
            templates.lookBehind(call.argument(i));
            boolean isDone = false;
            for (int way = 0; way < Choice.WAYS && !isDone; way++) {
                boolean isLast = way == Choice.WAYS - 1;
                startSearch(isLast ? Search.LOOKS : Search.FEW_LOOKS);
                choice.beginWalk(call.argument(i), way);
                for (int j = 0; j < TypeTable.ROOM && choice.goesOn() && !search.isSpent(); j++) {
                    int needed = bodies.takeNeeded();
                    int looks = choice.isLate() ? Search.LOOKS : Search.LEAST_LOOKS;
                    if (search.finds(needed, looks)) continue;
                    if (!choice.isLate()) choice.putOff();
                    else if (isLast) search.answerAtLeast(needed);
                    else break;
                }
                isDone = choice.isDone();
            }
        }
    }

    // ---- what the calls ask of their arguments

    private void needType(int type) {
        if (!table.has(type)) throw new IndexOutOfBoundsException();
    }

    private void needClass(int cls) {
        if (cls < 0 || cls >= hierarchy.count()) throw new IndexOutOfBoundsException();
    }

    private void needNamespace(int namespace) {
        if (namespace < 0 || namespace >= functions.namespaces()) throw new IndexOutOfBoundsException();
    }

    private void needTemplate(int template) {
        if (template < 0 || template >= templates.count()) throw new IndexOutOfBoundsException();
    }

    private void needSpecialisation(int template, int specialisation) {
        if (specialisation < 0 || specialisation >= templates.specialisations(template)) {
            throw new IndexOutOfBoundsException();
        }
    }

    private void needFunction(int function) {
        if (function < 0 || function >= functions.count()) throw new IndexOutOfBoundsException();
    }

    private void needTraced(int index) {
        if (index < 0 || index >= making.traced()) throw new IndexOutOfBoundsException();
    }

    private void needName(int name) {
        if (name < 0 || name >= NAMES) throw new IllegalArgumentException();
    }

    /** A row of one or two types for a template. */
    private void needRow(int template, int first, int second) {
        needTemplate(template);
        needType(first);
        if (second != NONE) needType(second);
        boolean isSingle = templates.parameters(template) == 1;
        if (isSingle != (second == NONE)) throw new IllegalArgumentException();
    }

    private void needClosedInstance(int type) {
        needType(type);
        if (!TypeTable.isInstance(table.token(type, 0)) || isOpen(type)) throw new IllegalArgumentException();
    }

    private void needConstraint(int parameter, char letter, int cls) {
        if (letter == 'd') needClass(cls);
        boolean isLetter = letter == 'p' || letter == 'c' || letter == 'b' || letter == 'd';
        if (!isParameter(parameter) || !isLetter) throw new IllegalArgumentException();
    }

    private int needRoom(int type) {
        if (type == NONE) throw new IllegalStateException();
        return type;
    }

    private int numberFor(int head, int first, int second) {
        table.forgetPassing();
        return needRoom(table.number(table.made(head, first, second)));
    }

    private boolean isOpen(int type) {
        return table.isOpen(table.place(type));
    }

    private boolean hasBases(int type) {
        int head = table.token(type, 0);
        return TypeTable.isClass(head) || TypeTable.isInstance(head);
    }

    private static boolean isParameter(int parameter) {
        return parameter >= 0 && parameter < PARAMETERS;
    }

    private static boolean isMethod(int method) {
        return method >= 0 && method < METHODS;
    }

    /**
     * The types. Each is told by what stands ahead in it and by the one or two types that it is made of, and is there
     * once, so that the same type has the same place. Those with a number, and the types in them, come first; behind
     * them are the passing ones, which come about within a call and are forgotten ahead of the next search.
     */
    private static final class TypeTable {
        static final int TRUTH = 0;
        static final int LETTER = 1;
        static final int WHOLE = 2;
        static final int BASIC = 5;
        static final int CLASS = 10;
        static final int PARAMETER = 30;
        static final int POINTER = 40;
        static final int SINGLE = 50;
        static final int TWOFOLD = 60;
        /** No types: what stands for all pointers of a size, for all classes and instances, for all others. */
        static final int LIKE_POINTER = 70;
        static final int LIKE_CLASS = 71;
        static final int LIKE_BASIC = 72;
        static final int HEADS = 73;

        static final int NUMBERED = 150;
        static final int LARGEST = 30;
        /** No bound of the document: that of the room in which the program lives. */
        static final int ROOM = 900_000;

        /** What others note of a type during a search, 0 at first: the place of the bits in a row of longs. */
        static final int BODY = 0;
        static final int BASE = 21;
        static final int LINK = 42;
        static final int QUEUE = 64;
        static final int ORIGIN = 85;
        static final int NORM = 128;
        static final int BLOCK = 149;
        private static final int NOTE = (1 << 21) - 1;
        private static final int WORD_AT = 6;

        /** The row of a type: its shape, three longs of notes, and on which guesses its body depends, as bits. */
        private static final int NOTES = 1;
        private static final int REASONS = 4;
        /** Where it is noted which type is ahead of one in a chain. */
        private static final int CHAINED = 2;
        private static final int CHAINED_AT = 42;
        private static final int ROW = 5;

        /** The rows become more three times, when there may be no more room for a base. */
        private static final int FEW = 1 << 10;
        private static final int SOME = 1 << 16;
        private static final int MORE = 3;
        private static final int SPARE = 100;
        private static final int FEW_CHAINS = 1 << 11;
        private static final int MANY_CHAINS = 1 << 17;
        private static final int CROWD = 8;
        private static final long SPREAD = 0x9E3779B97F4A7C15L;
        private static final int SPREAD_AT = 40;

        /**
         * The shape of a type: what stands ahead in it and 1, its size, whether it is open, the places of its types and
         * 1.
         */
        private static final int SIZE_AT = 7;
        private static final int OPEN_AT = 12;
        private static final int FIRST_AT = 13;
        private static final int SECOND_AT = 33;
        private static final int ALL_HEADS = (1 << SIZE_AT) - 1;
        private static final int SIZES = (1 << OPEN_AT - SIZE_AT) - 1;
        private static final int PLACES = (1 << SECOND_AT - FIRST_AT) - 1;

        private long[] rows = new long[FEW * ROW];
        /** Of each chain of types the last one and 1; the one ahead of it is noted. */
        private int[] chains = new int[FEW_CHAINS];
        private int count;
        private boolean hasNotes;
        private int lasting;
        private int numbered;
        private final int[] places = new int[NUMBERED];
        /** The types with a number once more, as rows, in which each type stands ahead of those that it is made of. */
        private final int[] tokens = new int[NUMBERED * LARGEST];
        private final int[] stack = new int[LARGEST + 1];

        TypeTable() {
            for (int i = 0; i < BASIC; i++) {
                places[i] = kept(shape(i, NONE, NONE, 1, false));
                tokens[i * LARGEST] = i;
            }
            lasting = count;
            numbered = BASIC;
        }

        static boolean isBasic(int head) {
            return head >= 0 && head < BASIC;
        }

        static boolean isClass(int head) {
            return head >= CLASS && head < PARAMETER;
        }

        static boolean isParameter(int head) {
            return head >= PARAMETER && head < POINTER;
        }

        static boolean isLike(int head) {
            return head >= LIKE_POINTER;
        }

        /** What stands for all types of the same kind, NONE for no type and for a parameter. */
        static int likeHead(int head) {
            if (head >= LIKE_POINTER) return head;
            if (head >= SINGLE || head >= CLASS && head < PARAMETER) return LIKE_CLASS;
            if (head == POINTER) return LIKE_POINTER;
            return head >= 0 && head < BASIC ? LIKE_BASIC : NONE;
        }

        static boolean isInstance(int head) {
            return head >= SINGLE && head < LIKE_POINTER;
        }

        static int templateOf(int head) {
            return head >= TWOFOLD ? head - TWOFOLD : head - SINGLE;
        }

        static long shape(int head, int first, int second, int size, boolean isOpen) {
            int low = head + 1 | size << SIZE_AT | (isOpen ? 1 << OPEN_AT : 0);
            return low | (long) (first + 1) << FIRST_AT | (long) (second + 1) << SECOND_AT;
        }

        int numbered() {
            return numbered;
        }

        boolean has(int number) {
            return number >= 0 && number < numbered;
        }

        /** The place of a type with a number, NONE if there is none. */
        int place(int number) {
            return number >= 0 && number < numbered ? places[number] : NONE;
        }

        /** What stands at an index of the row of a type with a number, ahead in it at the index 0. */
        int token(int number, int at) {
            return tokens[number * LARGEST + at];
        }

        int count() {
            return count;
        }

        /** Whether there may be no room for another base. */
        boolean isFull() {
            return count + SPARE > ROOM;
        }

        /** What stands ahead in a type: what it is, and of which class or template; NONE for no type. */
        int head(int place) {
            return place >= 0 && place < count ? ((int) rows[place * ROW] & ALL_HEADS) - 1 : NONE;
        }

        /** The number of types in it, counting each one as often as it is there; 0 for no type. */
        int size(int place) {
            return place >= 0 && place < count ? (int) (rows[place * ROW] >> SIZE_AT) & SIZES : 0;
        }

        boolean isOpen(int place) {
            return place >= 0 && place < count && (rows[place * ROW] >> OPEN_AT & 1) == 1;
        }

        /** The first type that a type is made of, NONE if there is none. */
        int first(int place) {
            return place >= 0 && place < count ? ((int) (rows[place * ROW] >> FIRST_AT) & PLACES) - 1 : NONE;
        }

        int second(int place) {
            return place >= 0 && place < count ? ((int) (rows[place * ROW] >> SECOND_AT) & PLACES) - 1 : NONE;
        }

        int note(int place, int kind) {
            if (place < 0 || place >= count) return 0;
            return (int) (rows[place * ROW + NOTES + (kind >> WORD_AT)] >> kind) & NOTE;
        }

        void setNote(int place, int kind, int value) {
            if (place < 0 || place >= count) return;
            int at = place * ROW + NOTES + (kind >> WORD_AT);
            rows[at] = rows[at] & ~((long) NOTE << kind) | (long) value << kind;
            hasNotes = true;
        }

        /** The guesses on which the body of a type depends, as bits. */
        long reasons(int place) {
            return place >= 0 && place < count ? rows[place * ROW + REASONS] : 0;
        }

        void setReasons(int place, long reasons) {
            if (place >= 0 && place < count) rows[place * ROW + REASONS] = reasons;
        }

        /** The type that is made of up to two types; NONE if it would be too large. */
        int made(int head, int first, int second) {
            int size = 1 + size(first) + size(second);
            if (size > LARGEST) return NONE;
            return kept(shape(head, first, second, size, isParameter(head) || isOpen(first) || isOpen(second)));
        }

        /** The place of a type; NONE if it is not there, and there is no room for it. */
        int kept(long shape) {
            int chain = (int) (shape * SPREAD >>> SPREAD_AT) & chains.length - 1;
            int at = chains[chain] - 1;
            for (int i = 0; i < count && at >= 0; i++) {
                if (rows[at * ROW] == shape) return at;
                at = (int) (rows[at * ROW + CHAINED] >>> CHAINED_AT) - 1;
            }
            int row = count * ROW;
            if (row + ROW > rows.length) return NONE;
            for (int i = 0; i < ROW; i++) {
                rows[row + i] = 0;
            }
            rows[row] = shape;
            rows[row + CHAINED] = (long) chains[chain] << CHAINED_AT;
            chains[chain] = ++count;
            return count - 1;
        }

        /** Makes the rows more if a base could be too much, and makes more chains if they have become long. */
        void makeRoom() {
            if ((count + SPARE) * ROW > rows.length && rows.length < ROOM * ROW) {
                rows = Arrays.copyOf(rows, rows.length < SOME * ROW ? rows.length << MORE : ROOM * ROW);
            }
            if (count <= chains.length * CROWD || chains.length >= MANY_CHAINS) return;
            chains = new int[chains.length * CROWD];
            for (int place = 0; place < count; place++) {
                int chain = (int) (rows[place * ROW] * SPREAD >>> SPREAD_AT) & chains.length - 1;
                int at = place * ROW + CHAINED;
                rows[at] = rows[at] & (1L << CHAINED_AT) - 1 | (long) chains[chain] << CHAINED_AT;
                chains[chain] = place + 1;
            }
        }

        /** Forgets the passing types and all notes. */
        void forgetPassing() {
            makeRoom();
            if (!hasNotes && count <= lasting) return;
            for (int place = count - 1; place >= lasting; place--) {
                // The last type is the last one of its chain.
                int chain = (int) (rows[place * ROW] * SPREAD >>> SPREAD_AT) & chains.length - 1;
                chains[chain] = (int) (rows[place * ROW + CHAINED] >>> CHAINED_AT);
            }
            count = Math.min(count, lasting);
            for (int place = 0; place < count; place++) {
                long chained = rows[place * ROW + CHAINED] >>> CHAINED_AT << CHAINED_AT;
                for (int i = NOTES; i < ROW; i++) {
                    rows[place * ROW + i] = i == CHAINED ? chained : 0;
                }
            }
            hasNotes = false;
        }

        /** The number of a type, a new one if need be, which forgets the passing types; NONE if it can't have one. */
        int number(int place) {
            for (int i = 0; i < numbered; i++) {
                if (places[i] == place) return i;
            }
            if (place == NONE || numbered >= NUMBERED) return NONE;
            int size = size(place);
            int row = numbered * LARGEST;
            writeRow(place, row);
            forgetPassing();
            places[numbered] = keptRow(row, size);
            lasting = count;
            return numbered++;
        }

        private void writeRow(int place, int row) {
            int size = size(place);
            int left = 0;
            int at = place;
            for (int i = 0; i < size; i++) {
                tokens[row + i] = head(at);
                int second = second(at);
                if (second != NONE) stack[left++] = second;
                at = first(at);
                if (at == NONE && left > 0) at = stack[--left];
            }
        }

        private int keptRow(int row, int size) {
            int left = 0;
            for (int i = row + size - 1; i >= row; i--) {
                int first = tokens[i] >= POINTER && left > 0 ? stack[--left] : NONE;
                int second = tokens[i] >= TWOFOLD && left > 0 ? stack[--left] : NONE;
                stack[left++] = made(tokens[i], first, second);
            }
            return left > 0 ? stack[0] : NONE;
        }

        /** The classes and templates in a type, as bits, those of the classes first. */
        int contents(int place) {
            int size = size(place);
            int all = 0;
            int left = 0;
            int at = place;
            for (int i = 0; i < size; i++) {
                int head = head(at);
                if (isClass(head)) all |= 1 << head - CLASS;
                if (isInstance(head)) all |= 1 << Hierarchy.CLASSES + templateOf(head);
                int second = second(at);
                if (second != NONE) stack[left++] = second;
                at = first(at);
                if (at == NONE && left > 0) at = stack[--left];
            }
            return all;
        }
    }

    /** What the parameters stand for, in several frames that are used side by side. */
    private static final class Bindings {
        private final TypeTable table;
        private final int[] types;
        private final int[] stack = new int[TypeTable.LARGEST + 1];

        Bindings(TypeTable table, int frames) {
            this.table = table;
            types = new int[(frames > 0 ? frames : 1) * PARAMETERS];
        }

        void empty(int frame) {
            for (int i = 0; i < PARAMETERS; i++) {
                types[frame * PARAMETERS + i] = NONE;
            }
        }

        void copy(int from, int to) {
            System.arraycopy(types, from * PARAMETERS, types, to * PARAMETERS, PARAMETERS);
        }

        /** What a parameter stands for, NONE for nothing. */
        int type(int frame, int parameter) {
            return types[frame * PARAMETERS + parameter];
        }

        /** Lets a parameter stand for a type, unless it stands for another one. */
        boolean stand(int frame, int parameter, int type) {
            int slot = frame * PARAMETERS + parameter;
            if (types[slot] == NONE) types[slot] = type;
            return types[slot] == type;
        }

        /** Whether a pattern, which has a number, matches a type with what was matched before; the rest is gathered. */
        boolean matches(int frame, int pattern, int type) {
            int size = table.size(table.place(pattern));
            int left = 0;
            int at = type;
            for (int i = 0; i < size; i++) {
                int token = table.token(pattern, i);
                int next = NONE;
                if (TypeTable.isParameter(token)) {
                    if (!stand(frame, token - TypeTable.PARAMETER, at)) return false;
                } else {
                    if (table.head(at) != token) return false;
                    int second = table.second(at);
                    if (second != NONE) stack[left++] = second;
                    next = table.first(at);
                }
                at = next == NONE && left > 0 ? stack[--left] : next;
            }
            return true;
        }

        /**
         * A type, which has a number, with the types for which its parameters stand, none of which is open; NONE if one
         * stands for nothing, or if it would be too large.
         */
        int replaced(int frame, int number) {
            int size = table.size(table.place(number));
            int whole = 0;
            for (int i = 0; i < size; i++) {
                int token = table.token(number, i);
                boolean isParameter = TypeTable.isParameter(token);
                int part = isParameter ? table.size(types[frame * PARAMETERS + token - TypeTable.PARAMETER]) : 1;
                whole = part == 0 ? TypeTable.LARGEST + 1 : whole + part;
            }
            int left = 0;
            for (int i = size - 1; i >= 0 && whole <= TypeTable.LARGEST; i--) {
                int token = table.token(number, i);
                int first = token >= TypeTable.POINTER && left > 0 ? stack[--left] : NONE;
                int second = token >= TypeTable.TWOFOLD && left > 0 ? stack[--left] : NONE;
                int part = 1 + table.size(first) + table.size(second);
                boolean isParameter = TypeTable.isParameter(token);
                int type = isParameter ? types[frame * PARAMETERS + token - TypeTable.PARAMETER]
                        : table.kept(TypeTable.shape(token, first, second, part, false));
                if (type == NONE) return NONE;
                stack[left++] = type;
            }
            return left > 0 ? stack[0] : NONE;
        }
    }

    /**
     * The class templates with their specialisations, and the sets of constraints, those of specialisations ahead of
     * those of functions; and what follows from all this whatever the types are.
     */
    private static final class Templates {
        static final int TEMPLATES = 5;
        static final int EACH = 4;
        static final int MOST_CONSTRAINTS = 4;
        static final int ROW = 2;
        private static final int FITTINGS = 1 << EACH;
        private static final int SETS = TEMPLATES * EACH + Functions.FUNCTIONS;

        private final TypeTable table;
        private final Hierarchy hierarchy;
        private final Bindings bindings;
        private int count;
        private final int[] parameters = new int[TEMPLATES];
        private final int[] specialisations = new int[TEMPLATES];
        private final int[] patterns = new int[TEMPLATES * EACH * ROW];
        private final int[] bases = new int[TEMPLATES * (EACH + 1)];
        private final boolean[] isOver = new boolean[TEMPLATES * EACH * EACH];
        private final int[] chosen = new int[TEMPLATES * FITTINGS];
        private final int[] constraintCounts = new int[SETS];
        private final int[] constrained = new int[SETS * MOST_CONSTRAINTS];
        private final char[] letters = new char[SETS * MOST_CONSTRAINTS];
        private final int[] classes = new int[SETS * MOST_CONSTRAINTS];
        /** For each set and parameter, the classes of its constraints 'd', as bits. */
        private final int[] wanted = new int[SETS * PARAMETERS];
        /** For each number of steps, the classes at which the bases of an instance can end at most, as bits. */
        private final int[] ends = new int[(Bodies.STEPS + 1) * TEMPLATES];
        /** For each number of steps by which an instance was come to, the classes to which it can lead at most, as bits. */
        private final int[] led = new int[(Bodies.STEPS + 1) * TEMPLATES];
        /** The classes to which a specialisation asks that something leads, as bits. */
        private int allWanted;
        /** The classes and templates that can be met by way of an instance, as bits. */
        private final int[] behind = new int[TEMPLATES];
        private int changes;
        private int changesSeen = NONE;

        Templates(TypeTable table, Hierarchy hierarchy) {
            this.table = table;
            this.hierarchy = hierarchy;
            bindings = new Bindings(table, 1);
        }

        /** The set of constraints of a specialisation. */
        static int place(int template, int specialisation) {
            return template * EACH + specialisation;
        }

        int count() {
            return count;
        }

        int parameters(int template) {
            return parameters[template];
        }

        int specialisations(int template) {
            return specialisations[template];
        }

        int pattern(int template, int specialisation, int at) {
            return patterns[(template * EACH + specialisation) * ROW + at];
        }

        /** How often something of the templates was changed. */
        int changes() {
            return changes;
        }

        int base(int template, int body) {
            return bases[template * (EACH + 1) + body + 1];
        }

        /** Whether one specialisation is more special than another one. */
        boolean isOver(int template, int own, int other) {
            return isOver[(template * EACH + own) * EACH + other];
        }

        /** The body that is chosen if these specialisations fit, both as bits. */
        int chosen(int template, int fitting) {
            return chosen[template * FITTINGS + fitting];
        }

        int constraints(int set) {
            return constraintCounts[set];
        }

        /** Whether what a parameter stands for is of the kind that the constraints ask for. */
        boolean suits(int set, int parameter, int head) {
            int like = TypeTable.likeHead(head);
            for (int i = set * MOST_CONSTRAINTS; i < set * MOST_CONSTRAINTS + constraintCounts[set]; i++) {
                char letter = letters[i];
                int asked = letter == 'p' ? TypeTable.LIKE_POINTER
                        : letter == 'b' ? TypeTable.LIKE_BASIC : TypeTable.LIKE_CLASS;
                if (constrained[i] == parameter && like != asked) return false;
            }
            return true;
        }

        /** The classes at which the bases of an instance can end at most by so many steps, as bits. */
        int ends(int template, int steps) {
            return ends[steps * TEMPLATES + template];
        }

        /** The classes to which an instance that was come to by some steps can lead at most, as bits. */
        int led(int template, int step) {
            return led[step * TEMPLATES + template];
        }

        /** The classes to which a specialisation asks that something leads, as bits. */
        int allWanted() {
            return allWanted;
        }

        /** The classes to which the type of a parameter must lead, as bits. */
        int wanted(int set, int parameter) {
            return wanted[set * PARAMETERS + parameter];
        }

        int put(int howMany) {
            parameters[count] = howMany;
            for (int body = Bodies.ITSELF; body < EACH; body++) {
                bases[count * (EACH + 1) + body + 1] = NONE;
            }
            compareAll(count);
            return count++;
        }

        int putSpecialisation(int template, int first, int second) {
            int number = specialisations[template]++;
            int row = place(template, number) * ROW;
            patterns[row] = first;
            patterns[row + 1] = second;
            compareAll(template);
            return number;
        }

        int changeBase(int template, int body, int type) {
            int place = template * (EACH + 1) + body + 1;
            int before = bases[place];
            bases[place] = type;
            changes++;
            return before;
        }

        int putConstraint(int set, int parameter, char letter, int cls) {
            int place = set * MOST_CONSTRAINTS + constraintCounts[set];
            constrained[place] = parameter;
            letters[place] = letter;
            // The class of another letter has no meaning, so it must not tell two constraints apart.
            classes[place] = letter == 'd' ? cls : NONE;
            if (letter == 'd') wanted[set * PARAMETERS + parameter] |= 1 << cls;
            return ++constraintCounts[set];
        }

        void compareAll(int template) {
            changes++;
            for (int own = 0; own < specialisations[template]; own++) {
                for (int other = 0; other < specialisations[template]; other++) {
                    int ownPlace = place(template, own);
                    int otherPlace = place(template, other);
                    isOver[ownPlace * EACH + other] = isMoreSpecial(patterns, ownPlace * ROW, otherPlace * ROW,
                            parameters[template], ownPlace, otherPlace);
                }
            }
            for (int fitting = 0; fitting < FITTINGS; fitting++) {
                chosen[template * FITTINGS + fitting] = foundFirst(template, fitting);
            }
        }

        /** The one that is more special than all others that fit. */
        private int foundFirst(int template, int fitting) {
            for (int own = 0; own < EACH; own++) {
                boolean isFirst = (fitting >> own & 1) == 1;
                for (int other = 0; other < EACH && isFirst; other++) {
                    boolean isRival = other != own && (fitting >> other & 1) == 1;
                    if (isRival && !isOver(template, own, other)) isFirst = false;
                }
                if (isFirst) return 1 << own;
            }
            return fitting == 0 ? Bodies.ITSELF_BIT : Bodies.UNSURE_BIT;
        }

        /** Whether one row of patterns, with a set of constraints, is more special than another one. */
        boolean isMoreSpecial(int[] rows, int own, int other, int length, int ownSet, int otherSet) {
            if (!matchesAll(rows, other, own, length)) return false;
            if (!matchesAll(rows, own, other, length)) return true;
            return holdsAllOf(ownSet, otherSet) && !holdsAllOf(otherSet, ownSet);
        }

        private boolean matchesAll(int[] rows, int matching, int matched, int length) {
            bindings.empty(0);
            for (int i = 0; i < length; i++) {
                if (!bindings.matches(0, rows[matching + i], table.place(rows[matched + i]))) return false;
            }
            return true;
        }

        private boolean holdsAllOf(int set, int other) {
            for (int i = 0; i < constraintCounts[other]; i++) {
                if (!hasConstraint(set, other * MOST_CONSTRAINTS + i)) return false;
            }
            return true;
        }

        private boolean hasConstraint(int set, int place) {
            for (int i = set * MOST_CONSTRAINTS; i < set * MOST_CONSTRAINTS + constraintCounts[set]; i++) {
                boolean isSameLetter = letters[i] == letters[place] && classes[i] == classes[place];
                if (isSameLetter && constrained[i] == constrained[place]) return true;
            }
            return false;
        }

        /** To be called ahead of a search, as templates or classes may have changed. */
        void findEnds() {
            int now = changes + hierarchy.changes();
            if (now == changesSeen) return;
            changesSeen = now;
            for (int steps = 1; steps <= Bodies.STEPS; steps++) {
                for (int i = 0; i < count; i++) {
                    int all = 0;
                    for (int body = Bodies.ITSELF; body < specialisations[i]; body++) {
                        int head = canBeChosen(i, body) ? table.head(table.place(base(i, body))) : NONE;
                        if (TypeTable.isClass(head)) all |= 1 << head - TypeTable.CLASS;
                        if (TypeTable.isInstance(head)) all |= ends(TypeTable.templateOf(head), steps - 1);
                    }
                    ends[steps * TEMPLATES + i] = all;
                }
            }
            for (int step = 0; step < Bodies.STEPS; step++) {
                for (int i = 0; i < count; i++) {
                    led[step * TEMPLATES + i] = foundLed(i, step);
                }
            }
            allWanted = 0;
            for (int i = 0; i < TEMPLATES * EACH * PARAMETERS; i++) {
                allWanted |= wanted[i];
            }
        }

        private int foundLed(int template, int step) {
            int all = 0;
            for (int next = step + 1; next <= Bodies.STEPS; next++) {
                for (int cls = 0; cls < hierarchy.count(); cls++) {
                    if ((ends(template, next - step) >> cls & 1) == 1) all |= hierarchy.led(cls, next);
                }
            }
            return all;
        }

        /** Whether a body can be chosen for any instance. */
        private boolean canBeChosen(int template, int body) {
            if (isNeverFirst(template, body)) return false;
            boolean isPossible = true;
            for (int i = 0; i < PARAMETERS && isPossible && body != Bodies.ITSELF; i++) {
                int classes = wanted(place(template, body), i);
                isPossible = classes == 0;
                for (int cls = 0; cls < hierarchy.count() && !isPossible; cls++) {
                    isPossible = hierarchy.leads(cls, classes, 0) || hierarchy.leads(cls, classes, 1);
                }
            }
            return isPossible;
        }

        /** Whether a specialisation that always fits stands in the way of a body. */
        private boolean isNeverFirst(int template, int body) {
            for (int i = 0; i < specialisations[template]; i++) {
                boolean isRival = i != body && alwaysFits(template, i);
                if (isRival && (body == Bodies.ITSELF || !isOver(template, body, i))) return true;
            }
            return false;
        }

        private boolean alwaysFits(int template, int specialisation) {
            int first = table.head(table.place(pattern(template, specialisation, 0)));
            int second = table.head(table.place(pattern(template, specialisation, 1)));
            boolean isSingle = parameters[template] == 1;
            boolean isAny = TypeTable.isParameter(first) && (isSingle || TypeTable.isParameter(second));
            return isAny && first != second && constraintCounts[place(template, specialisation)] == 0;
        }

        /**
         * Finds what can be met by way of a type, or of any one if it is NONE, as bits.
         */
        void lookBehind(int type) {
            int about = type == NONE ? (1 << Hierarchy.CLASSES + TEMPLATES) - 1 : table.contents(type);
            for (int i = 0; i < TEMPLATES * (EACH + 1); i++) {
                for (int template = 0; template < count; template++) {
                    if (isIn(template, about)) about |= contentsOfBases(template, about);
                }
            }
            for (int template = 0; template < count; template++) {
                behind[template] = contentsOfBases(template, about);
            }
            for (int i = 0; i < TEMPLATES; i++) {
                for (int template = 0; template < count; template++) {
                    for (int other = 0; other < count; other++) {
                        if (isIn(other, behind[template])) behind[template] |= behind[other];
                    }
                }
            }
        }

        private static boolean isIn(int template, int contents) {
            return (contents >> Hierarchy.CLASSES + template & 1) == 1;
        }

        /** The classes that can be met by way of a type, its parts and its bases at most, as bits. */
        int classesBehind(int type) {
            int all = table.contents(type);
            for (int template = 0; template < count; template++) {
                if (isIn(template, all)) all |= behind[template];
            }
            int found = 0;
            for (int cls = 0; cls < hierarchy.count(); cls++) {
                if ((all >> cls & 1) == 1) found |= hierarchy.allBases(cls);
            }
            return found;
        }

        /** The classes and templates in the bases that a template can have, with these classes and templates about. */
        private int contentsOfBases(int template, int about) {
            int all = 0;
            for (int body = Bodies.ITSELF; body < specialisations[template]; body++) {
                boolean isPossible = canBeChosen(template, body);
                for (int i = 0; i < PARAMETERS && isPossible && body != Bodies.ITSELF; i++) {
                    isPossible = canHold(place(template, body), i, about);
                }
                if (isPossible) all |= table.contents(table.place(base(template, body)));
            }
            return all;
        }

        /** Whether the constraints of a parameter may hold, with these classes and templates about. */
        private boolean canHold(int set, int parameter, int about) {
            if (canHoldFor(set, parameter, TypeTable.POINTER)) return true;
            if (canHoldFor(set, parameter, TypeTable.TRUTH)) return true;
            for (int i = 0; i < Hierarchy.CLASSES; i++) {
                if ((about >> i & 1) == 1 && canHoldFor(set, parameter, TypeTable.CLASS + i)) return true;
            }
            for (int i = 0; i < count; i++) {
                boolean isAbout = (about >> Hierarchy.CLASSES + i & 1) == 1;
                if (isAbout && canHoldFor(set, parameter, TypeTable.SINGLE + i)) return true;
            }
            return false;
        }

        private boolean canHoldFor(int set, int parameter, int head) {
            if (!suits(set, parameter, head)) return false;
            int classes = wanted(set, parameter);
            if (classes == 0) return true;
            if (TypeTable.isClass(head)) return hierarchy.leads(head - TypeTable.CLASS, classes, 0);
            if (!TypeTable.isInstance(head)) return false;
            return hierarchy.oneLeads(ends(TypeTable.templateOf(head), Bodies.STEPS), classes, 1);
        }
    }

    /** The classes with their bases, members and conversions, and what follows from these. */
    private static final class Hierarchy {
        static final int CLASSES = 12;
        static final int EACH = 3;
        static final int TOLD = 2;

        private int count;
        private final int[] namespaces = new int[CLASSES];
        private final int[] baseCounts = new int[CLASSES];
        private final int[] bases = new int[CLASSES * EACH];
        private final boolean[] areVirtual = new boolean[CLASSES * EACH];
        private final int[] memberCounts = new int[CLASSES];
        private final int[] members = new int[CLASSES * EACH];
        private final int[] toldCounts = new int[CLASSES * 2];
        private final int[] told = new int[CLASSES * 2 * TOLD];
        /** For each two classes, the least number of steps to a base, NONE if it is none. */
        private final int[] steps = new int[CLASSES * CLASSES];
        /** For each two classes, the parts to which there is a way without a virtual base. */
        private final int[] innerParts = new int[CLASSES * CLASSES];
        /** For each number of steps by which a class was come to, the classes to which it leads, as bits. */
        private final int[] led = new int[(Bodies.STEPS + 1) * CLASSES];
        /** The virtual bases of a class in the order in which they are made. */
        private final int[] virtuals = new int[CLASSES * CLASSES];
        private final int[] virtualCounts = new int[CLASSES];
        /** For each two classes, the bodies of one in another one, members counted: as a part, and as a whole. */
        private final long[] partBodies = new long[CLASSES * CLASSES];
        private final long[] wholeBodies = new long[CLASSES * CLASSES];
        /** How many numbers of objects the making of a class takes: as a part, and as a whole. */
        private final long[] partObjects = new long[CLASSES];
        private final long[] wholeObjects = new long[CLASSES];
        private int changes;

        int count() {
            return count;
        }

        int namespace(int cls) {
            return namespaces[cls];
        }

        int bases(int cls) {
            return baseCounts[cls];
        }

        int baseAt(int cls, int at) {
            return bases[cls * EACH + at];
        }

        boolean isVirtualAt(int cls, int at) {
            return areVirtual[cls * EACH + at];
        }

        int members(int cls) {
            return memberCounts[cls];
        }

        int memberAt(int cls, int at) {
            return members[cls * EACH + at];
        }

        int virtuals(int cls) {
            return virtualCounts[cls];
        }

        int virtualAt(int cls, int at) {
            return virtuals[cls * CLASSES + at];
        }

        int steps(int cls, int base) {
            return steps[cls * CLASSES + base];
        }

        boolean isBase(int base, int cls) {
            return steps(cls, base) > 0;
        }

        long partBodies(int cls, int of) {
            return partBodies[cls * CLASSES + of];
        }

        long wholeBodies(int cls, int of) {
            return wholeBodies[cls * CLASSES + of];
        }

        long partObjects(int cls) {
            return partObjects[cls];
        }

        long wholeObjects(int cls) {
            return wholeObjects[cls];
        }

        int put(int namespace) {
            namespaces[count] = namespace;
            count++;
            workOut();
            return count - 1;
        }

        boolean hasOwnBase(int cls, int base) {
            for (int i = 0; i < baseCounts[cls]; i++) {
                if (baseAt(cls, i) == base) return true;
            }
            return false;
        }

        int putBase(int cls, int base, boolean isVirtual) {
            int place = cls * EACH + baseCounts[cls];
            bases[place] = base;
            areVirtual[place] = isVirtual;
            baseCounts[cls]++;
            workOut();
            return baseCounts[cls];
        }

        int putMember(int cls, int member) {
            members[cls * EACH + memberCounts[cls]] = member;
            memberCounts[cls]++;
            workOut();
            return memberCounts[cls];
        }

        int conversions(int cls, boolean isFrom) {
            return toldCounts[cls * 2 + (isFrom ? 1 : 0)];
        }

        int conversionAt(int cls, boolean isFrom, int at) {
            return told[(cls * 2 + (isFrom ? 1 : 0)) * TOLD + at];
        }

        boolean hasConversion(int cls, int type, boolean isFrom) {
            for (int i = 0; i < conversions(cls, isFrom); i++) {
                if (conversionAt(cls, isFrom, i) == type) return true;
            }
            return false;
        }

        int putConversion(int cls, int type, boolean isFrom) {
            int side = cls * 2 + (isFrom ? 1 : 0);
            told[side * TOLD + toldCounts[side]] = type;
            return ++toldCounts[side];
        }

        /** How many parts of a base a class has as a whole object. */
        int parts(int cls, int base) {
            int sum = innerParts[cls * CLASSES + base];
            for (int i = 0; i < virtualCounts[cls]; i++) {
                sum += innerParts[virtualAt(cls, i) * CLASSES + base];
            }
            return sum;
        }

        /** A class and its bases, as bits. */
        int allBases(int cls) {
            int all = 0;
            for (int base = 0; base <= cls; base++) {
                if (steps[cls * CLASSES + base] != NONE) all |= 1 << base;
            }
            return all;
        }

        /** The classes to which a class leads that was come to by some steps, as bits. */
        int led(int cls, int step) {
            return led[step * CLASSES + cls];
        }

        /** Whether a class that was come to by some steps leads to all these classes, which are bits. */
        boolean leads(int cls, int all, int step) {
            return (all & ~led[step * CLASSES + cls]) == 0;
        }

        /** Whether one of some classes, each come to by some steps, leads to all these classes. */
        boolean oneLeads(int some, int all, int step) {
            for (int cls = 0; cls < count; cls++) {
                if ((some >> cls & 1) == 1 && (all & ~led[step * CLASSES + cls]) == 0) return true;
            }
            return false;
        }

        private void findLed(int cls) {
            for (int step = 0; step <= Bodies.STEPS; step++) {
                int all = 0;
                for (int base = 0; base <= cls; base++) {
                    int steps = steps(cls, base);
                    boolean isLed = step == 0 ? parts(cls, base) == 1 : step + steps <= Bodies.STEPS;
                    if (steps != NONE && isLed) all |= 1 << base;
                }
                led[step * CLASSES + cls] = all;
            }
        }

        long allParts(int cls) {
            long sum = 0;
            for (int base = 0; base < count; base++) {
                sum += parts(cls, base);
            }
            return sum;
        }

        /** How often something of the classes was changed. */
        int changes() {
            return changes;
        }

        /** Bases and members have lower numbers, so that what they need is worked out ahead of what needs them. */
        private void workOut() {
            changes++;
            for (int cls = 0; cls < count; cls++) {
                begin(cls);
                for (int i = 0; i < baseCounts[cls]; i++) {
                    takeBase(cls, baseAt(cls, i), isVirtualAt(cls, i));
                }
                for (int i = 0; i < memberCounts[cls]; i++) {
                    takeMember(cls, memberAt(cls, i));
                }
                finish(cls);
                findLed(cls);
            }
        }

        private void begin(int cls) {
            for (int other = 0; other < CLASSES; other++) {
                boolean isItself = other == cls;
                steps[cls * CLASSES + other] = isItself ? 0 : NONE;
                innerParts[cls * CLASSES + other] = isItself ? 1 : 0;
                partBodies[cls * CLASSES + other] = isItself ? 1 : 0;
            }
            virtualCounts[cls] = 0;
            partObjects[cls] = 0;
        }

        private void takeBase(int cls, int base, boolean isVirtual) {
            for (int other = 0; other <= base; other++) {
                int beyond = steps(base, other);
                int known = steps(cls, other);
                if (beyond != NONE && (known == NONE || known > beyond + 1)) steps[cls * CLASSES + other] = beyond + 1;
                if (!isVirtual) {
                    innerParts[cls * CLASSES + other] += innerParts[base * CLASSES + other];
                    partBodies[cls * CLASSES + other] += partBodies(base, other);
                }
            }
            if (!isVirtual) partObjects[cls] += partObjects[base];
            for (int i = 0; i < virtualCounts[base]; i++) {
                putVirtual(cls, virtualAt(base, i));
            }
            if (isVirtual) putVirtual(cls, base);
        }

        private void putVirtual(int cls, int base) {
            for (int i = 0; i < virtualCounts[cls]; i++) {
                if (virtualAt(cls, i) == base) return;
            }
            virtuals[cls * CLASSES + virtualCounts[cls]] = base;
            virtualCounts[cls]++;
        }

        private void takeMember(int cls, int member) {
            for (int other = 0; other <= member; other++) {
                partBodies[cls * CLASSES + other] += wholeBodies(member, other);
            }
            partObjects[cls] += wholeObjects[member];
        }

        private void finish(int cls) {
            wholeObjects[cls] = 1 + partObjects[cls];
            for (int other = 0; other < CLASSES; other++) {
                wholeBodies[cls * CLASSES + other] = partBodies(cls, other);
            }
            for (int i = 0; i < virtualCounts[cls]; i++) {
                int base = virtualAt(cls, i);
                wholeObjects[cls] += partObjects[base];
                for (int other = 0; other <= base; other++) {
                    wholeBodies[cls * CLASSES + other] += partBodies(base, other);
                }
            }
        }
    }

    /**
     * What is known of the bodies of instances, and what follows from it: which specialisations fit, the bases, and the
     * steps to them.
     */
    private static final class Bodies {
        static final int ITSELF = -1;
        static final int UNSURE = -2;
        static final int STEPS = 6;
        /** Bodies as bits: behind those of the specialisations that of the template itself, and no sure one. */
        static final int ITSELF_BIT = 1 << Templates.EACH;
        static final int UNSURE_BIT = 1 << Templates.EACH + 1;
        private static final int BITS = Templates.EACH + 2;
        private static final int ALL = (1 << BITS) - 1;
        /** Noted are the bodies that can be, behind them that which is an answer alone, and whether it can be any one. */
        private static final int FREE = 1 << BITS + BITS;
        /**
         * The manners to look: from one that is known on to the base of what stands for all like it, if its own one was not
         * found; only to its own one; and to those for all bodies that an instance can have.
         */
        static final int BY_LIKENESS = 0;
        static final int PLAIN = 1;
        static final int DEEP = 2;
        /** The link of an instance that was come to in the round with this mark. */
        static final int TRIED = 1 << 20;

        /** Whether a constraint holds. */
        private static final int NO = 1;
        private static final int YES = 2;
        private static final int EITHER = NO | YES;

        /** How many of those are kept that tell more about a specialisation; each is an instance, or one of its bodies. */
        private static final int MOST = 8;
        private static final int BODY_AT = 20;
        private static final int PLACES = (1 << BODY_AT) - 1;

        private static final int BLOCK = Templates.EACH + 1;
        private static final int BLOCKS = 1 << 16;
        private static final int FEW_BLOCKS = 64;
        private static final int MORE = 3;

        /** The frames of bindings. */
        private static final int FITTING = 0;
        private static final int OF_BASE = 1;

        private final TypeTable table;
        private final Hierarchy hierarchy;
        private final Templates templates;
        private final Bindings bindings;
        /** The bases of instances that can have several bodies, for each one. */
        private int[] blocks = new int[0];
        private int blockCount;
        private int looks;
        private int needed;
        private int manner;
        private int mark;
        /** What the last look has told: the specialisations that fit, and those that may, as bits. */
        private int template;
        private int sure;
        private int maybe;
        private long reasons;
        private long reasonsOfOne;
        /** What would tell more, for each specialisation, and for those that matter. */
        private int stop;
        private int asking;
        private final int[] stops = new int[Templates.EACH * MOST];
        private final int[] stopCounts = new int[Templates.EACH];
        private int open;
        private final int[] openStops = new int[Templates.EACH * MOST];

        Bodies(TypeTable table, Hierarchy hierarchy, Templates templates) {
            this.table = table;
            this.hierarchy = hierarchy;
            this.templates = templates;
            bindings = new Bindings(table, OF_BASE + 1);
        }

        /** The bodies that an instance can have, as bits; 0 if it was not looked at, and it can have any. */
        int set(int type) {
            return table.note(type, TypeTable.BODY) & ALL;
        }

        void putSet(int type, int set) {
            table.setNote(type, TypeTable.BODY, table.note(type, TypeTable.BODY) & ~ALL | set);
        }

        /** The body that follows from what is known, or from guesses, as a bit; 0 if there is none yet. */
        int known(int type) {
            int set = table.note(type, TypeTable.BODY) & ALL;
            return (set & set - 1) == 0 ? set : 0;
        }

        /** The body that was found, whether something follows from it or not; 0 if there is none yet. */
        int found(int type) {
            int note = table.note(type, TypeTable.BODY);
            int set = note & ALL;
            return set != 0 && (set & set - 1) == 0 ? set : note >> BITS & ALL;
        }

        /** Lets an instance have a body from which other ones follow. */
        void know(int type, int body) {
            putSet(type, body);
            table.setNote(type, TypeTable.BASE, foundBase(type, body) + 2);
        }

        /** Takes such a body away, and gives back those that the instance could have. */
        void forget(int type, int set) {
            table.setNote(type, TypeTable.BODY, table.note(type, TypeTable.BODY) & ~ALL | set);
            table.setNote(type, TypeTable.BASE, 0);
        }

        /** Lets an instance have the body of what stands for all that are like it; its own base is not needed for that. */
        void share(int type) {
            putSet(type, known(table.note(type, TypeTable.NORM) - 1));
        }

        /** Lets an instance have a body from which nothing follows for other ones. */
        void answer(int type, int body) {
            table.setNote(type, TypeTable.BODY, table.note(type, TypeTable.BODY) & ~(ALL << BITS) | body << BITS);
            table.setNote(type, TypeTable.BASE, foundBase(type, found(type)) + 2);
        }

        /** Lets an instance have whatever body, as there is no way to choose it. */
        void free(int type) {
            table.setNote(type, TypeTable.BODY, table.note(type, TypeTable.BODY) | FREE);
        }

        boolean isFree(int type) {
            return (table.note(type, TypeTable.BODY) & FREE) != 0;
        }

        private int foundBase(int type, int body) {
            int template = TypeTable.templateOf(table.head(type));
            int at = index(body);
            bindings.empty(OF_BASE);
            if (at == Templates.EACH) {
                bindings.stand(OF_BASE, 0, table.first(type));
                bindings.stand(OF_BASE, 1, table.second(type));
            } else if (at < Templates.EACH) {
                bindings.matches(OF_BASE, templates.pattern(template, at, 0), table.first(type));
                bindings.matches(OF_BASE, templates.pattern(template, at, 1), table.second(type));
            }
            int told = at > Templates.EACH ? NONE : templates.base(template, at == Templates.EACH ? ITSELF : at);
            return told == NONE ? NONE : bindings.replaced(OF_BASE, told);
        }

        private static int index(int body) {
            int at = 0;
            while (at <= Templates.EACH && body != 1 << at) {
                at++;
            }
            return at;
        }

        /** Finds what would tell more: the base of an instance for one of its bodies. Tells whether there is room. */
        boolean tell(int more) {
            int type = more & PLACES;
            int body = more >> BODY_AT;
            if (known(type) != 0) {
                table.setNote(type, TypeTable.BASE, foundBase(type, body) + 2);
                return true;
            }
            int block = table.note(type, TypeTable.BLOCK) - 1;
            if (block < 0) {
                if (blockCount == BLOCKS) return false;
                block = blockCount++;
                if (blockCount * BLOCK > blocks.length) {
                    blocks = Arrays.copyOf(blocks, Math.max(FEW_BLOCKS * BLOCK, blocks.length << MORE));
                }
                table.setNote(type, TypeTable.BLOCK, block + 1);
                for (int i = 0; i < BLOCK; i++) {
                    blocks[block * BLOCK + i] = 0;
                }
            }
            blocks[block * BLOCK + index(body)] = foundBase(type, body) + 2;
            return true;
        }

        void putManner(int manner) {
            this.manner = manner;
        }

        int manner() {
            return manner;
        }

        /** From now on those are left out of what would tell more that were come to with this mark; none if it is 0. */
        void putMark(int mark) {
            this.mark = mark;
        }

        private boolean matches(int type, int specialisation) {
            bindings.empty(FITTING);
            return bindings.matches(FITTING, templates.pattern(template, specialisation, 0), table.first(type))
                    && bindings.matches(FITTING, templates.pattern(template, specialisation, 1), table.second(type));
        }

        /** How often instances were looked at. */
        int looks() {
            return looks;
        }

        /** The bodies that an instance can have, for what is known of others, as bits. */
        int look(int type) {
            looks++;
            template = TypeTable.templateOf(table.head(type));
            sure = 0;
            maybe = 0;
            reasons = 0;
            for (int i = 0; i < templates.specialisations(template); i++) {
                stopCounts[i] = 0;
                int fits = matches(type, i) ? fits(i) : NO;
                if (fits == YES) sure |= 1 << i;
                if (fits == EITHER) maybe |= 1 << i;
            }
            open = 0;
            return maybe == 0 ? templates.chosen(template, sure) : combined();
        }

        /** Whether the constraints of a specialisation hold. */
        private int fits(int specialisation) {
            int set = Templates.place(template, specialisation);
            for (int i = 0; i < PARAMETERS; i++) {
                if (!templates.suits(set, i, table.head(bindings.type(FITTING, i)))) return NO;
            }
            asking = specialisation;
            long all = 0;
            int fits = YES;
            for (int i = 0; i < PARAMETERS && fits != NO; i++) {
                int classes = templates.wanted(set, i);
                reasonsOfOne = 0;
                int leads = classes == 0 ? YES : leads(bindings.type(FITTING, i), classes, 0);
                if (leads != YES) fits = leads;
                all = leads == NO ? reasonsOfOne : all | reasonsOfOne;
            }
            if (fits == NO) stopCounts[specialisation] = 0;
            if (fits != EITHER) reasons |= all;
            return fits;
        }

        /** Whether a type that was come to by some steps leads to all these classes, which are bits. */
        private int leads(int type, int classes, int step) {
            int head = table.head(type);
            if (TypeTable.isLike(head)) return (classes & ~table.first(type)) == 0 ? YES : NO;
            if (TypeTable.isClass(head)) {
                return (classes & ~hierarchy.led(head - TypeTable.CLASS, step)) == 0 ? YES : NO;
            }
            if (!TypeTable.isInstance(head) || step >= STEPS) return NO;
            if ((classes & ~templates.led(TypeTable.templateOf(head), step)) != 0) return NO;
            int set = table.note(type, TypeTable.BODY) & ALL;
            boolean isKnown = set != 0 && (set & set - 1) == 0;
            reasonsOfOne |= table.reasons(type);
            int base = isKnown ? table.note(type, TypeTable.BASE) : 0;
            boolean isLent = isKnown && base == 0 && manner == BY_LIKENESS;
            if (isLent) base = table.note(table.note(type, TypeTable.NORM) - 1, TypeTable.BASE);
            if (base != 0) return leads(base - 2, classes, step + 1);
            int block = table.note(type, TypeTable.BLOCK) - 1;
            boolean isAny = isKnown || manner == DEEP && set != 0;
            int answer = isAny ? leadsByAny(type, classes, step, set, block) : EITHER;
            int link = table.note(type, TypeTable.LINK);
            boolean isNew = mark == 0 || link == 0 || link >= TRIED && link != mark;
            if (answer == EITHER && !isKnown && isNew && stopCounts[asking] < MOST) {
                stops[asking * MOST + stopCounts[asking]++] = type;
            }
            return answer;
        }

        /** The same for an instance that can have several bodies. */
        private int leadsByAny(int type, int classes, int step, int set, int block) {
            looks++;
            int answer = (set & UNSURE_BIT) == 0 ? 0 : NO;
            for (int i = 0; i < BLOCK; i++) {
                if ((set >> i & 1) == 0) continue;
                int base = block < 0 ? 0 : blocks[block * BLOCK + i];
                if (base != 0) answer |= leads(base - 2, classes, step + 1);
                else answer = EITHER;
                if (base == 0 && stopCounts[asking] < MOST) {
                    stops[asking * MOST + stopCounts[asking]++] = type | 1 << i + BODY_AT;
                }
            }
            return answer;
        }

        /** The bodies that can be chosen if some specialisations fit and others may; and what would tell more. */
        private int combined() {
            int all = 0;
            int mattering = 0;
            for (int more = 0; more <= maybe; more++) {
                if ((more & ~maybe) != 0) continue;
                int chosen = templates.chosen(template, sure | more);
                all |= chosen;
                for (int i = 0; i < Templates.EACH; i++) {
                    int one = 1 << i & maybe & ~more;
                    if (one != 0 && templates.chosen(template, sure | more | one) != chosen) mattering |= one;
                }
            }
            for (int i = 0; i < Templates.EACH; i++) {
                for (int j = 0; j < stopCounts[i] && (mattering >> i & 1) == 1; j++) {
                    openStops[open++] = stops[i * MOST + j];
                }
            }
            return all;
        }

        /** The guesses from which follows what the last look has told, as bits. */
        long reasons() {
            return reasons;
        }

        /** How much there is that would tell more in the last look. */
        int open() {
            return open;
        }

        /** An instance of which it would tell more what body it has; NONE if it is one of its bases. */
        int openStop(int at) {
            return openStops[at] > PLACES ? NONE : openStops[at];
        }

        /** What would tell more: the base of an instance for one of its bodies; NONE if there is none. */
        int openBase() {
            for (int i = 0; i < open; i++) {
                if (openStops[i] > PLACES) return openStops[i];
            }
            return NONE;
        }

        /** The body that the last look has told, if what is open does not hold. */
        int chosenAtLeast() {
            return templates.chosen(template, sure);
        }

        /** To be called when the notes of all types were forgotten. */
        void startAnew() {
            needed = NONE;
            blockCount = 0;
        }

        /** Whether the body of an instance is to be found first for what was asked for. */
        boolean needsOne() {
            return needed != NONE;
        }

        /** The instance whose body is to be found first, NONE if there is none; it is forgotten then. */
        int takeNeeded() {
            int type = needed;
            needed = NONE;
            return type;
        }

        /** The specialisation that an instance that was found has as its body, ITSELF or UNSURE. */
        int body(int type) {
            int body = found(type);
            for (int i = 0; i < Templates.EACH; i++) {
                if (body == 1 << i) return i;
            }
            return body == ITSELF_BIT ? ITSELF : UNSURE;
        }

        /** The base of an instance, NONE if it has none, or if it is needed to find it first. */
        int base(int type) {
            int base = table.note(type, TypeTable.BASE);
            if (base == 0 && needed == NONE) needed = type;
            return base == 0 ? NONE : base - 2;
        }

        /** Whether it is known to what a type leads, by likeness; if not, one without a body is where the way stops. */
        boolean isLedKnown(int type) {
            looks++;
            int at = type;
            for (int step = 0; step < STEPS; step++) {
                int head = table.head(at);
                boolean mayLead = TypeTable.isInstance(head)
                        && (templates.led(TypeTable.templateOf(head), step) & templates.allWanted()) != 0;
                if (!mayLead) return true;
                stop = at;
                int set = table.note(at, TypeTable.BODY) & ALL;
                if (set == 0 || (set & set - 1) != 0) return false;
                int base = table.note(at, TypeTable.BASE);
                at = (base != 0 ? base : table.note(table.note(at, TypeTable.NORM) - 1, TypeTable.BASE)) - 2;
            }
            return true;
        }

        /** The last one at which a way stopped. */
        int stop() {
            return stop;
        }

        /**
         * The classes to which a type leads and for which a specialisation asks, as bits; by likeness, or else a base may be
         * needed first.
         */
        int led(int type, boolean isByLikeness) {
            int at = type;
            for (int step = 0; step <= STEPS; step++) {
                int head = table.head(at);
                if (TypeTable.isLike(head)) return table.first(at);
                if (TypeTable.isClass(head)) return hierarchy.led(head - TypeTable.CLASS, step) & templates.allWanted();
                if (!TypeTable.isInstance(head) || step == STEPS) return 0;
                if ((templates.led(TypeTable.templateOf(head), step) & templates.allWanted()) == 0) return 0;
                int base = table.note(at, TypeTable.BASE);
                boolean isLent = base == 0 && isByLikeness;
                if (isLent) base = table.note(table.note(at, TypeTable.NORM) - 1, TypeTable.BASE);
                if (base == 0 && needed == NONE) needed = at;
                if (base == 0) return 0;
                at = base - 2;
            }
            return 0;
        }

        /** Whether the constraints of a set hold for what the parameters stand for. */
        boolean areMet(Bindings standing, int frame, int set) {
            for (int i = 0; i < PARAMETERS; i++) {
                if (!templates.suits(set, i, table.head(standing.type(frame, i)))) return false;
            }
            for (int i = 0; i < PARAMETERS; i++) {
                int type = standing.type(frame, i);
                for (int cls = 0; cls < hierarchy.count(); cls++) {
                    boolean isWanted = (templates.wanted(set, i) >> cls & 1) == 1;
                    if (isWanted && steps(type, NONE, TypeTable.CLASS + cls) < 0) return false;
                }
            }
            return true;
        }

        /**
         * The steps from a type to a base, 0 to itself; NONE if it is no base, SEVERAL if there are several parts. For
         * a class what stands ahead in its type is enough.
         */
        int steps(int type, int target, int targetHead) {
            int at = type;
            for (int step = 0; step <= STEPS && at != NONE; step++) {
                if (at == target) return step;
                int head = table.head(at);
                if (TypeTable.isClass(head)) return classSteps(head, targetHead, step);
                if (!TypeTable.isInstance(head) || step == STEPS) return NONE;
                if (found(at) == 0 && !mayLead(head, targetHead, step)) return NONE;
                at = base(at);
            }
            return NONE;
        }

        /** Whether an instance that was come to by some steps may lead to what is asked for. */
        private boolean mayLead(int head, int target, int step) {
            if (!TypeTable.isClass(target)) return true;
            return (templates.led(TypeTable.templateOf(head), step) >> target - TypeTable.CLASS & 1) == 1;
        }

        /** The same as steps, from a class that was come to by some steps. */
        private int classSteps(int head, int target, int step) {
            if (!TypeTable.isClass(target)) return NONE;
            int cls = head - TypeTable.CLASS;
            int base = target - TypeTable.CLASS;
            int steps = hierarchy.steps(cls, base);
            if (steps == NONE || hierarchy.leads(cls, 1 << base, step)) return steps == NONE ? NONE : step + steps;
            return step == 0 ? SEVERAL : NONE;
        }
    }

    /**
     * The guesses of a search, and the instances whose bodies depend on them. Which guesses these are is told by bits, the
     * last of which is for all guesses behind the others.
     */
    private static final class Guesses {
        private static final int LAST_BIT = 62;

        /**
         * A guess: for whom, the bodies that are left to try, how many there were on the trail ahead of it, how many
         * guesses there were when it was seen to go with what follows from it, 0 if it was not; and the earlier guesses
         * with which the bodies that were tried do not go.
         */
        private static final int GUESSED = 0;
        private static final int UNTRIED = 1;
        private static final int AHEAD = 2;
        private static final int SEEN = 3;
        private static final int CONFLICT = 4;
        private static final int ROW = 5;
        private static final int MOST = 1 << 12;

        /** On the trail stands a type, and behind it the bodies that it could have ahead of that. */
        private static final int SET_AT = 20;
        private static final int PLACES = (1 << SET_AT) - 1;
        private static final int MOST_ON_TRAIL = 1 << 18;
        private static final int FEW = 1 << 10;
        private static final int MORE = 4;

        private final TypeTable table;
        private final Bodies bodies;
        private int count;
        private long[] rows = new long[0];
        private int trailed;
        private int[] trail = new int[0];
        /** The guesses that do not go with one another; and the first one for whom no body goes with the others then. */
        private long conflict;
        private int without = NONE;

        Guesses(TypeTable table, Bodies bodies) {
            this.table = table;
            this.bodies = bodies;
        }

        int count() {
            return count;
        }

        boolean isFull() {
            return count >= MOST || trailed + 1 >= MOST_ON_TRAIL;
        }

        /** The instance for which was guessed. */
        int type(int guess) {
            return (int) rows[guess * ROW + GUESSED];
        }

        /** The first instance for which there was no other body since the last clash, but for those with whatever body. */
        int without() {
            return without;
        }

        boolean isSeen(int guess) {
            return rows[guess * ROW + SEEN] != 0;
        }

        /** Notes that a guess goes with what follows from it. */
        void see(int guess) {
            rows[guess * ROW + SEEN] = count;
        }

        /** The last guess that was not seen to go with what follows from it, NONE if there is none. */
        int lastUnseen() {
            for (int i = count - 1; i >= 0; i--) {
                if (rows[i * ROW + SEEN] == 0) return i;
            }
            return NONE;
        }

        boolean hasUntried() {
            for (int i = 0; i < count; i++) {
                if (rows[i * ROW + UNTRIED] != 0) return true;
            }
            return false;
        }

        static long bit(int guess) {
            return 1L << Math.min(guess, LAST_BIT);
        }

        long all() {
            return count > LAST_BIT ? Long.MAX_VALUE : (1L << count) - 1;
        }

        /** Puts a guess for an instance, to try some bodies; all others don't go with some earlier guesses. */
        void put(int type, int set, long reasons) {
            if ((count + 1) * ROW > rows.length) rows = Arrays.copyOf(rows, Math.max(FEW * ROW, rows.length << MORE));
            rows[count * ROW + GUESSED] = type;
            rows[count * ROW + UNTRIED] = set;
            rows[count * ROW + AHEAD] = trailed;
            rows[count * ROW + CONFLICT] = reasons;
            count++;
        }

        /** The next body to try for the last guess, that of the template itself first, no sure body last. */
        int next() {
            int row = (count - 1) * ROW;
            int left = (int) rows[row + UNTRIED];
            int body = (left & Bodies.ITSELF_BIT) != 0 ? Bodies.ITSELF_BIT : left & -left;
            rows[row + UNTRIED] = left & ~body;
            // Where there is no way to choose the body of an instance, each one goes.
            rows[row + SEEN] = bodies.isFree(type(count - 1)) ? 1 : 0;
            return body;
        }

        /** Notes that the body of an instance depends on some guesses, and which ones it could have ahead of that. */
        void putOnTrail(int type, int before, long reasons) {
            table.setReasons(type, reasons);
            if (trailed == trail.length) trail = Arrays.copyOf(trail, Math.max(FEW, trailed << MORE));
            trail[trailed] = before << SET_AT | type;
            trailed++;
        }

        void clash(long reasons) {
            conflict = reasons;
            without = NONE;
        }

        boolean doClash() {
            return conflict != 0;
        }

        /** Takes back the last guess on which the clash depends, and those behind it. Tells whether there is a body to try. */
        boolean goBack() {
            boolean isHigh = count > LAST_BIT && conflict >> LAST_BIT != 0;
            int at = isHigh ? count - 1 : LAST_BIT + 1 - Long.numberOfLeadingZeros(conflict);
            int row = at * ROW;
            undo((int) rows[row + AHEAD]);
            for (int i = 0; i < at; i++) {
                if (rows[i * ROW + SEEN] > at) rows[i * ROW + SEEN] = 0;
            }
            if (at <= LAST_BIT) conflict &= ~bit(at);
            conflict |= rows[row + CONFLICT];
            rows[row + CONFLICT] = conflict;
            boolean hasMore = rows[row + UNTRIED] != 0;
            if (!hasMore && without == NONE && !bodies.isFree(type(at))) without = type(at);
            count = hasMore ? at + 1 : at;
            return hasMore;
        }

        /** Takes all guesses back. */
        void clear() {
            undo(0);
            count = 0;
        }

        private void undo(int left) {
            while (trailed > left) {
                trailed--;
                int type = trail[trailed] & PLACES;
                bodies.forget(type, trail[trailed] >> SET_AT);
                table.setReasons(type, 0);
            }
        }

        /** Lets all bodies that depend on the guesses be known. */
        void keep() {
            for (int i = 0; i < trailed; i++) {
                table.setReasons(trail[i] & PLACES, 0);
            }
            trailed = 0;
            count = 0;
        }
    }

    /**
     * Finds the bodies of instances, of each one behind those that matter for it. Where instances ask for one another in
     * a circle, a body is guessed for one of them, which must go with what follows from it. Where just one way goes with
     * the document, it is this one. The document is silent about several ways, and about none.
     */
    private static final class Search {
        /** What is to be done next. */
        private static final int BEGIN = 0;
        private static final int JUDGE = 1;
        private static final int DERIVE = 2;
        private static final int LIKEN = 3;
        private static final int TELL = 4;
        private static final int KNOW = 5;
        private static final int CHECK = 6;
        private static final int CIRCLE = 7;
        private static final int GUESS = 8;
        private static final int TRY = 9;
        private static final int CLASH = 10;
        private static final int WAY = 11;
        private static final int NO_OTHER = 12;
        private static final int GATHER = 13;
        private static final int OUT = 14;
        private static final int ANSWER = 15;
        private static final int DONE = 16;

        /**
         * What is looked for: what follows without guesses; a way to choose bodies; the only way once more; a way for all
         * instances on which the goal may depend, and for all types that have a number.
         */
        private static final int SURE = 0;
        private static final int TRIAL = 1;
        private static final int AGAIN = 2;
        private static final int WIDE = 3;
        private static final int WIDEST = 4;

        /** How often instances are looked at: for a call of the face, and at least for what is asked for in it. */
        static final int LOOKS = 1 << 20;
        static final int FEW_LOOKS = 1 << 17;
        static final int LEAST_LOOKS = 1 << 12;
        private static final int MOST = 1 << 24;
        /** With more types than these, instances are looked at together with those that are like them. */
        static final int MANY = 1 << 11;
        private static final int FEW_ON_PATH = 1 << 10;
        private static final int MOST_ON_PATH = 1 << 18;
        private static final int MOST_GATHERED = 1 << 12;
        private static final int MORE = 4;

        private final TypeTable table;
        private final Bodies bodies;
        private final Likeness likeness;
        private final Guesses guesses;
        private int phase;
        private int mode;
        /** The instance whose body was asked for, and that for which a way is looked for. */
        private int asked;
        private int goal;
        private int limit;
        private int lastLimit;
        private int deepLimit;
        /** Those for which nothing was found in the round that goes on are linked with its number. */
        private int round;
        private boolean hasProgress;
        /** The one at the end of the way from one to those that matter for it, and so on; NONE if there is no such way. */
        private int top;
        /** The one that is next; the body that it gets, and the guesses on which this depends. */
        private int one;
        private int newBody;
        private long newReasons;
        /** The body of the goal in the first way, 0 if there is none; whether there is no other way. */
        private int found;
        private boolean isSole;
        /** The body of the one that was asked for, if there are several ways, or if a circle has none; 0 until then. */
        private int firstFound;
        /** The instances that were gathered; behind them the way to a circle. */
        private int gathered;
        private int[] path = new int[0];

        Search(TypeTable table, Bodies bodies, Likeness likeness) {
            this.table = table;
            this.bodies = bodies;
            this.likeness = likeness;
            guesses = new Guesses(table, bodies);
        }

        /** To be called when the notes of all types were forgotten; from now on there are so many looks. */
        void startAnew(int looks) {
            lastLimit = bodies.looks() + looks;
            round = 0;
        }

        /** Whether all looks are used up. */
        boolean isSpent() {
            return bodies.looks() >= lastLimit;
        }

        /** Finds the body of an instance if so many looks are enough, and tells whether they are. */
        boolean finds(int type, int looks) {
            limit = bodies.looks() + Math.max(LEAST_LOOKS, Math.min(looks, lastLimit - bodies.looks()));
            deepLimit = bodies.looks() + (limit - bodies.looks()) / 2;
            asked = type;
            firstFound = 0;
            beginWith(type, SURE);
            if (bodies.isFree(type)) finish(Bodies.UNSURE_BIT);
            if (bodies.found(type) != 0) finish(bodies.found(type));
            for (int i = 0; i < MOST && phase != DONE; i++) {
                switch (phase) {
                    case BEGIN: begin(); break;
                    case JUDGE: judge(); break;
                    case DERIVE: derive(); break;
                    case LIKEN: liken(); break;
                    case TELL: tell(); break;
                    case KNOW: know(); break;
                    case CHECK: check(); break;
                    case CIRCLE: goRound(); break;
                    case GUESS: guess(); break;
                    case TRY: tryNext(); break;
                    case CLASH: goBack(); break;
                    case WAY: takeWay(); break;
                    case NO_OTHER: end(); break;
                    case GATHER: gather(); break;
                    case OUT: giveUp(); break;
                    default: answer();
                }
            }
            return bodies.found(type) != 0;
        }

        /** Lets an instance whose body could not be found have the one that it has if what is open does not hold. */
        void answerAtLeast(int type) {
            bodies.look(type);
            table.makeRoom();
            bodies.answer(type, bodies.chosenAtLeast());
        }

        private void beginWith(int type, int mode) {
            goal = type;
            this.mode = mode;
            if (mode != AGAIN) found = 0;
            phase = BEGIN;
        }

        private void begin() {
            guesses.clear();
            if (mode != WIDE) gathered = 0;
            lookSo(mode == SURE ? Bodies.BY_LIKENESS : Bodies.PLAIN);
            phase = JUDGE;
        }

        private void lookSo(int manner) {
            bodies.putManner(manner);
            startRound();
        }

        /** From now on all those can be asked again for which nothing could be found. */
        private void startRound() {
            round++;
            hasProgress = false;
        }

        private int tried() {
            return Bodies.TRIED | round & Bodies.TRIED - 1;
        }

        /** Whether an instance was not come to in this round. */
        private boolean isNew(int type) {
            int link = table.note(type, TypeTable.LINK);
            return link == 0 || link >= Bodies.TRIED && link != tried();
        }

        private boolean isOut() {
            int last = bodies.manner() == Bodies.DEEP ? deepLimit : limit;
            return bodies.looks() >= last || table.isFull() || guesses.isFull();
        }

        /** Looks at the last guess that was not seen to go with what follows from it, or else at the goal. */
        private void judge() {
            int at = guesses.lastUnseen();
            top = NONE;
            one = at == NONE ? nextGoal() : guesses.type(at);
            if (one == NONE || isOut()) {
                phase = one == NONE ? WAY : bodies.manner() == Bodies.DEEP ? CHECK : OUT;
                return;
            }
            bodies.putMark(tried());
            int seen = bodies.look(one);
            int set = at == NONE ? narrowed(one, seen) : seen & bodies.known(one);
            if (set == 0) {
                clash(at);
            } else if (Integer.bitCount(at == NONE ? set : seen) > 1) {
                goFrom();
            } else if (at == NONE) {
                willKnow(one, set, bodies.reasons());
            } else {
                guesses.see(at);
            }
        }

        private int nextGoal() {
            for (int i = 0; i < gathered && mode == WIDE; i++) {
                if (bodies.known(path[i]) == 0) return path[i];
            }
            for (int i = 0; i < table.numbered() && mode == WIDEST; i++) {
                int type = table.place(i);
                boolean isClosed = TypeTable.isInstance(table.head(type)) && !table.isOpen(type);
                if (isClosed && bodies.known(type) == 0) return type;
            }
            return bodies.known(goal) == 0 ? goal : NONE;
        }

        /** The bodies that an instance can have, for those that were told by a look; they are kept for a deep look. */
        private int narrowed(int type, int set) {
            int before = bodies.set(type);
            int after = before == 0 || (before & set) == 0 ? set : before & set;
            boolean isKept = mode == SURE && bodies.manner() == Bodies.DEEP;
            if (isKept && after != before && Integer.bitCount(after) > 1) {
                bodies.putSet(type, after);
                hasProgress = true;
            }
            return after;
        }

        /** Goes from an instance that was looked at to one that matters for it, or finds what else is to be done. */
        private void goFrom() {
            int next = nextToAsk();
            if (next != NONE) {
                top = next;
                table.setNote(top, TypeTable.LINK, 1);
                phase = DERIVE;
            } else if (phase == JUDGE && hasProgress) {
                startRound();
            } else if (phase == JUDGE) {
                goDeeper();
            }
        }

        private void goDeeper() {
            int manner = bodies.manner();
            boolean isLast = manner == Bodies.DEEP || manner == Bodies.PLAIN && bodies.looks() >= deepLimit;
            if (isLast) phase = CHECK;
            else lookSo(manner == Bodies.PLAIN ? Bodies.DEEP : Bodies.PLAIN);
        }

        /**
         * The smallest one that matters in the last look and was not come to in this round; NONE if there is none, or if a
         * base is to be found first.
         */
        private int nextToAsk() {
            int base = bodies.openBase();
            if (base != NONE) {
                one = base;
                phase = TELL;
                return NONE;
            }
            int next = NONE;
            for (int i = 0; i < bodies.open(); i++) {
                int stop = bodies.openStop(i);
                if (next == NONE || table.size(stop) < table.size(next)) next = stop;
            }
            return next;
        }

        /** Finds one of several bases of an instance that would tell more. */
        private void tell() {
            table.makeRoom();
            if (!bodies.tell(one)) deepLimit = 0;
            phase = top == NONE ? JUDGE : DERIVE;
        }

        /** Goes from an instance to those that matter for it, and finds the bodies of these first. */
        private void derive() {
            bodies.putMark(tried());
            boolean isCrowded = likeness.isOfUse() && table.count() > MANY;
            boolean doesLiken = bodies.manner() == Bodies.BY_LIKENESS && isCrowded;
            for (int i = 0; i < MOST && top != NONE && phase == DERIVE; i++) {
                boolean isOut = isOut();
                if (doesLiken && !isOut && table.note(top, TypeTable.NORM) != top + 1) {
                    phase = LIKEN;
                    return;
                }
                int set = isOut ? 0 : narrowed(top, bodies.look(top));
                int next = Integer.bitCount(set) > 1 ? nextToAsk() : NONE;
                int type = top;
                if (phase == DERIVE && next != NONE) {
                    goTo(next);
                } else if (phase == DERIVE) {
                    leaveTop();
                    if (Integer.bitCount(set) == 1) willKnow(type, set, bodies.reasons());
                }
            }
            if (phase == DERIVE) phase = JUDGE;
        }

        private void goTo(int next) {
            table.setNote(next, TypeTable.LINK, top + 2);
            top = next;
        }

        private void leaveTop() {
            int below = table.note(top, TypeTable.LINK) - 2;
            table.setNote(top, TypeTable.LINK, tried());
            top = below;
        }

        /**
         * Where there are many types, goes from an instance to what stands for all that are like it, and gives it the body
         * of this. If that can't be told, or its body can't be found so, the instance stands for itself.
         */
        private void liken() {
            phase = DERIVE;
            table.makeRoom();
            int like = table.note(top, TypeTable.NORM) - 1;
            int parts = like == NONE ? likeness.parts(top) : 0;
            boolean isLedKnown = true;
            for (int i = 0; i < parts && isLedKnown; i++) {
                isLedKnown = bodies.isLedKnown(likeness.part(i));
            }
            if (!isLedKnown && isNew(bodies.stop())) {
                goTo(bodies.stop());
                return;
            }
            if (like == NONE) like = isLedKnown ? likeness.key(top, true) : top;
            boolean isKnown = like != top && bodies.known(like) != 0;
            boolean doesGo = like != top && !isKnown && isNew(like);
            table.setNote(top, TypeTable.NORM, (isKnown || doesGo ? like : top) + 1);
            if (doesGo) {
                goTo(like);
            } else if (isKnown) {
                bodies.share(top);
                hasProgress = true;
                leaveTop();
            }
        }

        /** Lets an instance have a body next, which depends on some guesses, given as bits. */
        private void willKnow(int type, int body, long reasons) {
            one = type;
            newBody = body;
            newReasons = reasons;
            phase = KNOW;
        }

        private void know() {
            int before = bodies.set(one);
            table.makeRoom();
            bodies.know(one, newBody);
            hasProgress = true;
            phase = top == NONE ? JUDGE : DERIVE;
            if (newReasons != 0) guesses.putOnTrail(one, before, newReasons);
        }

        /** Looks whether all guesses go with what is known by now. */
        private void check() {
            lookSo(Bodies.PLAIN);
            bodies.putMark(0);
            phase = CIRCLE;
            for (int i = 0; i < guesses.count() && phase == CIRCLE; i++) {
                int type = guesses.type(i);
                boolean doesGo = guesses.isSeen(i) || (bodies.look(type) & bodies.known(type)) != 0;
                if (!doesGo) clash(i);
            }
        }

        private void clash(int at) {
            guesses.clash(bodies.reasons() | Guesses.bit(at));
            phase = CLASH;
        }

        /**
         * Goes from one instance to one of some that ask for one another, and for no others that have no body. Of these it
         * is the largest one: as no type is too large, more can follow from that.
         */
        private void goRound() {
            int at = 0;
            int height = 0;
            bodies.look(one);
            int next = bodies.known(one) == 0 ? one : nextNotLinked(0);
            if (next == NONE) next = one;
            boolean isRound = false;
            for (int i = 0; i < MOST && !isRound; i++) {
                if (next != NONE) {
                    table.setNote(next, TypeTable.ORIGIN, at);
                    putOnPath(gathered + height, next);
                    at = height++;
                    table.setNote(next, TypeTable.LINK, height);
                }
                int type = path[gathered + at];
                bodies.look(type);
                next = gathered + height < MOST_ON_PATH ? nextNotLinked(height) : NONE;
                int least = leastLink(height, table.note(type, TypeTable.LINK));
                isRound = next == NONE && least > at;
                if (next == NONE && !isRound) {
                    table.setNote(type, TypeTable.LINK, least);
                    at = table.note(type, TypeTable.ORIGIN);
                }
            }
            one = path[gathered + at];
            for (int i = 0; i < height; i++) {
                int type = path[gathered + i];
                table.setNote(type, TypeTable.LINK, 0);
                if (i > at && table.size(type) > table.size(one)) one = type;
            }
            phase = GUESS;
            if (mode == SURE) beginWith(one, TRIAL);
        }

        private void putOnPath(int at, int type) {
            if (at >= path.length) path = Arrays.copyOf(path, Math.max(FEW_ON_PATH, path.length << MORE));
            path[at] = type;
        }

        private int nextNotLinked(int height) {
            for (int i = 0; i < bodies.open(); i++) {
                int stop = bodies.openStop(i);
                int link = table.note(stop, TypeTable.LINK);
                if (stop != NONE && (link == 0 || link > height)) return stop;
            }
            return NONE;
        }

        private int leastLink(int height, int own) {
            int least = own;
            for (int i = 0; i < bodies.open(); i++) {
                int link = table.note(bodies.openStop(i), TypeTable.LINK);
                if (link > 0 && link <= height) least = Math.min(least, link);
            }
            return least;
        }

        private void guess() {
            int set = narrowed(one, bodies.look(one));
            guesses.put(one, set, bodies.reasons());
            phase = TRY;
        }

        private void tryNext() {
            int at = guesses.count() - 1;
            top = NONE;
            willKnow(guesses.type(at), guesses.next(), Guesses.bit(at));
        }

        private void goBack() {
            if (!guesses.doClash()) phase = NO_OTHER;
            else if (guesses.goBack()) phase = TRY;
        }

        /** There is a way to choose the bodies. The goal has its body for sure if it has it in all others as well. */
        private void takeWay() {
            int body = bodies.known(goal);
            if (mode == SURE) {
                phase = DONE;
            } else if (mode == AGAIN || mode == TRIAL && found == 0 && !guesses.hasUntried()) {
                guesses.keep();
                beginWith(asked, SURE);
            } else if (table.reasons(goal) == 0) {
                beginWith(asked, SURE);
            } else if (found != 0 && body != found) {
                goFurther();
            } else if (mode == WIDEST) {
                finish(body);
            } else {
                isSole = found == 0;
                found = body;
                guesses.clash(isSole ? guesses.all() : table.reasons(goal));
                phase = CLASH;
            }
        }

        /** There is no other way, or no way at all, or none in which the goal has another body. */
        private void end() {
            if (mode == TRIAL && found != 0 && isSole) {
                beginWith(goal, AGAIN);
            } else if (goal != asked) {
                beginWith(asked, TRIAL);
            } else if (found != 0) {
                finish(found);
            } else if (mode == WIDE) {
                beginWith(asked, WIDEST);
            } else if (mode == WIDEST) {
                finish(firstFound);
            } else if (guesses.without() == asked || guesses.without() == NONE) {
                finish(Bodies.UNSURE_BIT);
            } else {
                // What does not depend on the body for which there is no way goes on.
                bodies.free(guesses.without());
                firstFound = Bodies.UNSURE_BIT;
                beginWith(asked, SURE);
            }
        }

        /** Where the goal has several bodies, a way is looked for with which more goes. */
        private void goFurther() {
            if (goal != asked) {
                beginWith(asked, TRIAL);
            } else if (mode == WIDE) {
                beginWith(asked, WIDEST);
            } else if (firstFound != 0) {
                finish(firstFound);
            } else {
                firstFound = found;
                phase = GATHER;
            }
        }

        /** Gathers all instances on which the goal may depend, unless they are too many. */
        private void gather() {
            guesses.clear();
            lookSo(Bodies.DEEP);
            gathered = 0;
            addGathered(goal);
            for (int i = 0; i < gathered && gathered < MOST_GATHERED; i++) {
                int before = 0;
                while (before < gathered && gathered < MOST_GATHERED) {
                    before = gathered;
                    bodies.putMark(tried());
                    bodies.look(path[i]);
                    for (int j = 0; j < bodies.open(); j++) {
                        int stop = bodies.openStop(j);
                        if (stop != NONE && isNew(stop)) addGathered(stop);
                    }
                }
            }
            beginWith(asked, gathered < MOST_GATHERED ? WIDE : WIDEST);
        }

        private void addGathered(int type) {
            putOnPath(gathered, type);
            gathered++;
            table.setNote(type, TypeTable.LINK, tried());
        }

        private void giveUp() {
            boolean isWide = mode == WIDE || mode == WIDEST;
            if (isWide || goal == asked && found != 0) finish(isWide ? firstFound : found);
            else phase = DONE;
            guesses.clear();
        }

        private void finish(int body) {
            newBody = body;
            phase = ANSWER;
        }

        private void answer() {
            guesses.clear();
            table.makeRoom();
            bodies.answer(asked, newBody);
            phase = DONE;
        }
    }

    /**
     * What instances have in common whose bases are the same but for parts. A part of a type is opened only as far as a
     * pattern can come to it; otherwise it can be told apart only by its size, its kind, and to what it leads.
     */
    private static final class Likeness {
        private static final int MOST = 62;
        /** Stands for a pattern that tells all types apart. */
        private static final long WHOLE = 1L << MOST;
        private static final int BASES = Templates.TEMPLATES * (Templates.EACH + 1);

        private final TypeTable table;
        private final Templates templates;
        private final Bodies bodies;
        private int changes = NONE;
        /** The patterns and those in them, but for parameters, and where those in them stand, NONE for parameters. */
        private int count;
        private final int[] patterns = new int[MOST];
        private final int[] firsts = new int[MOST];
        private final int[] seconds = new int[MOST];
        /** Sets of these: by what stands ahead, for the first and second types of instances, for any part. */
        private final long[] headed = new long[TypeTable.HEADS];
        private final long[] asked = new long[Templates.TEMPLATES * 2];
        private long askedAnywhere;
        private boolean doLead;
        /** A type with its parts, those behind what is not opened left out, and what is asked of each. */
        private final int[] row = new int[TypeTable.LARGEST + 1];
        private final boolean[] areOpened = new boolean[TypeTable.LARGEST + 1];
        private int length;
        private final int[] stack = new int[TypeTable.LARGEST + 1];
        private final long[] stackAsked = new long[TypeTable.LARGEST + 1];

        Likeness(TypeTable table, Templates templates, Bodies bodies) {
            this.table = table;
            this.templates = templates;
            this.bodies = bodies;
        }

        /** To be called ahead of a search, as the templates may have changed. */
        void renew() {
            if (changes == templates.changes()) return;
            changes = templates.changes();
            count = 0;
            askedAnywhere = 0;
            doLead = false;
            Arrays.fill(headed, 0);
            Arrays.fill(asked, 0);
            for (int template = 0; template < templates.count(); template++) {
                for (int i = 0; i < templates.specialisations(template); i++) {
                    takeRow(template, i);
                }
            }
            long before = NONE;
            for (int i = 0; i <= MOST && before != askedAnywhere; i++) {
                before = askedAnywhere;
                for (int j = 0; j < BASES; j++) {
                    askBase(templates.base(j / (Templates.EACH + 1), j % (Templates.EACH + 1) - 1));
                }
            }
        }

        private void takeRow(int template, int specialisation) {
            int met = 0;
            boolean isTwice = false;
            for (int i = 0; i < Templates.ROW; i++) {
                int pattern = templates.pattern(template, specialisation, i);
                int size = table.size(table.place(pattern));
                for (int j = 0; j < size; j++) {
                    int token = table.token(pattern, j);
                    int bit = TypeTable.isParameter(token) ? 1 << token - TypeTable.PARAMETER : 0;
                    if ((met & bit) != 0) isTwice = true;
                    met |= bit;
                }
                asked[template * 2 + i] |= taken(table.place(pattern));
            }
            for (int i = 0; i < Templates.ROW && isTwice; i++) {
                asked[template * 2 + i] |= WHOLE;
            }
            for (int i = 0; i < PARAMETERS; i++) {
                if (templates.wanted(Templates.place(template, specialisation), i) != 0) doLead = true;
            }
        }

        /** A pattern as a set of one, which is taken with all those in it; WHOLE if there are too many. */
        private long taken(int pattern) {
            int from = count;
            int first = index(pattern);
            for (int i = from; i < count && first < MOST; i++) {
                firsts[i] = index(table.first(patterns[i]));
                seconds[i] = index(table.second(patterns[i]));
            }
            return bit(first);
        }

        private static long bit(int index) {
            return index == NONE ? 0 : 1L << index;
        }

        private int index(int pattern) {
            if (pattern == NONE || TypeTable.isParameter(table.head(pattern))) return NONE;
            for (int i = 0; i < count; i++) {
                if (patterns[i] == pattern) return i;
            }
            if (count == MOST) return MOST;
            patterns[count] = pattern;
            headed[table.head(pattern)] |= 1L << count;
            return count++;
        }

        /** What is asked of the first or second part of a type of which these patterns are asked, but for those of it. */
        private long askedOf(long all, int head, boolean isFirst) {
            long asked = all & WHOLE;
            long left = all & headed[head];
            for (int i = 0; i < count && left != 0; i++) {
                if ((left >> i & 1) == 1) asked |= bit(isFirst ? firsts[i] : seconds[i]);
            }
            return asked;
        }

        /** Finds what is asked of that for which the parameters in a base stand. */
        private void askBase(int number) {
            int size = table.size(table.place(number));
            int left = 0;
            int at = table.place(number);
            for (int i = 0; i < size; i++) {
                row[i] = at;
                int second = table.second(at);
                if (second != NONE) stack[left++] = second;
                at = table.first(at);
                if (at == NONE && left > 0) at = stack[--left];
            }
            for (int i = 0; i < size; i++) {
                int head = table.head(row[i]);
                boolean isInstance = TypeTable.isInstance(head);
                if (i > 0) ask(askedAnywhere, row[i]);
                if (isInstance) ask(asked[TypeTable.templateOf(head) * 2], table.first(row[i]));
                if (isInstance) ask(asked[TypeTable.templateOf(head) * 2 + 1], table.second(row[i]));
            }
        }

        private void ask(long all, int type) {
            int left = 0;
            int at = type;
            long asked = all;
            for (int i = 0; i < TypeTable.LARGEST && at != NONE; i++) {
                int head = table.head(at);
                boolean goesOn = asked != 0 && table.isOpen(at) && !TypeTable.isParameter(head);
                if (TypeTable.isParameter(head)) askedAnywhere |= asked;
                int second = goesOn ? table.second(at) : NONE;
                if (second != NONE) {
                    stack[left] = second;
                    stackAsked[left++] = askedOf(asked, head, false);
                }
                at = goesOn ? table.first(at) : NONE;
                if (at != NONE) {
                    asked = askedOf(asked, head, true);
                } else if (left > 0) {
                    at = stack[--left];
                    asked = stackAsked[left];
                }
            }
        }

        /** Whether likeness can shorten the search for a body. */
        boolean isOfUse() {
            return doLead;
        }

        /** How many parts there are of which it must be known to what they lead. */
        int parts(int type) {
            if (!doLead) return 0;
            cut(type);
            int parts = 0;
            for (int i = 1; i < length; i++) {
                if (!areOpened[i] && TypeTable.isInstance(table.head(row[i]))) row[parts++] = row[i];
            }
            return parts;
        }

        int part(int at) {
            return row[at];
        }

        /** What stands for all types that are like one, the type itself if there are none. */
        int key(int type, boolean isByLikeness) {
            cut(type);
            int left = 0;
            for (int i = length - 1; i >= 0; i--) {
                int head = table.head(row[i]);
                int first = areOpened[i] && head >= TypeTable.POINTER && left > 0 ? stack[--left] : NONE;
                int second = areOpened[i] && head >= TypeTable.TWOFOLD && left > 0 ? stack[--left] : NONE;
                int led = areOpened[i] || !doLead ? 0 : bodies.led(row[i], isByLikeness);
                int size = table.size(row[i]);
                long shape = areOpened[i] ? TypeTable.shape(head, first, second, size, false)
                        : TypeTable.shape(TypeTable.likeHead(head), led, NONE, size, false);
                stack[left++] = TypeTable.isLike(head) ? row[i] : table.kept(shape);
            }
            return left > 0 ? stack[0] : NONE;
        }

        private void cut(int type) {
            length = 0;
            int left = 0;
            int at = type;
            long all = WHOLE;
            for (int i = 0; i < TypeTable.LARGEST && at != NONE; i++) {
                int head = table.head(at);
                boolean isOpened = i == 0 || !TypeTable.isLike(head) && (all & (headed[head] | WHOLE)) != 0;
                row[length] = at;
                areOpened[length++] = isOpened;
                int own = TypeTable.isInstance(head) ? TypeTable.templateOf(head) * 2 : NONE;
                int second = isOpened ? table.second(at) : NONE;
                long most = i == 0 ? 0 : all;
                if (second != NONE) {
                    stack[left] = second;
                    stackAsked[left++] = askedOf(most, head, false) | askedAnywhere | (own == NONE ? 0 : asked[own + 1]);
                }
                at = isOpened ? table.first(at) : NONE;
                if (at != NONE) {
                    all = askedOf(most, head, true) | askedAnywhere | (own == NONE ? 0 : asked[own]);
                } else if (left > 0) {
                    at = stack[--left];
                    all = stackAsked[left];
                }
            }
        }
    }

    /** The namespaces and the functions in them. */
    private static final class Functions {
        static final int NAMESPACES = 6;
        static final int FUNCTIONS = 24;
        static final int EACH = 3;

        private final TypeTable table;
        private int namespaces = 1;
        private final int[] outers = new int[NAMESPACES];
        private int count;
        private final int[] places = new int[FUNCTIONS];
        private final int[] names = new int[FUNCTIONS];
        private final boolean[] areDeleted = new boolean[FUNCTIONS];
        private final int[] counts = new int[FUNCTIONS];
        private final char[] modes = new char[FUNCTIONS * EACH];
        private final int[] told = new int[FUNCTIONS * EACH];

        Functions(TypeTable table) {
            this.table = table;
            outers[0] = NONE;
        }

        static int constraintSet(int function) {
            return Templates.TEMPLATES * Templates.EACH + function;
        }

        int namespaces() {
            return namespaces;
        }

        /** The namespace in which one is, NONE for the first one. */
        int outer(int namespace) {
            return outers[namespace];
        }

        int putNamespace(int outer) {
            outers[namespaces] = outer;
            return namespaces++;
        }

        int count() {
            return count;
        }

        int put(int namespace, int name, boolean isDeleted) {
            places[count] = namespace;
            names[count] = name;
            areDeleted[count] = isDeleted;
            return count++;
        }

        int putParameter(int function, char mode, int type) {
            int place = function * EACH + counts[function];
            modes[place] = mode;
            told[place] = type;
            return ++counts[function];
        }

        boolean isNamed(int function, int namespace, int name) {
            return places[function] == namespace && names[function] == name;
        }

        boolean isDeleted(int function) {
            return areDeleted[function];
        }

        int parameters(int function) {
            return counts[function];
        }

        char mode(int function, int at) {
            return modes[function * EACH + at];
        }

        int told(int function, int at) {
            return told[function * EACH + at];
        }

        /** All types as told, three places a function. */
        int[] allTold() {
            return told;
        }

        boolean isOfTemplate(int function) {
            for (int i = 0; i < counts[function]; i++) {
                if (table.isOpen(table.place(told(function, i)))) return true;
            }
            return false;
        }
    }

    /** The arguments of a call, and how they come to the parameters of a function. */
    private static final class Call {
        /** The frames of bindings: what is deduced, what is tried, what a base gave. */
        private static final int DEDUCED = 0;
        private static final int TRIED = 1;
        private static final int OF_BASE = 2;

        private static final int RANK = 1000;
        private static final int TO_TRUTH = 99;
        /** Far more than a function can ask for. */
        static final int MOST_NEEDED = 10_000;

        private final TypeTable table;
        private final Hierarchy hierarchy;
        private final Bodies bodies;
        private final Functions functions;
        private final Bindings bindings;
        private int count;
        private final int[] arguments = new int[Functions.EACH];
        private final char[] categories = new char[Functions.EACH];
        /** The types of the parameters of the function that was looked at last. */
        private final int[] taken = new int[Functions.EACH];
        private final int[] ways = new int[Functions.FUNCTIONS * Functions.EACH];
        private final boolean[] areSure = new boolean[Functions.FUNCTIONS * Functions.EACH];
        private final int[] line = new int[Bodies.STEPS];

        Call(TypeTable table, Hierarchy hierarchy, Bodies bodies, Functions functions) {
            this.table = table;
            this.hierarchy = hierarchy;
            this.bodies = bodies;
            this.functions = functions;
            bindings = new Bindings(table, OF_BASE + 1);
            bindings.empty(DEDUCED);
        }

        int count() {
            return count;
        }

        /** The type of an argument. */
        int argument(int at) {
            return table.place(arguments[at]);
        }

        int put(int type, char category) {
            arguments[count] = type;
            categories[count] = category;
            return ++count;
        }

        int clear() {
            int before = count;
            count = 0;
            return before;
        }

        /** 1000 times the rank and the grade. */
        int wayOf(int function, int argument) {
            return ways[function * Functions.EACH + argument];
        }

        boolean isSure(int function, int argument) {
            return areSure[function * Functions.EACH + argument];
        }

        /** What was deduced for a parameter in the function that was looked at last, NONE for nothing. */
        int bound(int parameter) {
            return bindings.type(DEDUCED, parameter);
        }

        /**
         * Finds how the arguments come to the parameters of a function, and tells whether it is viable; if the body of an
         * instance is needed, it is to be called again then.
         */
        boolean settles(int function) {
            bindings.empty(DEDUCED);
            if (functions.parameters(function) != count) return false;
            for (int i = 0; i < count; i++) {
                int told = functions.told(function, i);
                int type = table.place(told);
                taken[i] = table.isOpen(type) ? matched(told, argument(i)) : type;
                if (taken[i] == NONE) return false;
            }
            if (!bodies.areMet(bindings, DEDUCED, Functions.constraintSet(function))) return false;
            for (int i = 0; i < count; i++) {
                int way = directWay(function, i);
                int conversions = 1;
                boolean isMadeFor = way == NONE && functions.mode(function, i) != 'r';
                if (isMadeFor) way = valueWay(argument(i), taken[i]);
                if (isMadeFor && way == NONE) {
                    conversions = conversions(argument(i), taken[i]);
                    if (conversions > 0) way = 3 * RANK;
                }
                if (way == NONE) return false;
                ways[function * Functions.EACH + i] = way;
                areSure[function * Functions.EACH + i] = conversions == 1;
            }
            return true;
        }

        /** The type that a pattern takes: that of the argument, or the only one of its bases that matches. */
        private int matched(int pattern, int type) {
            if (triesPattern(pattern, type)) {
                bindings.copy(TRIED, DEDUCED);
                return type;
            }
            if (!TypeTable.isInstance(table.token(pattern, 0))) return NONE;
            int only = NONE;
            int base = type;
            for (int step = 0; step < Bodies.STEPS && TypeTable.isInstance(table.head(base)); step++) {
                base = bodies.base(base);
                if (base == NONE || isInLine(base, step)) break;
                line[step] = base;
                if (triesPattern(pattern, base)) {
                    if (only != NONE) return NONE;
                    only = base;
                    bindings.copy(TRIED, OF_BASE);
                }
            }
            if (only != NONE) bindings.copy(OF_BASE, DEDUCED);
            return only;
        }

        private boolean isInLine(int base, int length) {
            for (int i = 0; i < length; i++) {
                if (line[i] == base) return true;
            }
            return false;
        }

        private boolean triesPattern(int pattern, int type) {
            bindings.copy(DEDUCED, TRIED);
            return bindings.matches(TRIED, pattern, type);
        }

        /** How an argument comes without a value that is made for it. */
        private int directWay(int function, int at) {
            char category = categories[at];
            char mode = functions.mode(function, at);
            boolean isGoing = category == 'r';
            if (mode == 'r' && category != 'l') return NONE;
            boolean isAlone = TypeTable.isParameter(table.token(functions.told(function, at), 0));
            if (mode == 'm' && !isGoing && !isAlone) return NONE;
            int steps = bodies.steps(argument(at), taken[at], table.head(taken[at]));
            if (steps < 0) return NONE;
            boolean isWorse = mode == 'm' ? !isGoing : mode != 'r' && category != 'k';
            return (steps == 0 ? 0 : 2 * RANK + 2 * steps) + (isWorse ? 1 : 0);
        }

        /** How a type comes to another one by a value that is made, but for the conversions of classes. */
        private int valueWay(int from, int to) {
            int head = table.head(from);
            int target = table.head(to);
            if (TypeTable.isBasic(head)) {
                if (!TypeTable.isBasic(target) || head == target) return NONE;
                boolean isGrowing = head == TypeTable.TRUTH || head == TypeTable.LETTER;
                return isGrowing && target == TypeTable.WHOLE ? RANK : 2 * RANK;
            }
            if (head != TypeTable.POINTER) return NONE;
            if (target == TypeTable.TRUTH) return 2 * RANK + TO_TRUTH;
            if (target != TypeTable.POINTER) return NONE;
            int steps = bodies.steps(table.first(from), table.first(to), table.head(table.first(to)));
            return steps > 0 ? 2 * RANK + 2 * steps : NONE;
        }

        /** The number of ways by a conversion of a class. */
        private int conversions(int from, int to) {
            int head = table.head(from);
            int target = table.head(to);
            int ways = 0;
            if (TypeTable.isClass(target)) {
                int cls = target - TypeTable.CLASS;
                for (int i = 0; i < hierarchy.conversions(cls, true); i++) {
                    int told = table.place(hierarchy.conversionAt(cls, true, i));
                    if (told == from || valueWay(from, told) != NONE) ways++;
                }
            }
            if (TypeTable.isClass(head)) {
                int cls = head - TypeTable.CLASS;
                for (int i = 0; i < hierarchy.conversions(cls, false); i++) {
                    int told = table.place(hierarchy.conversionAt(cls, false, i));
                    if (told == to || valueWay(told, to) != NONE) ways++;
                }
            }
            return ways;
        }
    }

    /** The candidates of a call, and which of them is chosen. */
    private static final class Choice {
        private static final int NO_VIABLE = -1;
        private static final int NO_BEST = -2;
        private static final int DELETED = -3;
        private static final int NOT_SURE = -4;
        /** The ways to walk: the smallest one of all first, or all in turn. */
        private static final int SMALLEST_FIRST = 0;
        static final int WAYS = 2;
        /** The queue of those that wait; the others are for the sizes, or there is one. */
        private static final int LATE = TypeTable.LARGEST + 1;

        private final TypeTable table;
        private final Hierarchy hierarchy;
        private final Templates templates;
        private final Bodies bodies;
        private final Functions functions;
        private final Call call;
        private final Likeness likeness;
        private final boolean[] areIn = new boolean[Functions.FUNCTIONS];
        private int name;
        /** The classes by way of which something may be found that is missing, as bits. */
        private int wanted;
        /** The walk through the types on which the candidates depend: the queues of those that are to be looked at. */
        private int way;
        private int current;
        private boolean isLate;
        private final int[] firsts = new int[LATE + 1];
        private final int[] lasts = new int[LATE + 1];

        Choice(TypeTable table, Hierarchy hierarchy, Templates templates, Bodies bodies, Likeness likeness,
                Functions functions, Call call) {
            this.table = table;
            this.hierarchy = hierarchy;
            this.templates = templates;
            this.bodies = bodies;
            this.functions = functions;
            this.call = call;
            this.likeness = likeness;
        }

        int count() {
            int sum = 0;
            for (int i = 0; i < functions.count(); i++) {
                if (areIn[i]) sum++;
            }
            return sum;
        }

        /** Finds the candidates of the call of a name that are there whatever the arguments are. */
        void begin(int namespace, int name) {
            this.name = name;
            for (int i = 0; i < Functions.FUNCTIONS; i++) {
                areIn[i] = false;
            }
            int at = namespace;
            for (int i = 0; i < Functions.NAMESPACES && at != NONE; i++) {
                at = takeFrom(at) ? NONE : functions.outer(at);
            }
            findWanted();
        }

        private boolean takeFrom(int namespace) {
            boolean hasSome = false;
            for (int i = 0; i < functions.count(); i++) {
                if (functions.isNamed(i, namespace, name)) {
                    areIn[i] = true;
                    hasSome = true;
                }
            }
            return hasSome;
        }

        /** Finds the classes by way of which a function may be found that is missing, as bits. */
        private void findWanted() {
            wanted = 0;
            for (int i = 0; i < functions.count(); i++) {
                for (int cls = 0; cls < hierarchy.count() && !areIn[i]; cls++) {
                    if (functions.isNamed(i, hierarchy.namespace(cls), name)) wanted |= 1 << cls;
                }
            }
        }

        /**
         * Begins a walk through a type, the types in it, and those that are bases of these. There may be more than there
         * is room for, so that there are several ways, which go to different ones first.
         */
        void beginWalk(int type, int way) {
            this.way = way;
            Arrays.fill(firsts, NONE);
            Arrays.fill(lasts, NONE);
            enqueue(type);
            current = next();
        }

        /** Goes on until the body of an instance is needed, and tells whether one is. */
        boolean goesOn() {
            for (int i = 0; i < TypeTable.ROOM && !isDone() && !table.isFull(); i++) {
                int head = table.head(current);
                enqueue(table.first(current));
                enqueue(table.second(current));
                if (TypeTable.isClass(head)) takeFromClass(head - TypeTable.CLASS);
                int base = TypeTable.isInstance(head) ? newBase() : NONE;
                enqueue(base);
                if (bodies.needsOne()) return true;
                current = next();
            }
            return false;
        }

        /** Whether there is something to find yet. */
        boolean lacksSome() {
            return wanted != 0;
        }

        /** Whether there is nothing to find, or nothing that was not looked at. */
        boolean isDone() {
            return current == NONE || wanted == 0;
        }

        /** Whether there are only types left for which it takes long to find the base. */
        boolean isLate() {
            return isLate;
        }

        /** Lets a type wait for which it takes long to find the base, until there are no others. */
        void putOff() {
            put(current, LATE);
            current = next();
        }

        /** The base of a type; NONE if there is none, if that of one like it was queued, or if a body is needed first. */
        private int newBase() {
            boolean doesLiken = table.count() > Search.MANY;
            table.makeRoom();
            int parts = doesLiken ? likeness.parts(current) : 0;
            for (int i = 0; i < parts && !bodies.needsOne(); i++) {
                bodies.led(likeness.part(i), false);
            }
            int key = bodies.needsOne() || !doesLiken ? current : likeness.key(current, false);
            boolean isLikeOther = key != current && table.note(key, TypeTable.QUEUE) != 0;
            int base = bodies.needsOne() || isLikeOther ? NONE : bodies.base(current);
            if (key != current && !bodies.needsOne()) table.setNote(key, TypeTable.QUEUE, 1);
            return base;
        }

        /** The next type of the queue, the smallest one if there are several queues; NONE if there is none. */
        private int next() {
            for (int i = 0; i <= LATE; i++) {
                int type = firsts[i];
                isLate = i == LATE;
                if (type == NONE) continue;
                firsts[i] = table.note(type, TypeTable.QUEUE) - 2;
                if (firsts[i] == NONE) lasts[i] = NONE;
                return type;
            }
            return NONE;
        }

        private void enqueue(int type) {
            if (isWanted(type)) put(type, way == SMALLEST_FIRST ? table.size(type) : 0);
        }

        private void put(int type, int queue) {
            table.setNote(type, TypeTable.QUEUE, 1);
            if (lasts[queue] == NONE) firsts[queue] = type;
            else table.setNote(lasts[queue], TypeTable.QUEUE, type + 2);
            lasts[queue] = type;
        }

        /** Whether a type was not queued, and something that is missing may be found by way of it. */
        private boolean isWanted(int type) {
            if (type == NONE || table.note(type, TypeTable.QUEUE) != 0) return false;
            return (templates.classesBehind(type) & wanted) != 0;
        }

        private void takeFromClass(int cls) {
            for (int base = 0; base <= cls; base++) {
                if (hierarchy.steps(cls, base) != NONE) takeFrom(hierarchy.namespace(base));
            }
            findWanted();
        }

        boolean has(int function) {
            return areIn[function];
        }

        void drop(int function) {
            areIn[function] = false;
        }

        /** The best one by a walk for it and a walk against it. */
        int bestByWalks() {
            int best = NO_VIABLE;
            for (int i = 0; i < functions.count(); i++) {
                if (areIn[i] && (best == NO_VIABLE || isBetter(i, best))) best = i;
            }
            for (int i = 0; i < functions.count() && best >= 0; i++) {
                if (areIn[i] && i != best && !isBetter(best, i)) best = NO_BEST;
            }
            return best;
        }

        /** The best one by comparing each two. */
        int bestByPairs() {
            int answer = NO_VIABLE;
            for (int own = 0; own < functions.count(); own++) {
                if (!areIn[own]) continue;
                boolean isBest = true;
                for (int other = 0; other < functions.count(); other++) {
                    if (areIn[other] && other != own && !isBetter(own, other)) isBest = false;
                }
                if (isBest) return own;
                answer = NO_BEST;
            }
            return answer;
        }

        int answer(int best) {
            if (best < 0) return best;
            if (functions.isDeleted(best)) return DELETED;
            for (int i = 0; i < call.count(); i++) {
                if (!call.isSure(best, i)) return NOT_SURE;
            }
            return best;
        }

        private boolean isBetter(int own, int other) {
            boolean isAlike = true;
            for (int i = 0; i < call.count(); i++) {
                int difference = call.wayOf(own, i) - call.wayOf(other, i);
                if (difference > 0) return false;
                if (difference < 0) isAlike = false;
            }
            if (!isAlike) return true;
            boolean isOwnTemplate = functions.isOfTemplate(own);
            boolean isOtherTemplate = functions.isOfTemplate(other);
            if (!isOwnTemplate || !isOtherTemplate) return !isOwnTemplate && isOtherTemplate;
            return templates.isMoreSpecial(functions.allTold(), own * Functions.EACH, other * Functions.EACH,
                    call.count(), Functions.constraintSet(own), Functions.constraintSet(other));
        }
    }

    /**
     * The methods that classes override, what their bodies do, the objects and blocks, and the trace of what is made
     * and taken down.
     */
    private static final class Making {
        static final int TIMES = 99;
        static final int BLOCKS = 10;
        static final int ARRAY = 5;
        static final int LIVING = 40;
        private static final int TRACE = 600;
        private static final int TEMPORARY = -1;

        private final Hierarchy hierarchy;
        private final boolean[] doOverride = new boolean[Hierarchy.CLASSES * METHODS];
        /** For each class and method, the class whose method it is, NONE or SEVERAL. */
        private final int[] owners = new int[Hierarchy.CLASSES * METHODS];
        private final int[] spoken = new int[Hierarchy.CLASSES];
        private final boolean[] doDelegate = new boolean[Hierarchy.CLASSES];
        /** How many times a class is made until it throws, 0 if it does not. */
        private final int[] times = new int[Hierarchy.CLASSES];
        private final boolean[] areTries = new boolean[BLOCKS];
        private int blocks = 1;
        private int living;
        private final int[] livingClasses = new int[LIVING];
        private final long[] livingNumbers = new long[LIVING];
        private final int[] livingBlocks = new int[LIVING];
        private int traced;
        private final char[] kinds = new char[TRACE];
        private final int[] classes = new int[TRACE];
        private final int[] objects = new int[TRACE];
        private long next;
        private long madeParts;
        private long takenParts;

        Making(Hierarchy hierarchy) {
            this.hierarchy = hierarchy;
            for (int i = 0; i < Hierarchy.CLASSES; i++) {
                spoken[i] = NONE;
            }
            for (int i = 0; i < Hierarchy.CLASSES * METHODS; i++) {
                owners[i] = NONE;
            }
        }

        boolean changeOverriding(int cls, int method, boolean does) {
            boolean before = doOverride[cls * METHODS + method];
            doOverride[cls * METHODS + method] = does;
            findOwners();
            return before;
        }

        int changeBody(int cls, int method, boolean delegates) {
            int before = spoken[cls];
            spoken[cls] = method;
            doDelegate[cls] = delegates;
            return before;
        }

        /** The class whose method it is for a class, NONE or SEVERAL. */
        int ownerOf(int cls, int method) {
            return owners[cls * METHODS + method];
        }

        /** To be called whenever a class gets a base, too. */
        void findOwners() {
            for (int cls = 0; cls < hierarchy.count(); cls++) {
                for (int method = 0; method < METHODS; method++) {
                    owners[cls * METHODS + method] = foundOwner(cls, method);
                }
            }
        }

        private int foundOwner(int cls, int method) {
            if (doOverride[cls * METHODS + method]) return cls;
            int owner = NONE;
            for (int base = 0; base < cls; base++) {
                boolean isOne = hierarchy.isBase(base, cls) && doOverride[base * METHODS + method];
                if (isOne && !isBehindAnother(base, cls, method)) {
                    if (owner != NONE) return SEVERAL;
                    owner = base;
                }
            }
            return owner;
        }

        private boolean isBehindAnother(int base, int cls, int method) {
            for (int other = base + 1; other < cls; other++) {
                boolean isOne = hierarchy.isBase(other, cls) && doOverride[other * METHODS + method];
                if (isOne && hierarchy.isBase(base, other)) return true;
            }
            return false;
        }

        boolean hasBegun() {
            return next > 0;
        }

        int blocks() {
            return blocks;
        }

        int livingCount() {
            return living;
        }

        int traced() {
            return traced;
        }

        char kindAt(int index) {
            return kinds[index];
        }

        int classAt(int index) {
            return classes[index];
        }

        int objectAt(int index) {
            return objects[index];
        }

        long madeParts() {
            return madeParts;
        }

        long takenParts() {
            return takenParts;
        }

        int changeTimes(int cls, int howMany) {
            int before = times[cls];
            times[cls] = howMany;
            return before;
        }

        int openBlock(boolean isTry) {
            areTries[blocks] = isTry;
            return ++blocks;
        }

        int closeBlock() {
            takeTemporaries();
            blocks--;
            takeDownFrom(blocks);
            return blocks;
        }

        char makeObjects(int cls, boolean isTemporary, int count) {
            int before = living;
            for (int i = 0; i < count; i++) {
                long number = next;
                if (!makeWhole(cls)) {
                    takeDownArray(before);
                    return unwind();
                }
                livingClasses[living] = cls;
                livingNumbers[living] = number;
                livingBlocks[living] = isTemporary ? TEMPORARY : blocks - 1;
                living++;
            }
            return 'm';
        }

        int takeTemporaries() {
            int taken = 0;
            for (int i = living - 1; i >= 0; i--) {
                if (livingBlocks[i] == TEMPORARY) {
                    takeWhole(livingClasses[i], livingNumbers[i]);
                    closeGap(i);
                    taken++;
                }
            }
            return taken;
        }

        /** Takes down what a throw leaves behind, and tells whether a try caught it. */
        char unwind() {
            takeTemporaries();
            while (blocks > 1) {
                blocks--;
                takeDownFrom(blocks);
                if (areTries[blocks]) return 'c';
            }
            takeDownFrom(0);
            return 'u';
        }

        /** Takes down the objects of a block and of those in it; there are no temporaries among them. */
        private void takeDownFrom(int block) {
            while (living > 0 && livingBlocks[living - 1] >= block) {
                living--;
                takeWhole(livingClasses[living], livingNumbers[living]);
            }
        }

        private void takeDownArray(int before) {
            while (living > before) {
                living--;
                takeWhole(livingClasses[living], livingNumbers[living]);
            }
        }

        private void closeGap(int at) {
            living--;
            for (int i = at; i < living; i++) {
                livingClasses[i] = livingClasses[i + 1];
                livingNumbers[i] = livingNumbers[i + 1];
                livingBlocks[i] = livingBlocks[i + 1];
            }
        }

        private boolean makeWhole(int cls) {
            if (isQuiet(cls, true)) return makeQuietly(cls, true);
            long number = next++;
            int virtuals = hierarchy.virtuals(cls);
            for (int i = 0; i < virtuals; i++) {
                long before = next;
                if (!makePart(hierarchy.virtualAt(cls, i), number)) {
                    takeVirtuals(cls, number, before, i);
                    return false;
                }
            }
            long before = next;
            if (makePart(cls, number)) return true;
            takeVirtuals(cls, number, before, virtuals);
            return false;
        }

        private boolean makePart(int cls, long number) {
            if (isQuiet(cls, false)) return makeQuietly(cls, false);
            int bases = hierarchy.bases(cls);
            for (int i = 0; i < bases; i++) {
                long before = next;
                if (!hierarchy.isVirtualAt(cls, i) && !makePart(hierarchy.baseAt(cls, i), number)) {
                    takeInner(cls, number, before, 0, i);
                    return false;
                }
            }
            int members = hierarchy.members(cls);
            for (int i = 0; i < members; i++) {
                long before = next;
                if (!makeWhole(hierarchy.memberAt(cls, i))) {
                    takeInner(cls, number, before, i, bases);
                    return false;
                }
            }
            if (makeBody(cls, number)) return true;
            takeInner(cls, number, next, members, bases);
            return false;
        }

        private boolean makeBody(int cls, long number) {
            boolean isThrowing = times[cls] == 1;
            if (times[cls] > 0) times[cls]--;
            boolean delegates = doDelegate[cls];
            if (isThrowing && !delegates) {
                note('X', cls, number);
                return false;
            }
            note('C', cls, number);
            speak(cls, number);
            madeParts++;
            if (delegates) note(isThrowing ? 'X' : 'G', cls, number);
            if (isThrowing) takeBody(cls, number);
            return !isThrowing;
        }

        private void takeBody(int cls, long number) {
            speak(cls, number);
            note('D', cls, number);
            takenParts++;
        }

        private void takeWhole(int cls, long number) {
            long end = number + hierarchy.wholeObjects(cls);
            takePart(cls, number, end);
            takeVirtuals(cls, number, end - hierarchy.partObjects(cls), hierarchy.virtuals(cls));
        }

        /** Takes down the first so many virtual bases; the members in them have the numbers ahead of the end. */
        private void takeVirtuals(int cls, long number, long end, int count) {
            long left = end;
            for (int i = count - 1; i >= 0; i--) {
                int base = hierarchy.virtualAt(cls, i);
                takePart(base, number, left);
                left -= hierarchy.partObjects(base);
            }
        }

        private void takePart(int cls, long number, long end) {
            if (traced >= TRACE) {
                for (int i = 0; i <= cls; i++) {
                    takenParts += hierarchy.partBodies(cls, i);
                }
                return;
            }
            takeBody(cls, number);
            takeInner(cls, number, end, hierarchy.members(cls), hierarchy.bases(cls));
        }

        /** Takes down the first so many members, and the first so many own bases. */
        private void takeInner(int cls, long number, long end, int members, int bases) {
            long left = end;
            for (int i = members - 1; i >= 0; i--) {
                int member = hierarchy.memberAt(cls, i);
                left -= hierarchy.wholeObjects(member);
                takeWhole(member, left);
            }
            for (int i = bases - 1; i >= 0; i--) {
                if (hierarchy.isVirtualAt(cls, i)) continue;
                int base = hierarchy.baseAt(cls, i);
                takePart(base, number, left);
                left -= hierarchy.partObjects(base);
            }
        }

        /** Whether nothing of a making is traced, and none of it throws: as it may be very long, it is only counted. */
        private boolean isQuiet(int cls, boolean isWhole) {
            if (traced < TRACE) return false;
            for (int i = 0; i <= cls; i++) {
                if (times[i] > 0 && bodiesOf(i, cls, isWhole) >= times[i]) return false;
            }
            return true;
        }

        private boolean makeQuietly(int cls, boolean isWhole) {
            for (int i = 0; i <= cls; i++) {
                long bodies = bodiesOf(i, cls, isWhole);
                madeParts += bodies;
                if (times[i] > 0) times[i] -= (int) bodies;
            }
            next += isWhole ? hierarchy.wholeObjects(cls) : hierarchy.partObjects(cls);
            return true;
        }

        private long bodiesOf(int which, int cls, boolean isWhole) {
            return isWhole ? hierarchy.wholeBodies(cls, which) : hierarchy.partBodies(cls, which);
        }

        private void speak(int cls, long number) {
            int method = spoken[cls];
            if (method != NONE) note('V', ownerOf(cls, method), number);
        }

        private void note(char kind, int cls, long number) {
            if (traced >= TRACE) return;
            kinds[traced] = kind;
            classes[traced] = cls;
            objects[traced] = (int) number;
            traced++;
        }
    }
}
