import java.util.NoSuchElementException;

/** A language of templates and objects; the document that it keeps to is ../shared/DOC.md. */
public final class Overloadery {
    private static final int NONE = -1;
    private static final int SEVERAL = -2;
    private static final int NAMES = 6;
    private static final int METHODS = 4;
    private static final int PARAMETERS = 3;

    private final TypeTable table;
    private final Hierarchy hierarchy;
    private final Constraints constraints;
    private final Templates templates;
    private final Bodies bodies;
    private final Functions functions;
    private final Call call;
    private final Choice choice;
    private final Methods methods;
    private final Making making;

    public Overloadery() {
        TypeTable newTable = new TypeTable();
        Hierarchy newHierarchy = new Hierarchy();
        Constraints newConstraints = new Constraints(newTable);
        Templates newTemplates = new Templates(newConstraints);
        Bodies newBodies = new Bodies(newTable, newHierarchy, newConstraints, newTemplates);
        Functions newFunctions = new Functions(newTable);
        Call newCall = new Call(newTable, newHierarchy, newBodies, newFunctions);
        Methods newMethods = new Methods(newHierarchy);
        table = newTable;
        hierarchy = newHierarchy;
        constraints = newConstraints;
        templates = newTemplates;
        bodies = newBodies;
        functions = newFunctions;
        call = newCall;
        choice = new Choice(newTable, newHierarchy, newConstraints, newBodies, newFunctions, newCall);
        methods = newMethods;
        making = new Making(newHierarchy, newMethods);
    }

    // ---- types

    public int pointerTo(int type) throws IndexOutOfBoundsException, IllegalStateException {
        needType(type);
        table.begin();
        table.put(TypeTable.POINTER);
        table.putPart(type, 0, table.size(type));
        return needRoom(table.numberedDraft());
    }

    public int classType(int cls) throws IndexOutOfBoundsException, IllegalStateException {
        needClass(cls);
        table.begin();
        table.put(TypeTable.CLASS + cls);
        return needRoom(table.numberedDraft());
    }

    public int parameter(int parameter) throws IllegalArgumentException, IllegalStateException {
        if (!isParameter(parameter)) throw new IllegalArgumentException();
        table.begin();
        table.put(TypeTable.PARAMETER + parameter);
        return needRoom(table.numberedDraft());
    }

    public int instance(int template, int first, int second)
            throws IndexOutOfBoundsException, IllegalArgumentException, IllegalStateException {
        needRow(template, first, second);
        boolean isSingle = templates.parameters(template) == 1;
        table.begin();
        table.put((isSingle ? TypeTable.SINGLE : TypeTable.TWOFOLD) + template);
        table.putPart(first, 0, table.size(first));
        if (!isSingle) table.putPart(second, 0, table.size(second));
        return needRoom(table.numberedDraft());
    }

    public char kindOf(int type) throws IndexOutOfBoundsException {
        needType(type);
        int head = table.head(type);
        if (head == TypeTable.POINTER) return 'p';
        if (TypeTable.isClass(head)) return 'c';
        if (TypeTable.isParameter(head)) return 't';
        return TypeTable.isInstance(head) ? 'i' : 'b';
    }

    public int types() {
        return table.count();
    }

    public int baseOf(int type)
            throws IndexOutOfBoundsException, IllegalArgumentException, NoSuchElementException, IllegalStateException {
        needClosedInstance(type);
        bodies.startAnew();
        int base = bodies.baseAt(type, 0);
        if (base == NONE) throw new NoSuchElementException();
        return needRoom(table.number(base));
    }

    public int chosenFor(int type) throws IndexOutOfBoundsException, IllegalArgumentException {
        needClosedInstance(type);
        bodies.startAnew();
        return bodies.bodyAt(type, 0);
    }

    // ---- namespaces, classes, templates

    public int addNamespace(int outer) throws IndexOutOfBoundsException, IllegalStateException {
        needNamespace(outer);
        if (functions.namespaces() >= Functions.NAMESPACES) throw new IllegalStateException();
        return functions.putNamespace(outer);
    }

    public int addClass(int namespace) throws IndexOutOfBoundsException, IllegalStateException {
        needNamespace(namespace);
        if (hierarchy.count() >= Hierarchy.CLASSES) throw new IllegalStateException();
        return hierarchy.put(namespace);
    }

    public int addBase(int cls, int base, boolean isVirtual)
            throws IndexOutOfBoundsException, IllegalArgumentException, IllegalStateException {
        needClass(cls);
        needClass(base);
        if (base >= cls || hierarchy.hasOwnBase(cls, base)) throw new IllegalArgumentException();
        if (hierarchy.bases(cls) >= Hierarchy.EACH || making.hasBegun()) throw new IllegalStateException();
        int bases = hierarchy.putBase(cls, base, isVirtual);
        methods.findOwners();
        return bases;
    }

    public int addMember(int cls, int member)
            throws IndexOutOfBoundsException, IllegalArgumentException, IllegalStateException {
        needClass(cls);
        needClass(member);
        if (member >= cls) throw new IllegalArgumentException();
        if (hierarchy.members(cls) >= Hierarchy.EACH || making.hasBegun()) throw new IllegalStateException();
        return hierarchy.putMember(cls, member);
    }

    public int addConversion(int cls, int type, boolean isFrom)
            throws IndexOutOfBoundsException, IllegalArgumentException, IllegalStateException {
        needClass(cls);
        needType(type);
        boolean isItself = table.head(type) == TypeTable.CLASS + cls;
        if (table.isOpen(type) || isItself || hierarchy.hasConversion(cls, type, isFrom)) {
            throw new IllegalArgumentException();
        }
        if (hierarchy.conversions(cls, isFrom) >= Hierarchy.TOLD) throw new IllegalStateException();
        return hierarchy.putConversion(cls, type, isFrom);
    }

    public int addTemplate(int parameters) throws IllegalArgumentException, IllegalStateException {
        if (parameters < 1 || parameters > 2) throw new IllegalArgumentException();
        if (templates.count() >= Templates.TEMPLATES) throw new IllegalStateException();
        return templates.put(parameters);
    }

    public int specialise(int template, int first, int second)
            throws IndexOutOfBoundsException, IllegalArgumentException, IllegalStateException {
        needRow(template, first, second);
        if (templates.specialisations(template) >= Templates.EACH) throw new IllegalStateException();
        return templates.putSpecialisation(template, first, second);
    }

    public int setBase(int template, int specialisation, int type)
            throws IndexOutOfBoundsException, IllegalArgumentException {
        needTemplate(template);
        if (specialisation != Bodies.ITSELF) needSpecialisation(template, specialisation);
        if (type != NONE) {
            needType(type);
            if (!hasBases(type)) throw new IllegalArgumentException();
        }
        return templates.changeBase(template, specialisation, type);
    }

    public int constrain(int template, int specialisation, int parameter, char letter, int cls)
            throws IndexOutOfBoundsException, IllegalArgumentException, IllegalStateException {
        needTemplate(template);
        needSpecialisation(template, specialisation);
        needConstraint(parameter, letter, cls);
        int set = Templates.place(template, specialisation);
        if (constraints.count(set) >= Constraints.EACH) throw new IllegalStateException();
        constraints.put(set, parameter, letter, cls);
        templates.compareAll(template);
        return constraints.count(set);
    }

    public int distance(int type, int base)
            throws IndexOutOfBoundsException, IllegalArgumentException, NoSuchElementException,
            UnsupportedOperationException {
        needType(type);
        needType(base);
        boolean isOpen = table.isOpen(type) || table.isOpen(base);
        if (isOpen || !hasBases(type) || !hasBases(base)) throw new IllegalArgumentException();
        bodies.startAnew();
        int steps = bodies.stepsAt(type, base, 0);
        if (steps == NONE) throw new NoSuchElementException();
        if (steps == SEVERAL) throw new UnsupportedOperationException();
        return steps;
    }

    // ---- functions and calls

    public int addFunction(int namespace, int name, boolean isDeleted)
            throws IndexOutOfBoundsException, IllegalArgumentException, IllegalStateException {
        needNamespace(namespace);
        needName(name);
        if (functions.count() >= Functions.FUNCTIONS) throw new IllegalStateException();
        return functions.put(namespace, name, isDeleted);
    }

    public int addParameter(int function, char mode, int type)
            throws IndexOutOfBoundsException, IllegalArgumentException, IllegalStateException {
        needFunction(function);
        needType(type);
        if (mode != 'v' && mode != 'r' && mode != 'c' && mode != 'm') throw new IllegalArgumentException();
        if (functions.parameters(function) >= Functions.EACH) throw new IllegalStateException();
        return functions.putParameter(function, mode, type);
    }

    public int require(int function, int parameter, char letter, int cls)
            throws IndexOutOfBoundsException, IllegalArgumentException, IllegalStateException {
        needFunction(function);
        needConstraint(parameter, letter, cls);
        int set = Functions.constraintSet(function);
        if (constraints.count(set) >= Constraints.EACH) throw new IllegalStateException();
        constraints.put(set, parameter, letter, cls);
        return constraints.count(set);
    }

    public int addArgument(int type, char category)
            throws IndexOutOfBoundsException, IllegalArgumentException, IllegalStateException {
        needType(type);
        boolean isCategory = category == 'l' || category == 'k' || category == 'r';
        if (table.isOpen(type) || !isCategory) throw new IllegalArgumentException();
        if (call.count() >= Functions.EACH) throw new IllegalStateException();
        return call.put(type, category);
    }

    public int clearArguments() {
        return call.clear();
    }

    public int candidates(int namespace, int name) throws IndexOutOfBoundsException, IllegalArgumentException {
        needNamespace(namespace);
        needName(name);
        choice.gather(namespace, name);
        return choice.count();
    }

    public boolean isViable(int function) throws IndexOutOfBoundsException {
        needFunction(function);
        return call.settles(function);
    }

    public int coming(int function, int argument) throws IndexOutOfBoundsException, IllegalStateException {
        needFunction(function);
        if (argument < 0 || argument >= call.count()) throw new IndexOutOfBoundsException();
        if (!call.settles(function)) throw new IllegalStateException();
        int way = call.wayOf(function, argument);
        return call.isSure(function, argument) ? way : -1 - way;
    }

    public int deduced(int function, int parameter)
            throws IndexOutOfBoundsException, IllegalStateException, NoSuchElementException,
            UnsupportedOperationException {
        needFunction(function);
        if (!isParameter(parameter)) throw new IndexOutOfBoundsException();
        if (!call.settles(function)) throw new IllegalStateException();
        if (!call.standsFor(parameter)) throw new NoSuchElementException();
        int number = table.number(call.bound(parameter));
        if (number == NONE) throw new UnsupportedOperationException();
        return number;
    }

    public int resolve(int namespace, int name) throws IndexOutOfBoundsException, IllegalArgumentException {
        needNamespace(namespace);
        needName(name);
        choice.gather(namespace, name);
        for (int i = 0; i < functions.count(); i++) {
            if (choice.has(i) && !call.settles(i)) choice.drop(i);
        }
        return choice.answer(choice.bestByWalks());
    }

    public int resolveAnew(int namespace, int name) throws IndexOutOfBoundsException, IllegalArgumentException {
        needNamespace(namespace);
        needName(name);
        choice.gather(namespace, name);
        for (int i = 0; i < functions.count(); i++) {
            if (choice.has(i) && !call.settles(i)) choice.drop(i);
        }
        return choice.answer(choice.bestByPairs());
    }

    // ---- objects

    public boolean override(int cls, int method, boolean does)
            throws IndexOutOfBoundsException, IllegalArgumentException {
        needClass(cls);
        if (!isMethod(method)) throw new IllegalArgumentException();
        return methods.change(cls, method, does);
    }

    public int overrider(int cls, int method) throws IndexOutOfBoundsException, IllegalArgumentException {
        needClass(cls);
        if (!isMethod(method)) throw new IllegalArgumentException();
        return methods.ownerOf(cls, method);
    }

    public int setBody(int cls, int method, boolean delegates)
            throws IndexOutOfBoundsException, IllegalArgumentException {
        needClass(cls);
        if (method != NONE && !isMethod(method)) throw new IllegalArgumentException();
        return methods.changeBody(cls, method, delegates);
    }

    public int setThrow(int cls, int times) throws IndexOutOfBoundsException, IllegalArgumentException {
        needClass(cls);
        if (times < 0 || times > Making.TIMES) throw new IllegalArgumentException();
        return making.changeTimes(cls, times);
    }

    public int open(boolean isTry) throws IllegalStateException {
        if (making.blocks() >= Making.BLOCKS) throw new IllegalStateException();
        return making.openBlock(isTry);
    }

    public int close() throws IllegalStateException {
        if (making.blocks() <= 1) throw new IllegalStateException();
        return making.closeBlock();
    }

    public char make(int cls, char how, int many)
            throws IndexOutOfBoundsException, IllegalArgumentException, IllegalStateException {
        needClass(cls);
        boolean isArray = how == 'a';
        if (!isArray && how != 'o' && how != 't' && how != 'l') throw new IllegalArgumentException();
        if (isArray && (many < 1 || many > Making.ARRAY)) throw new IllegalArgumentException();
        int count = isArray ? many : 1;
        if (making.livingCount() + count > Making.LIVING) throw new IllegalStateException();
        return making.makeObjects(cls, how == 't', count);
    }

    public int endExpression() {
        return making.takeTemporaries();
    }

    public char raise() {
        return making.unwind();
    }

    public int living() {
        return making.livingCount();
    }

    public int trace() {
        return making.traced();
    }

    public char traceKind(int index) throws IndexOutOfBoundsException {
        needTraced(index);
        return making.kindAt(index);
    }

    public int traceClass(int index) throws IndexOutOfBoundsException {
        needTraced(index);
        return making.classAt(index);
    }

    public int traceObject(int index) throws IndexOutOfBoundsException {
        needTraced(index);
        return making.objectAt(index);
    }

    // ---- totals

    public long made() {
        return making.madeParts();
    }

    public long takenDown() {
        return making.takenParts();
    }

    public float viableShare() throws ArithmeticException {
        int all = functions.count();
        if (all == 0) throw new ArithmeticException();
        int viable = 0;
        for (int i = 0; i < all; i++) {
            if (call.settles(i)) viable++;
        }
        return (float) viable / (float) all;
    }

    public double meanParts() throws ArithmeticException {
        int all = hierarchy.count();
        if (all == 0) throw new ArithmeticException();
        long sum = 0;
        for (int i = 0; i < all; i++) {
            sum += hierarchy.allParts(i);
        }
        return (double) sum / (double) all;
    }

    // ---- what the calls ask of their arguments

    private void needType(int type) {
        if (!table.has(type)) throw new IndexOutOfBoundsException();
    }

    private void needClass(int cls) {
        if (cls < 0 || cls >= hierarchy.count()) throw new IndexOutOfBoundsException();
    }

    private void needNamespace(int namespace) {
        if (namespace < 0 || namespace >= functions.namespaces()) throw new IndexOutOfBoundsException();
    }

    private void needTemplate(int template) {
        if (template < 0 || template >= templates.count()) throw new IndexOutOfBoundsException();
    }

    private void needSpecialisation(int template, int specialisation) {
        if (specialisation < 0 || specialisation >= templates.specialisations(template)) {
            throw new IndexOutOfBoundsException();
        }
    }

    private void needFunction(int function) {
        if (function < 0 || function >= functions.count()) throw new IndexOutOfBoundsException();
    }

    private void needTraced(int index) {
        if (index < 0 || index >= making.traced()) throw new IndexOutOfBoundsException();
    }

    private void needName(int name) {
        if (name < 0 || name >= NAMES) throw new IllegalArgumentException();
    }

    /** A row of one or two types for a template. */
    private void needRow(int template, int first, int second) {
        needTemplate(template);
        needType(first);
        if (second != NONE) needType(second);
        boolean isSingle = templates.parameters(template) == 1;
        if (isSingle != (second == NONE)) throw new IllegalArgumentException();
    }

    private void needClosedInstance(int type) {
        needType(type);
        if (!TypeTable.isInstance(table.head(type)) || table.isOpen(type)) throw new IllegalArgumentException();
    }

    private void needConstraint(int parameter, char letter, int cls) {
        if (letter == 'd') needClass(cls);
        boolean isLetter = letter == 'p' || letter == 'c' || letter == 'b' || letter == 'd';
        if (!isParameter(parameter) || !isLetter) throw new IllegalArgumentException();
    }

    private int needRoom(int type) {
        if (type == NONE) throw new IllegalStateException();
        return type;
    }

    private boolean hasBases(int type) {
        int head = table.head(type);
        return TypeTable.isClass(head) || TypeTable.isInstance(head);
    }

    private static boolean isParameter(int parameter) {
        return parameter >= 0 && parameter < PARAMETERS;
    }

    private static boolean isMethod(int method) {
        return method >= 0 && method < METHODS;
    }

    /**
     * The types, each a row of tokens: that of a pointer or an instance stands ahead of those of the types in it, so
     * that the size of a type is the length of its row. The numbered types come first; behind them are the passing
     * ones, which come about within a call and have no number.
     */
    private static final class TypeTable {
        static final int TRUTH = 0;
        static final int LETTER = 1;
        static final int WHOLE = 2;
        static final int BASIC = 5;
        static final int CLASS = 10;
        static final int PARAMETER = 30;
        static final int POINTER = 40;
        static final int SINGLE = 50;
        static final int TWOFOLD = 60;

        private static final int NUMBERED = 150;
        private static final int ROOM = 600;
        private static final int LARGEST = 30;
        private static final int NO_TOKEN = -1;

        private final int[] tokens = new int[ROOM * LARGEST];
        private final int[] sizes = new int[ROOM];
        private final int[] draft = new int[LARGEST];
        private int draftSize;
        private boolean isDraftTooLarge;
        private int numbered;
        private int passing;

        TypeTable() {
            for (int i = 0; i < BASIC; i++) {
                tokens[i * LARGEST] = i;
                sizes[i] = 1;
            }
            numbered = BASIC;
            passing = NUMBERED;
        }

        static boolean isBasic(int token) {
            return token >= 0 && token < BASIC;
        }

        static boolean isClass(int token) {
            return token >= CLASS && token < PARAMETER;
        }

        static boolean isParameter(int token) {
            return token >= PARAMETER && token < POINTER;
        }

        static boolean isInstance(int token) {
            return token >= SINGLE;
        }

        static int templateOf(int token) {
            return token >= TWOFOLD ? token - TWOFOLD : token - SINGLE;
        }

        int count() {
            return numbered;
        }

        boolean has(int type) {
            return type >= 0 && type < numbered;
        }

        int size(int type) {
            return type >= 0 && type < ROOM ? sizes[type] : 0;
        }

        int head(int type) {
            return token(type, 0);
        }

        int token(int type, int at) {
            boolean isThere = type >= 0 && type < ROOM && at >= 0 && at < sizes[type];
            return isThere ? tokens[type * LARGEST + at] : NO_TOKEN;
        }

        boolean isOpen(int type) {
            int size = size(type);
            for (int i = 0; i < size; i++) {
                if (isParameter(tokens[type * LARGEST + i])) return true;
            }
            return false;
        }

        /** Where the type that begins at a place of a row ends. */
        int end(int type, int from) {
            int size = type >= 0 && type < ROOM && from >= 0 ? sizes[type] : 0;
            int missing = 1;
            int at = from;
            while (missing > 0 && at < size) {
                int token = tokens[type * LARGEST + at];
                if (token >= TWOFOLD) missing++;
                else if (token < POINTER) missing--;
                at++;
            }
            return at;
        }

        /** Whether the same stands from a place of a row on as in another row; both are known to be as long. */
        boolean isSamePart(int type, int from, int to, int other, int otherFrom) {
            int shift = other * LARGEST + otherFrom - from;
            for (int i = from; i < to; i++) {
                if (tokens[type * LARGEST + i] != tokens[shift + i]) return false;
            }
            return true;
        }

        void forgetPassing() {
            passing = NUMBERED;
        }

        void begin() {
            draftSize = 0;
            isDraftTooLarge = false;
        }

        void put(int token) {
            if (draftSize < LARGEST) draft[draftSize++] = token;
            else isDraftTooLarge = true;
        }

        void putPart(int type, int from, int to) {
            for (int i = from; i < to; i++) {
                put(token(type, i));
            }
        }

        /** The drafted type with a number, a new one if need be; NONE if it can't have one. */
        int numberedDraft() {
            if (isDraftTooLarge) return NONE;
            int known = draftAmong(0, numbered);
            if (known != NONE || numbered >= NUMBERED) return known;
            store(numbered);
            return numbered++;
        }

        /** The drafted type, as a passing one if it has no number; NONE if it is too large. */
        int keptDraft() {
            if (isDraftTooLarge) return NONE;
            int known = draftAmong(0, numbered);
            if (known == NONE) known = draftAmong(NUMBERED, passing);
            if (known != NONE || passing >= ROOM) return known;
            store(passing);
            return passing++;
        }

        int number(int type) {
            if (has(type)) return type;
            begin();
            putPart(type, 0, size(type));
            return draftSize == 0 ? NONE : numberedDraft();
        }

        int part(int type, int from, int to) {
            begin();
            putPart(type, from, to);
            return draftSize == 0 ? NONE : keptDraft();
        }

        int ofClass(int cls) {
            begin();
            put(CLASS + cls);
            return keptDraft();
        }

        private int draftAmong(int from, int to) {
            for (int type = from; type < to; type++) {
                int at = sizes[type] == draftSize ? 0 : NONE;
                while (at >= 0 && at < draftSize) {
                    at = tokens[type * LARGEST + at] == draft[at] ? at + 1 : NONE;
                }
                if (at != NONE) return type;
            }
            return NONE;
        }

        private void store(int type) {
            sizes[type] = draftSize;
            System.arraycopy(draft, 0, tokens, type * LARGEST, draftSize);
        }
    }

    /** What the parameters stand for, as parts of rows, in several frames that are used side by side. */
    private static final class Bindings {
        private final TypeTable table;
        private final int[] rows;
        private final int[] starts;
        private final int[] ends;

        Bindings(TypeTable table, int frames) {
            int slots = (frames > 0 ? frames : 1) * PARAMETERS;
            this.table = table;
            rows = new int[slots];
            starts = new int[slots];
            ends = new int[slots];
        }

        void empty(int frame) {
            for (int i = 0; i < PARAMETERS; i++) {
                rows[frame * PARAMETERS + i] = NONE;
            }
        }

        void copy(int from, int to) {
            System.arraycopy(rows, from * PARAMETERS, rows, to * PARAMETERS, PARAMETERS);
            System.arraycopy(starts, from * PARAMETERS, starts, to * PARAMETERS, PARAMETERS);
            System.arraycopy(ends, from * PARAMETERS, ends, to * PARAMETERS, PARAMETERS);
        }

        boolean stands(int frame, int parameter) {
            return rows[frame * PARAMETERS + parameter] != NONE;
        }

        int row(int frame, int parameter) {
            return rows[frame * PARAMETERS + parameter];
        }

        int start(int frame, int parameter) {
            return starts[frame * PARAMETERS + parameter];
        }

        int end(int frame, int parameter) {
            return ends[frame * PARAMETERS + parameter];
        }

        /** Lets a parameter stand for what begins at a place; tells where that ends, NONE if it stands otherwise. */
        int stand(int frame, int parameter, int type, int at) {
            int slot = frame * PARAMETERS + parameter;
            int end = table.end(type, at);
            if (rows[slot] == NONE) {
                rows[slot] = type;
                starts[slot] = at;
                ends[slot] = end;
                return end;
            }
            boolean isAsLong = ends[slot] - starts[slot] == end - at;
            return isAsLong && table.isSamePart(type, at, end, rows[slot], starts[slot]) ? end : NONE;
        }

        /**
         * Matches a pattern with what begins at a place of a row, and tells where that ends, NONE if it does not match.
         * A pattern that is none, as the second one of a template with one parameter, ends where it begins.
         */
        int follow(int frame, int pattern, int type, int from) {
            int size = table.size(pattern);
            int at = from;
            for (int i = 0; i < size && at != NONE; i++) {
                int token = table.token(pattern, i);
                if (TypeTable.isParameter(token)) at = stand(frame, token - TypeTable.PARAMETER, type, at);
                else at = table.token(type, at) == token ? at + 1 : NONE;
            }
            return at;
        }

        /** A type with what the parameters stand for; NONE if one stands for nothing, or if it would be too large. */
        int replaced(int frame, int type) {
            int size = table.size(type);
            table.begin();
            for (int i = 0; i < size; i++) {
                int token = table.token(type, i);
                if (TypeTable.isParameter(token)) {
                    int slot = frame * PARAMETERS + token - TypeTable.PARAMETER;
                    if (rows[slot] == NONE) return NONE;
                    table.putPart(rows[slot], starts[slot], ends[slot]);
                } else {
                    table.put(token);
                }
            }
            return table.keptDraft();
        }
    }

    /** The sets of constraints, those of specialisations ahead of those of functions; and what is more special. */
    private static final class Constraints {
        static final int EACH = 4;
        private static final int SETS = Templates.TEMPLATES * Templates.EACH + Functions.FUNCTIONS;

        private final Bindings bindings;
        private final int[] counts = new int[SETS];
        private final int[] parameters = new int[SETS * EACH];
        private final char[] letters = new char[SETS * EACH];
        private final int[] classes = new int[SETS * EACH];

        Constraints(TypeTable table) {
            bindings = new Bindings(table, 1);
        }

        int count(int set) {
            return counts[set];
        }

        int parameterAt(int set, int at) {
            return parameters[set * EACH + at];
        }

        char letterAt(int set, int at) {
            return letters[set * EACH + at];
        }

        int classAt(int set, int at) {
            return classes[set * EACH + at];
        }

        void put(int set, int parameter, char letter, int cls) {
            int place = set * EACH + counts[set];
            parameters[place] = parameter;
            letters[place] = letter;
            // The class of another letter has no meaning, so it must not tell two constraints apart.
            classes[place] = letter == 'd' ? cls : NONE;
            counts[set]++;
        }

        /** Whether one row of patterns is more special than another one. */
        boolean isMoreSpecial(int[] patterns, int own, int other, int length, int ownSet, int otherSet) {
            if (!matchesAll(patterns, other, own, length)) return false;
            if (!matchesAll(patterns, own, other, length)) return true;
            return holdsAllOf(ownSet, otherSet) && !holdsAllOf(otherSet, ownSet);
        }

        private boolean matchesAll(int[] patterns, int matching, int matched, int length) {
            bindings.empty(0);
            for (int i = 0; i < length; i++) {
                if (bindings.follow(0, patterns[matching + i], patterns[matched + i], 0) == NONE) return false;
            }
            return true;
        }

        private boolean holdsAllOf(int set, int other) {
            for (int i = 0; i < counts[other]; i++) {
                if (!has(set, other * EACH + i)) return false;
            }
            return true;
        }

        private boolean has(int set, int place) {
            for (int i = set * EACH; i < set * EACH + counts[set]; i++) {
                boolean isSameLetter = letters[i] == letters[place] && classes[i] == classes[place];
                if (isSameLetter && parameters[i] == parameters[place]) return true;
            }
            return false;
        }
    }

    /** The class templates with their specialisations. */
    private static final class Templates {
        static final int TEMPLATES = 5;
        static final int EACH = 4;
        private static final int ROW = 2;

        private final Constraints constraints;
        private int count;
        private final int[] parameters = new int[TEMPLATES];
        private final int[] specialisations = new int[TEMPLATES];
        private final int[] patterns = new int[TEMPLATES * EACH * ROW];
        private final int[] bases = new int[TEMPLATES * (EACH + 1)];
        private final boolean[] isOver = new boolean[TEMPLATES * EACH * EACH];

        Templates(Constraints constraints) {
            this.constraints = constraints;
        }

        static int place(int template, int specialisation) {
            return template * EACH + specialisation;
        }

        int count() {
            return count;
        }

        int parameters(int template) {
            return parameters[template];
        }

        int specialisations(int template) {
            return specialisations[template];
        }

        int pattern(int template, int specialisation, int at) {
            return patterns[place(template, specialisation) * ROW + at];
        }

        int base(int template, int body) {
            return bases[template * (EACH + 1) + body + 1];
        }

        /** Whether one specialisation is more special than another one. */
        boolean isOver(int template, int own, int other) {
            return isOver[place(template, own) * EACH + other];
        }

        int put(int howMany) {
            parameters[count] = howMany;
            for (int body = Bodies.ITSELF; body < EACH; body++) {
                bases[count * (EACH + 1) + body + 1] = NONE;
            }
            return count++;
        }

        int putSpecialisation(int template, int first, int second) {
            int number = specialisations[template]++;
            int row = place(template, number) * ROW;
            patterns[row] = first;
            patterns[row + 1] = second;
            compareAll(template);
            return number;
        }

        int changeBase(int template, int body, int type) {
            int place = template * (EACH + 1) + body + 1;
            int before = bases[place];
            bases[place] = type;
            return before;
        }

        void compareAll(int template) {
            for (int own = 0; own < specialisations[template]; own++) {
                for (int other = 0; other < specialisations[template]; other++) {
                    int ownPlace = place(template, own);
                    int otherPlace = place(template, other);
                    isOver[ownPlace * EACH + other] = constraints.isMoreSpecial(patterns, ownPlace * ROW,
                            otherPlace * ROW, parameters[template], ownPlace, otherPlace);
                }
            }
        }
    }

    /** The classes with their bases, members and conversions, and what follows from these. */
    private static final class Hierarchy {
        static final int CLASSES = 12;
        static final int EACH = 3;
        static final int TOLD = 2;

        private int count;
        private final int[] namespaces = new int[CLASSES];
        private final int[] baseCounts = new int[CLASSES];
        private final int[] bases = new int[CLASSES * EACH];
        private final boolean[] areVirtual = new boolean[CLASSES * EACH];
        private final int[] memberCounts = new int[CLASSES];
        private final int[] members = new int[CLASSES * EACH];
        private final int[] toldCounts = new int[CLASSES * 2];
        private final int[] told = new int[CLASSES * 2 * TOLD];
        /** For each two classes, the least number of steps to a base, NONE if it is none. */
        private final int[] steps = new int[CLASSES * CLASSES];
        /** For each two classes, the parts to which there is a way without a virtual base. */
        private final int[] innerParts = new int[CLASSES * CLASSES];
        /** The virtual bases of a class in the order in which they are made. */
        private final int[] virtuals = new int[CLASSES * CLASSES];
        private final int[] virtualCounts = new int[CLASSES];
        /** For each two classes, the bodies of one in another one, members counted: as a part, and as a whole. */
        private final long[] partBodies = new long[CLASSES * CLASSES];
        private final long[] wholeBodies = new long[CLASSES * CLASSES];
        /** How many numbers of objects the making of a class takes: as a part, and as a whole. */
        private final long[] partObjects = new long[CLASSES];
        private final long[] wholeObjects = new long[CLASSES];

        int count() {
            return count;
        }

        int namespace(int cls) {
            return namespaces[cls];
        }

        int bases(int cls) {
            return baseCounts[cls];
        }

        int baseAt(int cls, int at) {
            return bases[cls * EACH + at];
        }

        boolean isVirtualAt(int cls, int at) {
            return areVirtual[cls * EACH + at];
        }

        int members(int cls) {
            return memberCounts[cls];
        }

        int memberAt(int cls, int at) {
            return members[cls * EACH + at];
        }

        int virtuals(int cls) {
            return virtualCounts[cls];
        }

        int virtualAt(int cls, int at) {
            return virtuals[cls * CLASSES + at];
        }

        int steps(int cls, int base) {
            return steps[cls * CLASSES + base];
        }

        boolean isBase(int base, int cls) {
            return steps(cls, base) > 0;
        }

        long partBodies(int cls, int of) {
            return partBodies[cls * CLASSES + of];
        }

        long wholeBodies(int cls, int of) {
            return wholeBodies[cls * CLASSES + of];
        }

        long partObjects(int cls) {
            return partObjects[cls];
        }

        long wholeObjects(int cls) {
            return wholeObjects[cls];
        }

        int put(int namespace) {
            namespaces[count] = namespace;
            count++;
            workOut();
            return count - 1;
        }

        boolean hasOwnBase(int cls, int base) {
            for (int i = 0; i < baseCounts[cls]; i++) {
                if (baseAt(cls, i) == base) return true;
            }
            return false;
        }

        int putBase(int cls, int base, boolean isVirtual) {
            int place = cls * EACH + baseCounts[cls];
            bases[place] = base;
            areVirtual[place] = isVirtual;
            baseCounts[cls]++;
            workOut();
            return baseCounts[cls];
        }

        int putMember(int cls, int member) {
            members[cls * EACH + memberCounts[cls]] = member;
            memberCounts[cls]++;
            workOut();
            return memberCounts[cls];
        }

        int conversions(int cls, boolean isFrom) {
            return toldCounts[cls * 2 + (isFrom ? 1 : 0)];
        }

        int conversionAt(int cls, boolean isFrom, int at) {
            return told[(cls * 2 + (isFrom ? 1 : 0)) * TOLD + at];
        }

        boolean hasConversion(int cls, int type, boolean isFrom) {
            for (int i = 0; i < conversions(cls, isFrom); i++) {
                if (conversionAt(cls, isFrom, i) == type) return true;
            }
            return false;
        }

        int putConversion(int cls, int type, boolean isFrom) {
            int side = cls * 2 + (isFrom ? 1 : 0);
            told[side * TOLD + toldCounts[side]] = type;
            return ++toldCounts[side];
        }

        /** How many parts of a base a class has as a whole object. */
        int parts(int cls, int base) {
            int sum = innerParts[cls * CLASSES + base];
            for (int i = 0; i < virtualCounts[cls]; i++) {
                sum += innerParts[virtualAt(cls, i) * CLASSES + base];
            }
            return sum;
        }

        long allParts(int cls) {
            long sum = 0;
            for (int base = 0; base < count; base++) {
                sum += parts(cls, base);
            }
            return sum;
        }

        /** Bases and members have lower numbers, so that what they need is worked out ahead of what needs them. */
        private void workOut() {
            for (int cls = 0; cls < count; cls++) {
                begin(cls);
                for (int i = 0; i < baseCounts[cls]; i++) {
                    takeBase(cls, baseAt(cls, i), isVirtualAt(cls, i));
                }
                for (int i = 0; i < memberCounts[cls]; i++) {
                    takeMember(cls, memberAt(cls, i));
                }
                finish(cls);
            }
        }

        private void begin(int cls) {
            for (int other = 0; other < CLASSES; other++) {
                boolean isItself = other == cls;
                steps[cls * CLASSES + other] = isItself ? 0 : NONE;
                innerParts[cls * CLASSES + other] = isItself ? 1 : 0;
                partBodies[cls * CLASSES + other] = isItself ? 1 : 0;
            }
            virtualCounts[cls] = 0;
            partObjects[cls] = 0;
        }

        private void takeBase(int cls, int base, boolean isVirtual) {
            for (int other = 0; other <= base; other++) {
                int beyond = steps(base, other);
                int known = steps(cls, other);
                if (beyond != NONE && (known == NONE || known > beyond + 1)) steps[cls * CLASSES + other] = beyond + 1;
                if (!isVirtual) {
                    innerParts[cls * CLASSES + other] += innerParts[base * CLASSES + other];
                    partBodies[cls * CLASSES + other] += partBodies(base, other);
                }
            }
            if (!isVirtual) partObjects[cls] += partObjects[base];
            for (int i = 0; i < virtualCounts[base]; i++) {
                putVirtual(cls, virtualAt(base, i));
            }
            if (isVirtual) putVirtual(cls, base);
        }

        private void putVirtual(int cls, int base) {
            for (int i = 0; i < virtualCounts[cls]; i++) {
                if (virtualAt(cls, i) == base) return;
            }
            virtuals[cls * CLASSES + virtualCounts[cls]] = base;
            virtualCounts[cls]++;
        }

        private void takeMember(int cls, int member) {
            for (int other = 0; other <= member; other++) {
                partBodies[cls * CLASSES + other] += wholeBodies(member, other);
            }
            partObjects[cls] += wholeObjects[member];
        }

        private void finish(int cls) {
            wholeObjects[cls] = 1 + partObjects[cls];
            for (int other = 0; other < CLASSES; other++) {
                wholeBodies[cls * CLASSES + other] = partBodies(cls, other);
            }
            for (int i = 0; i < virtualCounts[cls]; i++) {
                int base = virtualAt(cls, i);
                wholeObjects[cls] += partObjects[base];
                for (int other = 0; other <= base; other++) {
                    wholeBodies[cls * CLASSES + other] += partBodies(base, other);
                }
            }
        }
    }

    /**
     * Which body and base an instance has. This may ask what another instance leads to, for a constraint, and so on;
     * what was found is kept until the call ends. The document does not tell what holds when an instance is asked for
     * while its own body is looked for: it is taken as not sure then.
     */
    private static final class Bodies {
        static final int ITSELF = -1;
        static final int UNSURE = -2;
        private static final int STEPS = 6;
        private static final int DEEPEST = 40;

        private final TypeTable table;
        private final Hierarchy hierarchy;
        private final Constraints constraints;
        private final Templates templates;
        private final Bindings bindings;
        private final int[] found = new int[TypeTable.ROOM];
        /** The search in which the body of an instance was found last. */
        private final int[] searches = new int[TypeTable.ROOM];
        private int search;

        Bodies(TypeTable table, Hierarchy hierarchy, Constraints constraints, Templates templates) {
            this.table = table;
            this.hierarchy = hierarchy;
            this.constraints = constraints;
            this.templates = templates;
            bindings = new Bindings(table, DEEPEST);
        }

        void startAnew() {
            search++;
            table.forgetPassing();
        }

        /** The base of an instance, NONE if it has none. */
        private int baseAt(int type, int depth) {
            int body = bodyAt(type, depth);
            if (body == UNSURE || depth >= DEEPEST) return NONE;
            int template = TypeTable.templateOf(table.head(type));
            int told = templates.base(template, body);
            if (told == NONE) return NONE;
            bindings.empty(depth);
            if (body == ITSELF) {
                int at = bindings.stand(depth, 0, type, 1);
                if (templates.parameters(template) == 2) bindings.stand(depth, 1, type, at);
            } else {
                int at = bindings.follow(depth, templates.pattern(template, body, 0), type, 1);
                bindings.follow(depth, templates.pattern(template, body, 1), type, at);
            }
            return bindings.replaced(depth, told);
        }

        private int bodyAt(int type, int depth) {
            if (searches[type] == search) return found[type];
            if (depth >= DEEPEST) return UNSURE;
            searches[type] = search;
            found[type] = UNSURE;
            int template = TypeTable.templateOf(table.head(type));
            int fitting = 0;
            for (int i = 0; i < templates.specialisations(template); i++) {
                if (fits(type, template, i, depth)) fitting |= 1 << i;
            }
            found[type] = fitting == 0 ? ITSELF : mostSpecial(template, fitting);
            return found[type];
        }

        private int mostSpecial(int template, int fitting) {
            for (int own = 0; own < Templates.EACH; own++) {
                boolean isFirst = (fitting >> own & 1) == 1;
                for (int other = 0; other < Templates.EACH && isFirst; other++) {
                    boolean isRival = other != own && (fitting >> other & 1) == 1;
                    if (isRival && !templates.isOver(template, own, other)) isFirst = false;
                }
                if (isFirst) return own;
            }
            return UNSURE;
        }

        private boolean fits(int type, int template, int specialisation, int depth) {
            bindings.empty(depth);
            int at = bindings.follow(depth, templates.pattern(template, specialisation, 0), type, 1);
            int end = bindings.follow(depth, templates.pattern(template, specialisation, 1), type, at);
            return end != NONE && areMet(bindings, depth, Templates.place(template, specialisation), depth);
        }

        /** Whether the constraints of a set hold for what the parameters stand for. */
        private boolean areMet(Bindings standing, int frame, int set, int depth) {
            for (int i = 0; i < constraints.count(set); i++) {
                int parameter = constraints.parameterAt(set, i);
                if (!standing.stands(frame, parameter)) return false;
                int row = standing.row(frame, parameter);
                int start = standing.start(frame, parameter);
                char letter = constraints.letterAt(set, i);
                if (letter == 'd') {
                    int type = table.part(row, start, standing.end(frame, parameter));
                    int target = table.ofClass(constraints.classAt(set, i));
                    if (stepsAt(type, target, depth + 1) < 0) return false;
                } else if (!isOfKind(table.token(row, start), letter)) {
                    return false;
                }
            }
            return true;
        }

        private static boolean isOfKind(int head, char letter) {
            if (letter == 'p') return head == TypeTable.POINTER;
            if (letter == 'b') return TypeTable.isBasic(head);
            return TypeTable.isClass(head) || TypeTable.isInstance(head);
        }

        /** The steps from a type to a base, 0 to itself; NONE if it is no base, SEVERAL if there are several parts. */
        private int stepsAt(int type, int target, int depth) {
            if (type == NONE || target == NONE) return NONE;
            int at = type;
            for (int step = 0; step <= STEPS; step++) {
                if (at == target) return step;
                int head = table.head(at);
                if (TypeTable.isClass(head)) return classSteps(head, table.head(target), step);
                if (!TypeTable.isInstance(head) || step == STEPS) return NONE;
                at = baseAt(at, depth);
                if (at == NONE) return NONE;
            }
            return NONE;
        }

        /** The same from a class that was come to by some steps. */
        private int classSteps(int head, int target, int before) {
            if (!TypeTable.isClass(target)) return NONE;
            int cls = head - TypeTable.CLASS;
            int base = target - TypeTable.CLASS;
            int steps = hierarchy.steps(cls, base);
            if (steps == NONE) return NONE;
            if (before == 0) return hierarchy.parts(cls, base) > 1 ? SEVERAL : steps;
            return before + steps <= STEPS ? before + steps : NONE;
        }
    }

    /** The namespaces and the functions in them. */
    private static final class Functions {
        static final int NAMESPACES = 6;
        static final int FUNCTIONS = 24;
        static final int EACH = 3;

        private final TypeTable table;
        private int namespaces = 1;
        private final int[] outers = new int[NAMESPACES];
        private int count;
        private final int[] places = new int[FUNCTIONS];
        private final int[] names = new int[FUNCTIONS];
        private final boolean[] areDeleted = new boolean[FUNCTIONS];
        private final int[] counts = new int[FUNCTIONS];
        private final char[] modes = new char[FUNCTIONS * EACH];
        private final int[] told = new int[FUNCTIONS * EACH];

        Functions(TypeTable table) {
            this.table = table;
            outers[0] = NONE;
        }

        static int constraintSet(int function) {
            return Templates.TEMPLATES * Templates.EACH + function;
        }

        int namespaces() {
            return namespaces;
        }

        /** The namespace in which one is, NONE for the first one. */
        int outer(int namespace) {
            return outers[namespace];
        }

        int putNamespace(int outer) {
            outers[namespaces] = outer;
            return namespaces++;
        }

        int count() {
            return count;
        }

        int put(int namespace, int name, boolean isDeleted) {
            places[count] = namespace;
            names[count] = name;
            areDeleted[count] = isDeleted;
            return count++;
        }

        int putParameter(int function, char mode, int type) {
            int place = function * EACH + counts[function];
            modes[place] = mode;
            told[place] = type;
            return ++counts[function];
        }

        boolean isNamed(int function, int namespace, int name) {
            return places[function] == namespace && names[function] == name;
        }

        boolean isDeleted(int function) {
            return areDeleted[function];
        }

        int parameters(int function) {
            return counts[function];
        }

        char mode(int function, int at) {
            return modes[function * EACH + at];
        }

        int told(int function, int at) {
            return told[function * EACH + at];
        }

        /** All types as told, three places a function. */
        int[] allTold() {
            return told;
        }

        boolean isOfTemplate(int function) {
            for (int i = 0; i < counts[function]; i++) {
                if (table.isOpen(told(function, i))) return true;
            }
            return false;
        }
    }

    /** The arguments of a call, and how they come to the parameters of a function. */
    private static final class Call {
        /** The frames of bindings: what is deduced, what is tried, what a base gave. */
        private static final int DEDUCED = 0;
        private static final int TRIED = 1;
        private static final int OF_BASE = 2;

        private static final int RANK = 1000;
        private static final int TO_TRUTH = 99;

        private final TypeTable table;
        private final Hierarchy hierarchy;
        private final Bodies bodies;
        private final Functions functions;
        private final Bindings bindings;
        private int count;
        private final int[] arguments = new int[Functions.EACH];
        private final char[] categories = new char[Functions.EACH];
        /** The types of the parameters of the function that was looked at last. */
        private final int[] taken = new int[Functions.EACH];
        private final int[] ways = new int[Functions.FUNCTIONS * Functions.EACH];
        private final boolean[] areSure = new boolean[Functions.FUNCTIONS * Functions.EACH];
        private final int[] line = new int[Bodies.STEPS];

        Call(TypeTable table, Hierarchy hierarchy, Bodies bodies, Functions functions) {
            this.table = table;
            this.hierarchy = hierarchy;
            this.bodies = bodies;
            this.functions = functions;
            bindings = new Bindings(table, OF_BASE + 1);
            bindings.empty(DEDUCED);
        }

        int count() {
            return count;
        }

        int argument(int at) {
            return arguments[at];
        }

        int put(int type, char category) {
            arguments[count] = type;
            categories[count] = category;
            return ++count;
        }

        int clear() {
            int before = count;
            count = 0;
            return before;
        }

        /** 1000 times the rank and the grade. */
        int wayOf(int function, int argument) {
            return ways[function * Functions.EACH + argument];
        }

        boolean isSure(int function, int argument) {
            return areSure[function * Functions.EACH + argument];
        }

        boolean standsFor(int parameter) {
            return bindings.stands(DEDUCED, parameter);
        }

        int bound(int parameter) {
            int start = bindings.start(DEDUCED, parameter);
            return table.part(bindings.row(DEDUCED, parameter), start, bindings.end(DEDUCED, parameter));
        }

        /** Finds how the arguments come to the parameters of a function, and tells whether it is viable. */
        boolean settles(int function) {
            bodies.startAnew();
            bindings.empty(DEDUCED);
            if (functions.parameters(function) != count) return false;
            for (int i = 0; i < count; i++) {
                int told = functions.told(function, i);
                taken[i] = table.isOpen(told) ? matched(told, arguments[i]) : told;
                if (taken[i] == NONE) return false;
            }
            if (!bodies.areMet(bindings, DEDUCED, Functions.constraintSet(function), 0)) return false;
            for (int i = 0; i < count; i++) {
                int way = directWay(function, i);
                int conversions = 1;
                boolean isMadeFor = way == NONE && functions.mode(function, i) != 'r';
                if (isMadeFor) way = valueWay(arguments[i], taken[i]);
                if (isMadeFor && way == NONE) {
                    conversions = conversions(arguments[i], taken[i]);
                    if (conversions > 0) way = 3 * RANK;
                }
                if (way == NONE) return false;
                ways[function * Functions.EACH + i] = way;
                areSure[function * Functions.EACH + i] = conversions == 1;
            }
            return true;
        }

        /** The type that a pattern takes: that of the argument, or the only one of its bases that matches. */
        private int matched(int pattern, int type) {
            if (tries(pattern, type)) {
                bindings.copy(TRIED, DEDUCED);
                return type;
            }
            if (!TypeTable.isInstance(table.head(pattern))) return NONE;
            int only = NONE;
            int base = type;
            for (int step = 0; step < Bodies.STEPS && TypeTable.isInstance(table.head(base)); step++) {
                base = bodies.baseAt(base, 0);
                if (base == NONE || isInLine(base, step)) break;
                line[step] = base;
                if (tries(pattern, base)) {
                    if (only != NONE) return NONE;
                    only = base;
                    bindings.copy(TRIED, OF_BASE);
                }
            }
            if (only != NONE) bindings.copy(OF_BASE, DEDUCED);
            return only;
        }

        private boolean isInLine(int base, int length) {
            for (int i = 0; i < length; i++) {
                if (line[i] == base) return true;
            }
            return false;
        }

        private boolean tries(int pattern, int type) {
            bindings.copy(DEDUCED, TRIED);
            return bindings.follow(TRIED, pattern, type, 0) != NONE;
        }

        /** How an argument comes without a value that is made for it. */
        private int directWay(int function, int at) {
            char category = categories[at];
            char mode = functions.mode(function, at);
            boolean isGoing = category == 'r';
            if (mode == 'r' && category != 'l') return NONE;
            boolean isAlone = TypeTable.isParameter(table.head(functions.told(function, at)));
            if (mode == 'm' && !isGoing && !isAlone) return NONE;
            int steps = bodies.stepsAt(arguments[at], taken[at], 0);
            if (steps < 0) return NONE;
            boolean isWorse = mode == 'm' ? !isGoing : mode != 'r' && category != 'k';
            return (steps == 0 ? 0 : 2 * RANK + 2 * steps) + (isWorse ? 1 : 0);
        }

        /** How a type comes to another one by a value that is made, but for the conversions of classes. */
        private int valueWay(int from, int to) {
            int head = table.head(from);
            int target = table.head(to);
            if (TypeTable.isBasic(head)) {
                if (!TypeTable.isBasic(target) || head == target) return NONE;
                boolean isGrowing = head == TypeTable.TRUTH || head == TypeTable.LETTER;
                return isGrowing && target == TypeTable.WHOLE ? RANK : 2 * RANK;
            }
            if (head != TypeTable.POINTER) return NONE;
            if (target == TypeTable.TRUTH) return 2 * RANK + TO_TRUTH;
            if (target != TypeTable.POINTER) return NONE;
            int pointed = table.part(from, 1, table.size(from));
            int wanted = table.part(to, 1, table.size(to));
            int steps = bodies.stepsAt(pointed, wanted, 0);
            return steps > 0 ? 2 * RANK + 2 * steps : NONE;
        }

        /** The number of ways by a conversion of a class. */
        private int conversions(int from, int to) {
            int head = table.head(from);
            int target = table.head(to);
            int ways = 0;
            if (TypeTable.isClass(target)) {
                int cls = target - TypeTable.CLASS;
                for (int i = 0; i < hierarchy.conversions(cls, true); i++) {
                    int told = hierarchy.conversionAt(cls, true, i);
                    if (told == from || valueWay(from, told) != NONE) ways++;
                }
            }
            if (TypeTable.isClass(head)) {
                int cls = head - TypeTable.CLASS;
                for (int i = 0; i < hierarchy.conversions(cls, false); i++) {
                    int told = hierarchy.conversionAt(cls, false, i);
                    if (told == to || valueWay(told, to) != NONE) ways++;
                }
            }
            return ways;
        }
    }

    /** The candidates of a call, and which of them is chosen. */
    private static final class Choice {
        private static final int NO_VIABLE = -1;
        private static final int NO_BEST = -2;
        private static final int DELETED = -3;
        private static final int NOT_SURE = -4;

        private final TypeTable table;
        private final Hierarchy hierarchy;
        private final Constraints constraints;
        private final Bodies bodies;
        private final Functions functions;
        private final Call call;
        private final boolean[] areIn = new boolean[Functions.FUNCTIONS];
        private final int[] queue = new int[TypeTable.ROOM];
        private int queueLength;

        Choice(TypeTable table, Hierarchy hierarchy, Constraints constraints, Bodies bodies, Functions functions,
                Call call) {
            this.table = table;
            this.hierarchy = hierarchy;
            this.constraints = constraints;
            this.bodies = bodies;
            this.functions = functions;
            this.call = call;
        }

        int count() {
            int sum = 0;
            for (int i = 0; i < functions.count(); i++) {
                if (areIn[i]) sum++;
            }
            return sum;
        }

        /** Finds the candidates of the call of a name. */
        void gather(int namespace, int name) {
            bodies.startAnew();
            for (int i = 0; i < Functions.FUNCTIONS; i++) {
                areIn[i] = false;
            }
            int at = namespace;
            for (int i = 0; i < Functions.NAMESPACES && at != NONE; i++) {
                at = takeFrom(at, name) ? NONE : functions.outer(at);
            }
            gatherByArguments(name);
        }

        private boolean takeFrom(int namespace, int name) {
            boolean hasSome = false;
            for (int i = 0; i < functions.count(); i++) {
                if (functions.isNamed(i, namespace, name)) {
                    areIn[i] = true;
                    hasSome = true;
                }
            }
            return hasSome;
        }

        /** Goes through the types of the arguments, and through those that are bases of instances in them. */
        private void gatherByArguments(int name) {
            queueLength = 0;
            for (int i = 0; i < call.count(); i++) {
                enqueue(call.argument(i));
            }
            for (int done = 0; done < queueLength; done++) {
                int type = queue[done];
                int size = table.size(type);
                for (int i = 0; i < size; i++) {
                    int token = table.token(type, i);
                    if (TypeTable.isClass(token)) takeFromClass(token - TypeTable.CLASS, name);
                    if (!TypeTable.isInstance(token)) continue;
                    int instance = table.part(type, i, table.end(type, i));
                    if (instance != NONE) enqueue(bodies.baseAt(instance, 0));
                }
            }
        }

        private void enqueue(int type) {
            for (int i = 0; i < queueLength; i++) {
                if (queue[i] == type) return;
            }
            if (type != NONE && queueLength < TypeTable.ROOM) queue[queueLength++] = type;
        }

        private void takeFromClass(int cls, int name) {
            for (int base = 0; base <= cls; base++) {
                if (hierarchy.steps(cls, base) != NONE) takeFrom(hierarchy.namespace(base), name);
            }
        }

        boolean has(int function) {
            return areIn[function];
        }

        void drop(int function) {
            areIn[function] = false;
        }

        /** The best one by a walk for it and a walk against it. */
        int bestByWalks() {
            int best = NO_VIABLE;
            for (int i = 0; i < functions.count(); i++) {
                if (areIn[i] && (best == NO_VIABLE || isBetter(i, best))) best = i;
            }
            for (int i = 0; i < functions.count() && best >= 0; i++) {
                if (areIn[i] && i != best && !isBetter(best, i)) best = NO_BEST;
            }
            return best;
        }

        /** The best one by comparing each two. */
        int bestByPairs() {
            int answer = NO_VIABLE;
            for (int own = 0; own < functions.count(); own++) {
                if (!areIn[own]) continue;
                boolean isBest = true;
                for (int other = 0; other < functions.count(); other++) {
                    if (areIn[other] && other != own && !isBetter(own, other)) isBest = false;
                }
                if (isBest) return own;
                answer = NO_BEST;
            }
            return answer;
        }

        int answer(int best) {
            if (best < 0) return best;
            if (functions.isDeleted(best)) return DELETED;
            for (int i = 0; i < call.count(); i++) {
                if (!call.isSure(best, i)) return NOT_SURE;
            }
            return best;
        }

        private boolean isBetter(int own, int other) {
            boolean isAlike = true;
            for (int i = 0; i < call.count(); i++) {
                int difference = call.wayOf(own, i) - call.wayOf(other, i);
                if (difference > 0) return false;
                if (difference < 0) isAlike = false;
            }
            if (!isAlike) return true;
            boolean isOwnTemplate = functions.isOfTemplate(own);
            boolean isOtherTemplate = functions.isOfTemplate(other);
            if (!isOwnTemplate || !isOtherTemplate) return !isOwnTemplate && isOtherTemplate;
            return constraints.isMoreSpecial(functions.allTold(), own * Functions.EACH, other * Functions.EACH,
                    call.count(), Functions.constraintSet(own), Functions.constraintSet(other));
        }
    }

    /** The methods that classes override, and what their bodies do. */
    private static final class Methods {
        private final Hierarchy hierarchy;
        private final boolean[] doOverride = new boolean[Hierarchy.CLASSES * METHODS];
        private final int[] spoken = new int[Hierarchy.CLASSES];
        private final boolean[] doDelegate = new boolean[Hierarchy.CLASSES];
        private final int[] owners = new int[Hierarchy.CLASSES * METHODS];

        Methods(Hierarchy hierarchy) {
            this.hierarchy = hierarchy;
            for (int i = 0; i < Hierarchy.CLASSES; i++) {
                spoken[i] = NONE;
            }
            for (int i = 0; i < Hierarchy.CLASSES * METHODS; i++) {
                owners[i] = NONE;
            }
        }

        boolean change(int cls, int method, boolean does) {
            boolean before = doOverride[cls * METHODS + method];
            doOverride[cls * METHODS + method] = does;
            findOwners();
            return before;
        }

        int changeBody(int cls, int method, boolean delegates) {
            int before = spoken[cls];
            spoken[cls] = method;
            doDelegate[cls] = delegates;
            return before;
        }

        int spokenBy(int cls) {
            return spoken[cls];
        }

        boolean delegates(int cls) {
            return doDelegate[cls];
        }

        /** The class whose method it is for a class, NONE or SEVERAL. */
        int ownerOf(int cls, int method) {
            return owners[cls * METHODS + method];
        }

        /** To be called whenever a class gets a base, too. */
        void findOwners() {
            for (int cls = 0; cls < hierarchy.count(); cls++) {
                for (int method = 0; method < METHODS; method++) {
                    owners[cls * METHODS + method] = foundOwner(cls, method);
                }
            }
        }

        private int foundOwner(int cls, int method) {
            if (doOverride[cls * METHODS + method]) return cls;
            int owner = NONE;
            for (int base = 0; base < cls; base++) {
                boolean isOne = hierarchy.isBase(base, cls) && doOverride[base * METHODS + method];
                if (isOne && !isBehindAnother(base, cls, method)) {
                    if (owner != NONE) return SEVERAL;
                    owner = base;
                }
            }
            return owner;
        }

        private boolean isBehindAnother(int base, int cls, int method) {
            for (int other = base + 1; other < cls; other++) {
                boolean isOne = hierarchy.isBase(other, cls) && doOverride[other * METHODS + method];
                if (isOne && hierarchy.isBase(base, other)) return true;
            }
            return false;
        }
    }

    /** The objects and blocks, and the trace of what is made and taken down. */
    private static final class Making {
        static final int TIMES = 99;
        static final int BLOCKS = 10;
        static final int ARRAY = 5;
        static final int LIVING = 40;
        private static final int TRACE = 600;
        private static final int TEMPORARY = -1;

        private final Hierarchy hierarchy;
        private final Methods methods;
        /** How many times a class is made until it throws, 0 if it does not. */
        private final int[] times = new int[Hierarchy.CLASSES];
        private final boolean[] areTries = new boolean[BLOCKS];
        private int blocks = 1;
        private int living;
        private final int[] livingClasses = new int[LIVING];
        private final long[] livingNumbers = new long[LIVING];
        private final int[] livingBlocks = new int[LIVING];
        private int traced;
        private final char[] kinds = new char[TRACE];
        private final int[] classes = new int[TRACE];
        private final int[] objects = new int[TRACE];
        private long next;
        private long madeParts;
        private long takenParts;

        Making(Hierarchy hierarchy, Methods methods) {
            this.hierarchy = hierarchy;
            this.methods = methods;
        }

        boolean hasBegun() {
            return next > 0;
        }

        int blocks() {
            return blocks;
        }

        int livingCount() {
            return living;
        }

        int traced() {
            return traced;
        }

        char kindAt(int index) {
            return kinds[index];
        }

        int classAt(int index) {
            return classes[index];
        }

        int objectAt(int index) {
            return objects[index];
        }

        long madeParts() {
            return madeParts;
        }

        long takenParts() {
            return takenParts;
        }

        int changeTimes(int cls, int howMany) {
            int before = times[cls];
            times[cls] = howMany;
            return before;
        }

        int openBlock(boolean isTry) {
            areTries[blocks] = isTry;
            return ++blocks;
        }

        int closeBlock() {
            takeTemporaries();
            blocks--;
            takeDownFrom(blocks);
            return blocks;
        }

        char makeObjects(int cls, boolean isTemporary, int count) {
            int before = living;
            for (int i = 0; i < count; i++) {
                long number = next;
                if (!makeWhole(cls)) {
                    takeDownArray(before);
                    return unwind();
                }
                livingClasses[living] = cls;
                livingNumbers[living] = number;
                livingBlocks[living] = isTemporary ? TEMPORARY : blocks - 1;
                living++;
            }
            return 'm';
        }

        int takeTemporaries() {
            int taken = 0;
            for (int i = living - 1; i >= 0; i--) {
                if (livingBlocks[i] == TEMPORARY) {
                    takeWhole(livingClasses[i], livingNumbers[i]);
                    closeGap(i);
                    taken++;
                }
            }
            return taken;
        }

        /** Takes down what a throw leaves behind, and tells whether a try caught it. */
        char unwind() {
            takeTemporaries();
            while (blocks > 1) {
                blocks--;
                takeDownFrom(blocks);
                if (areTries[blocks]) return 'c';
            }
            takeDownFrom(0);
            return 'u';
        }

        /** Takes down the objects of a block and of those in it; there are no temporaries among them. */
        private void takeDownFrom(int block) {
            while (living > 0 && livingBlocks[living - 1] >= block) {
                living--;
                takeWhole(livingClasses[living], livingNumbers[living]);
            }
        }

        private void takeDownArray(int before) {
            while (living > before) {
                living--;
                takeWhole(livingClasses[living], livingNumbers[living]);
            }
        }

        private void closeGap(int at) {
            living--;
            for (int i = at; i < living; i++) {
                livingClasses[i] = livingClasses[i + 1];
                livingNumbers[i] = livingNumbers[i + 1];
                livingBlocks[i] = livingBlocks[i + 1];
            }
        }

        private boolean makeWhole(int cls) {
            if (isQuiet(cls, true)) return makeQuietly(cls, true);
            long number = next++;
            int virtuals = hierarchy.virtuals(cls);
            for (int i = 0; i < virtuals; i++) {
                long before = next;
                if (!makePart(hierarchy.virtualAt(cls, i), number)) {
                    takeVirtuals(cls, number, before, i);
                    return false;
                }
            }
            long before = next;
            if (makePart(cls, number)) return true;
            takeVirtuals(cls, number, before, virtuals);
            return false;
        }

        private boolean makePart(int cls, long number) {
            if (isQuiet(cls, false)) return makeQuietly(cls, false);
            int bases = hierarchy.bases(cls);
            for (int i = 0; i < bases; i++) {
                long before = next;
                if (!hierarchy.isVirtualAt(cls, i) && !makePart(hierarchy.baseAt(cls, i), number)) {
                    takeInner(cls, number, before, 0, i);
                    return false;
                }
            }
            int members = hierarchy.members(cls);
            for (int i = 0; i < members; i++) {
                long before = next;
                if (!makeWhole(hierarchy.memberAt(cls, i))) {
                    takeInner(cls, number, before, i, bases);
                    return false;
                }
            }
            if (makeBody(cls, number)) return true;
            takeInner(cls, number, next, members, bases);
            return false;
        }

        private boolean makeBody(int cls, long number) {
            boolean isThrowing = times[cls] == 1;
            if (times[cls] > 0) times[cls]--;
            boolean delegates = methods.delegates(cls);
            if (isThrowing && !delegates) {
                note('X', cls, number);
                return false;
            }
            note('C', cls, number);
            speak(cls, number);
            madeParts++;
            if (delegates) note(isThrowing ? 'X' : 'G', cls, number);
            if (isThrowing) takeBody(cls, number);
            return !isThrowing;
        }

        private void takeBody(int cls, long number) {
            speak(cls, number);
            note('D', cls, number);
            takenParts++;
        }

        private void takeWhole(int cls, long number) {
            long end = number + hierarchy.wholeObjects(cls);
            takePart(cls, number, end);
            takeVirtuals(cls, number, end - hierarchy.partObjects(cls), hierarchy.virtuals(cls));
        }

        /** Takes down the first so many virtual bases; the members in them have the numbers ahead of the end. */
        private void takeVirtuals(int cls, long number, long end, int count) {
            long left = end;
            for (int i = count - 1; i >= 0; i--) {
                int base = hierarchy.virtualAt(cls, i);
                takePart(base, number, left);
                left -= hierarchy.partObjects(base);
            }
        }

        private void takePart(int cls, long number, long end) {
            if (traced >= TRACE) {
                for (int i = 0; i <= cls; i++) {
                    takenParts += hierarchy.partBodies(cls, i);
                }
                return;
            }
            takeBody(cls, number);
            takeInner(cls, number, end, hierarchy.members(cls), hierarchy.bases(cls));
        }

        /** Takes down the first so many members, and the first so many own bases. */
        private void takeInner(int cls, long number, long end, int members, int bases) {
            long left = end;
            for (int i = members - 1; i >= 0; i--) {
                int member = hierarchy.memberAt(cls, i);
                left -= hierarchy.wholeObjects(member);
                takeWhole(member, left);
            }
            for (int i = bases - 1; i >= 0; i--) {
                if (hierarchy.isVirtualAt(cls, i)) continue;
                int base = hierarchy.baseAt(cls, i);
                takePart(base, number, left);
                left -= hierarchy.partObjects(base);
            }
        }

        /** Whether nothing of a making is traced, and none of it throws: as it may be very long, it is only counted. */
        private boolean isQuiet(int cls, boolean isWhole) {
            if (traced < TRACE) return false;
            for (int i = 0; i <= cls; i++) {
                if (times[i] > 0 && bodiesOf(i, cls, isWhole) >= times[i]) return false;
            }
            return true;
        }

        private boolean makeQuietly(int cls, boolean isWhole) {
            for (int i = 0; i <= cls; i++) {
                long bodies = bodiesOf(i, cls, isWhole);
                madeParts += bodies;
                if (times[i] > 0) times[i] -= (int) bodies;
            }
            next += isWhole ? hierarchy.wholeObjects(cls) : hierarchy.partObjects(cls);
            return true;
        }

        private long bodiesOf(int which, int cls, boolean isWhole) {
            return isWhole ? hierarchy.wholeBodies(cls, which) : hierarchy.partBodies(cls, which);
        }

        private void speak(int cls, long number) {
            int method = methods.spokenBy(cls);
            if (method != NONE) note('V', methods.ownerOf(cls, method), number);
        }

        private void note(char kind, int cls, long number) {
            if (traced >= TRACE) return;
            kinds[traced] = kind;
            classes[traced] = cls;
            objects[traced] = (int) number;
            traced++;
        }
    }
}
