import java.util.Arrays;
import java.util.NoSuchElementException;

/** A language of templates and objects; the document that it keeps to is ../shared/DOC.md. */
public final class Overloadery {
    private static final int NONE = -1;
    private static final int SEVERAL = -2;
    private static final int NAMES = 6;
    private static final int METHODS = 4;
    private static final int PARAMETERS = 3;

    private final TypeTable table;
    private final Hierarchy hierarchy;
    private final Templates templates;
    private final Bodies bodies;
    private final Functions functions;
    private final Call call;
    private final Choice choice;
    private final Making making;

    public Overloadery() {
        TypeTable newTable = new TypeTable();
        Hierarchy newHierarchy = new Hierarchy();
        Templates newTemplates = new Templates(newTable, newHierarchy);
        Bodies newBodies = new Bodies(newTable, newHierarchy, newTemplates);
        Functions newFunctions = new Functions(newTable);
        Call newCall = new Call(newTable, newHierarchy, newBodies, newFunctions);
        table = newTable;
        hierarchy = newHierarchy;
        templates = newTemplates;
        bodies = newBodies;
        functions = newFunctions;
        call = newCall;
        choice = new Choice(newTable, newHierarchy, newTemplates, newBodies, newFunctions, newCall);
        making = new Making(newHierarchy);
    }

    // ---- types

    public int pointerTo(int type) throws IndexOutOfBoundsException, IllegalStateException {
        needType(type);
        return numberFor(TypeTable.POINTER, table.place(type), NONE);
    }

    public int classType(int cls) throws IndexOutOfBoundsException, IllegalStateException {
        needClass(cls);
        return numberFor(TypeTable.CLASS + cls, NONE, NONE);
    }

    public int parameter(int parameter) throws IllegalArgumentException, IllegalStateException {
        if (!isParameter(parameter)) throw new IllegalArgumentException();
        return numberFor(TypeTable.PARAMETER + parameter, NONE, NONE);
    }

    public int instance(int template, int first, int second)
            throws IndexOutOfBoundsException, IllegalArgumentException, IllegalStateException {
        needRow(template, first, second);
        boolean isSingle = templates.parameters(template) == 1;
        int head = (isSingle ? TypeTable.SINGLE : TypeTable.TWOFOLD) + template;
        return numberFor(head, table.place(first), table.place(second));
    }

    public char kindOf(int type) throws IndexOutOfBoundsException {
        needType(type);
        int head = table.token(type, 0);
        if (head == TypeTable.POINTER) return 'p';
        if (TypeTable.isClass(head)) return 'c';
        if (TypeTable.isParameter(head)) return 't';
        return TypeTable.isInstance(head) ? 'i' : 'b';
    }

    public int types() {
        return table.numbered();
    }

    public int baseOf(int type)
            throws IndexOutOfBoundsException, IllegalArgumentException, NoSuchElementException, IllegalStateException {
        needClosedInstance(type);
        bodies.startAnew();
        bodies.find(table.place(type));
        int base = bodies.base(table.place(type));
        if (base == NONE) throw new NoSuchElementException();
        return needRoom(table.number(base));
    }

    public int chosenFor(int type) throws IndexOutOfBoundsException, IllegalArgumentException {
        needClosedInstance(type);
        bodies.startAnew();
        bodies.find(table.place(type));
        return bodies.body(table.place(type));
    }

    // ---- namespaces, classes, templates

    public int addNamespace(int outer) throws IndexOutOfBoundsException, IllegalStateException {
        needNamespace(outer);
        if (functions.namespaces() >= Functions.NAMESPACES) throw new IllegalStateException();
        return functions.putNamespace(outer);
    }

    public int addClass(int namespace) throws IndexOutOfBoundsException, IllegalStateException {
        needNamespace(namespace);
        if (hierarchy.count() >= Hierarchy.CLASSES) throw new IllegalStateException();
        return hierarchy.put(namespace);
    }

    public int addBase(int cls, int base, boolean isVirtual)
            throws IndexOutOfBoundsException, IllegalArgumentException, IllegalStateException {
        needClass(cls);
        needClass(base);
        if (base >= cls || hierarchy.hasOwnBase(cls, base)) throw new IllegalArgumentException();
        if (hierarchy.bases(cls) >= Hierarchy.EACH || making.hasBegun()) throw new IllegalStateException();
        int bases = hierarchy.putBase(cls, base, isVirtual);
        making.findOwners();
        return bases;
    }

    public int addMember(int cls, int member)
            throws IndexOutOfBoundsException, IllegalArgumentException, IllegalStateException {
        needClass(cls);
        needClass(member);
        if (member >= cls) throw new IllegalArgumentException();
        if (hierarchy.members(cls) >= Hierarchy.EACH || making.hasBegun()) throw new IllegalStateException();
        return hierarchy.putMember(cls, member);
    }

    public int addConversion(int cls, int type, boolean isFrom)
            throws IndexOutOfBoundsException, IllegalArgumentException, IllegalStateException {
        needClass(cls);
        needType(type);
        boolean isItself = table.token(type, 0) == TypeTable.CLASS + cls;
        if (isOpen(type) || isItself || hierarchy.hasConversion(cls, type, isFrom)) {
            throw new IllegalArgumentException();
        }
        if (hierarchy.conversions(cls, isFrom) >= Hierarchy.TOLD) throw new IllegalStateException();
        return hierarchy.putConversion(cls, type, isFrom);
    }

    public int addTemplate(int parameters) throws IllegalArgumentException, IllegalStateException {
        if (parameters < 1 || parameters > 2) throw new IllegalArgumentException();
        if (templates.count() >= Templates.TEMPLATES) throw new IllegalStateException();
        return templates.put(parameters);
    }

    public int specialise(int template, int first, int second)
            throws IndexOutOfBoundsException, IllegalArgumentException, IllegalStateException {
        needRow(template, first, second);
        if (templates.specialisations(template) >= Templates.EACH) throw new IllegalStateException();
        return templates.putSpecialisation(template, first, second);
    }

    public int setBase(int template, int specialisation, int type)
            throws IndexOutOfBoundsException, IllegalArgumentException {
        needTemplate(template);
        if (specialisation != Bodies.ITSELF) needSpecialisation(template, specialisation);
        if (type != NONE) {
            needType(type);
            if (!hasBases(type)) throw new IllegalArgumentException();
        }
        return templates.changeBase(template, specialisation, type);
    }

    public int constrain(int template, int specialisation, int parameter, char letter, int cls)
            throws IndexOutOfBoundsException, IllegalArgumentException, IllegalStateException {
        needTemplate(template);
        needSpecialisation(template, specialisation);
        needConstraint(parameter, letter, cls);
        int set = Templates.place(template, specialisation);
        if (templates.constraints(set) >= Templates.MOST_CONSTRAINTS) throw new IllegalStateException();
        int count = templates.putConstraint(set, parameter, letter, cls);
        templates.compareAll(template);
        return count;
    }

    public int distance(int type, int base)
            throws IndexOutOfBoundsException, IllegalArgumentException, NoSuchElementException,
            UnsupportedOperationException {
        needType(type);
        needType(base);
        if (isOpen(type) || isOpen(base)) throw new IllegalArgumentException();
        if (!hasBases(type) || !hasBases(base)) throw new IllegalArgumentException();
        bodies.startAnew();
        int target = table.place(base);
        int steps = bodies.steps(table.place(type), target, table.head(target));
        for (int i = 0; i < Call.MOST_NEEDED && bodies.needsOne(); i++) {
            bodies.find(bodies.takeNeeded());
            steps = bodies.steps(table.place(type), target, table.head(target));
        }
        if (steps == NONE) throw new NoSuchElementException();
        if (steps == SEVERAL) throw new UnsupportedOperationException();
        return steps;
    }

    // ---- functions and calls

    public int addFunction(int namespace, int name, boolean isDeleted)
            throws IndexOutOfBoundsException, IllegalArgumentException, IllegalStateException {
        needNamespace(namespace);
        needName(name);
        if (functions.count() >= Functions.FUNCTIONS) throw new IllegalStateException();
        return functions.put(namespace, name, isDeleted);
    }

    public int addParameter(int function, char mode, int type)
            throws IndexOutOfBoundsException, IllegalArgumentException, IllegalStateException {
        needFunction(function);
        needType(type);
        if (mode != 'v' && mode != 'r' && mode != 'c' && mode != 'm') throw new IllegalArgumentException();
        if (functions.parameters(function) >= Functions.EACH) throw new IllegalStateException();
        return functions.putParameter(function, mode, type);
    }

    public int require(int function, int parameter, char letter, int cls)
            throws IndexOutOfBoundsException, IllegalArgumentException, IllegalStateException {
        needFunction(function);
        needConstraint(parameter, letter, cls);
        int set = Functions.constraintSet(function);
        if (templates.constraints(set) >= Templates.MOST_CONSTRAINTS) throw new IllegalStateException();
        return templates.putConstraint(set, parameter, letter, cls);
    }

    public int addArgument(int type, char category)
            throws IndexOutOfBoundsException, IllegalArgumentException, IllegalStateException {
        needType(type);
        boolean isCategory = category == 'l' || category == 'k' || category == 'r';
        if (isOpen(type) || !isCategory) throw new IllegalArgumentException();
        if (call.count() >= Functions.EACH) throw new IllegalStateException();
        return call.put(type, category);
    }

    public int clearArguments() {
        return call.clear();
    }

    public int candidates(int namespace, int name) throws IndexOutOfBoundsException, IllegalArgumentException {
        needNamespace(namespace);
        needName(name);
        choice.gather(namespace, name);
        return choice.count();
    }

    public boolean isViable(int function) throws IndexOutOfBoundsException {
        needFunction(function);
        return call.settles(function);
    }

    public int coming(int function, int argument) throws IndexOutOfBoundsException, IllegalStateException {
        needFunction(function);
        if (argument < 0 || argument >= call.count()) throw new IndexOutOfBoundsException();
        if (!call.settles(function)) throw new IllegalStateException();
        int way = call.wayOf(function, argument);
        return call.isSure(function, argument) ? way : -1 - way;
    }

    public int deduced(int function, int parameter)
            throws IndexOutOfBoundsException, IllegalStateException, NoSuchElementException,
            UnsupportedOperationException {
        needFunction(function);
        if (!isParameter(parameter)) throw new IndexOutOfBoundsException();
        if (!call.settles(function)) throw new IllegalStateException();
        int type = call.bound(parameter);
        if (type == NONE) throw new NoSuchElementException();
        int number = table.number(type);
        if (number == NONE) throw new UnsupportedOperationException();
        return number;
    }

    public int resolve(int namespace, int name) throws IndexOutOfBoundsException, IllegalArgumentException {
        needNamespace(namespace);
        needName(name);
        choice.gather(namespace, name);
        for (int i = 0; i < functions.count(); i++) {
            if (choice.has(i) && !call.settles(i)) choice.drop(i);
        }
        return choice.answer(choice.bestByWalks());
    }

    public int resolveAnew(int namespace, int name) throws IndexOutOfBoundsException, IllegalArgumentException {
        needNamespace(namespace);
        needName(name);
        choice.gather(namespace, name);
        for (int i = 0; i < functions.count(); i++) {
            if (choice.has(i) && !call.settles(i)) choice.drop(i);
        }
        return choice.answer(choice.bestByPairs());
    }

    // ---- objects

    public boolean override(int cls, int method, boolean does)
            throws IndexOutOfBoundsException, IllegalArgumentException {
        needClass(cls);
        if (!isMethod(method)) throw new IllegalArgumentException();
        return making.changeOverriding(cls, method, does);
    }

    public int overrider(int cls, int method) throws IndexOutOfBoundsException, IllegalArgumentException {
        needClass(cls);
        if (!isMethod(method)) throw new IllegalArgumentException();
        return making.ownerOf(cls, method);
    }

    public int setBody(int cls, int method, boolean delegates)
            throws IndexOutOfBoundsException, IllegalArgumentException {
        needClass(cls);
        if (method != NONE && !isMethod(method)) throw new IllegalArgumentException();
        return making.changeBody(cls, method, delegates);
    }

    public int setThrow(int cls, int times) throws IndexOutOfBoundsException, IllegalArgumentException {
        needClass(cls);
        if (times < 0 || times > Making.TIMES) throw new IllegalArgumentException();
        return making.changeTimes(cls, times);
    }

    public int open(boolean isTry) throws IllegalStateException {
        if (making.blocks() >= Making.BLOCKS) throw new IllegalStateException();
        return making.openBlock(isTry);
    }

    public int close() throws IllegalStateException {
        if (making.blocks() <= 1) throw new IllegalStateException();
        return making.closeBlock();
    }

    public char make(int cls, char how, int many)
            throws IndexOutOfBoundsException, IllegalArgumentException, IllegalStateException {
        needClass(cls);
        boolean isArray = how == 'a';
        if (!isArray && how != 'o' && how != 't' && how != 'l') throw new IllegalArgumentException();
        if (isArray && (many < 1 || many > Making.ARRAY)) throw new IllegalArgumentException();
        int count = isArray ? many : 1;
        if (making.livingCount() + count > Making.LIVING) throw new IllegalStateException();
        return making.makeObjects(cls, how == 't', count);
    }

    public int endExpression() {
        return making.takeTemporaries();
    }

    public char raise() {
        return making.unwind();
    }

    public int living() {
        return making.livingCount();
    }

    public int trace() {
        return making.traced();
    }

    public char traceKind(int index) throws IndexOutOfBoundsException {
        needTraced(index);
        return making.kindAt(index);
    }

    public int traceClass(int index) throws IndexOutOfBoundsException {
        needTraced(index);
        return making.classAt(index);
    }

    public int traceObject(int index) throws IndexOutOfBoundsException {
        needTraced(index);
        return making.objectAt(index);
    }

    // ---- totals

    public long made() {
        return making.madeParts();
    }

    public long takenDown() {
        return making.takenParts();
    }

    public float viableShare() throws ArithmeticException {
        int all = functions.count();
        if (all == 0) throw new ArithmeticException();
        int viable = 0;
        for (int i = 0; i < all; i++) {
            if (call.settles(i)) viable++;
        }
        return (float) viable / (float) all;
    }

    public double meanParts() throws ArithmeticException {
        int all = hierarchy.count();
        if (all == 0) throw new ArithmeticException();
        long sum = 0;
        for (int i = 0; i < all; i++) {
            sum += hierarchy.allParts(i);
        }
        return (double) sum / (double) all;
    }

    // ---- what the calls ask of their arguments

    private void needType(int type) {
        if (!table.has(type)) throw new IndexOutOfBoundsException();
    }

    private void needClass(int cls) {
        if (cls < 0 || cls >= hierarchy.count()) throw new IndexOutOfBoundsException();
    }

    private void needNamespace(int namespace) {
        if (namespace < 0 || namespace >= functions.namespaces()) throw new IndexOutOfBoundsException();
    }

    private void needTemplate(int template) {
        if (template < 0 || template >= templates.count()) throw new IndexOutOfBoundsException();
    }

    private void needSpecialisation(int template, int specialisation) {
        if (specialisation < 0 || specialisation >= templates.specialisations(template)) {
            throw new IndexOutOfBoundsException();
        }
    }

    private void needFunction(int function) {
        if (function < 0 || function >= functions.count()) throw new IndexOutOfBoundsException();
    }

    private void needTraced(int index) {
        if (index < 0 || index >= making.traced()) throw new IndexOutOfBoundsException();
    }

    private void needName(int name) {
        if (name < 0 || name >= NAMES) throw new IllegalArgumentException();
    }

    /** A row of one or two types for a template. */
    private void needRow(int template, int first, int second) {
        needTemplate(template);
        needType(first);
        if (second != NONE) needType(second);
        boolean isSingle = templates.parameters(template) == 1;
        if (isSingle != (second == NONE)) throw new IllegalArgumentException();
    }

    private void needClosedInstance(int type) {
        needType(type);
        if (!TypeTable.isInstance(table.token(type, 0)) || isOpen(type)) throw new IllegalArgumentException();
    }

    private void needConstraint(int parameter, char letter, int cls) {
        if (letter == 'd') needClass(cls);
        boolean isLetter = letter == 'p' || letter == 'c' || letter == 'b' || letter == 'd';
        if (!isParameter(parameter) || !isLetter) throw new IllegalArgumentException();
    }

    private int needRoom(int type) {
        if (type == NONE) throw new IllegalStateException();
        return type;
    }

    private int numberFor(int head, int first, int second) {
        table.forgetPassing();
        return needRoom(table.number(table.made(head, first, second)));
    }

    private boolean isOpen(int type) {
        return table.isOpen(table.place(type));
    }

    private boolean hasBases(int type) {
        int head = table.token(type, 0);
        return TypeTable.isClass(head) || TypeTable.isInstance(head);
    }

    private static boolean isParameter(int parameter) {
        return parameter >= 0 && parameter < PARAMETERS;
    }

    private static boolean isMethod(int method) {
        return method >= 0 && method < METHODS;
    }

    /**
     * The types. Each is told by what stands ahead in it and by the one or two types that it is made of, and is there
     * once, so that the same type has the same place. Those with a number, and the types in them, come first; behind
     * them are the passing ones, which come about within a call and are forgotten ahead of the next search.
     */
    private static final class TypeTable {
        static final int TRUTH = 0;
        static final int LETTER = 1;
        static final int WHOLE = 2;
        static final int BASIC = 5;
        static final int CLASS = 10;
        static final int PARAMETER = 30;
        static final int POINTER = 40;
        static final int SINGLE = 50;
        static final int TWOFOLD = 60;

        static final int NUMBERED = 150;
        static final int LARGEST = 30;
        /** No bound of the document: that of the room in which the program lives. */
        static final int ROOM = 800_000;

        /** What others note of a type during a search, 0 at first. */
        static final int BODIES = 0;
        static final int BASE = 1;
        static final int LINK = 2;
        static final int QUEUE = 3;
        private static final int CHAIN = 4;
        private static final int NOTES = 5;

        /** The rows become longer twice, when there is no more room for what a base can take. */
        private static final int FEW = 1 << 10;
        private static final int SOME = 1 << 14;
        private static final int SPARE = 100;
        private static final int FEW_CHAINS = 1 << 11;
        private static final int MANY_CHAINS = 1 << 17;
        private static final int CROWD = 8;
        private static final long SPREAD = 0x9E3779B97F4A7C15L;
        private static final int SPREAD_AT = 40;

        /**
         * The shape of a type: what stands ahead in it and 1, its size, whether it is open, the places of its types and
         * 1.
         */
        private static final int SIZE_AT = 7;
        private static final int OPEN_AT = 12;
        private static final int FIRST_AT = 13;
        private static final int SECOND_AT = 33;
        private static final int HEADS = (1 << SIZE_AT) - 1;
        private static final int SIZES = (1 << OPEN_AT - SIZE_AT) - 1;
        private static final int PLACES = (1 << SECOND_AT - FIRST_AT) - 1;

        private long[] shapes = new long[FEW];
        private int[] notes = new int[FEW * NOTES];
        /** Of each chain of types the last one and 1; the one ahead of it is noted. */
        private int[] chains = new int[FEW_CHAINS];
        private int count;
        private int lasting;
        private int numbered;
        private final int[] places = new int[NUMBERED];
        /** The types with a number once more, as rows, in which each type stands ahead of those that it is made of. */
        private final int[] tokens = new int[NUMBERED * LARGEST];
        private final int[] stack = new int[LARGEST + 1];
        private final int[] otherStack = new int[LARGEST + 1];

        TypeTable() {
            for (int i = 0; i < BASIC; i++) {
                places[i] = kept(shape(i, NONE, NONE, 1, false));
                tokens[i * LARGEST] = i;
            }
            lasting = count;
            numbered = BASIC;
        }

        static boolean isBasic(int head) {
            return head >= 0 && head < BASIC;
        }

        static boolean isClass(int head) {
            return head >= CLASS && head < PARAMETER;
        }

        static boolean isParameter(int head) {
            return head >= PARAMETER && head < POINTER;
        }

        static boolean isInstance(int head) {
            return head >= SINGLE;
        }

        static int templateOf(int head) {
            return head >= TWOFOLD ? head - TWOFOLD : head - SINGLE;
        }

        static long shape(int head, int first, int second, int size, boolean isOpen) {
            int low = head + 1 | size << SIZE_AT | (isOpen ? 1 << OPEN_AT : 0);
            return low | (long) (first + 1) << FIRST_AT | (long) (second + 1) << SECOND_AT;
        }

        int numbered() {
            return numbered;
        }

        boolean has(int number) {
            return number >= 0 && number < numbered;
        }

        /** The place of a type with a number, NONE if there is none. */
        int place(int number) {
            return number >= 0 && number < numbered ? places[number] : NONE;
        }

        /** What stands at an index of the row of a type with a number, ahead in it at the index 0. */
        int token(int number, int at) {
            return tokens[number * LARGEST + at];
        }

        int count() {
            return count;
        }

        boolean isFull() {
            return count >= ROOM;
        }

        /** What stands ahead in a type: what it is, and of which class or template; NONE for no type. */
        int head(int place) {
            return place >= 0 && place < count ? ((int) shapes[place] & HEADS) - 1 : NONE;
        }

        /** The number of types in it, counting each one as often as it is there; 0 for no type. */
        int size(int place) {
            return place >= 0 && place < count ? (int) (shapes[place] >> SIZE_AT) & SIZES : 0;
        }

        boolean isOpen(int place) {
            return place >= 0 && place < count && (shapes[place] >> OPEN_AT & 1) == 1;
        }

        /** The first type that a type is made of, NONE if there is none. */
        int first(int place) {
            return place >= 0 && place < count ? ((int) (shapes[place] >> FIRST_AT) & PLACES) - 1 : NONE;
        }

        int second(int place) {
            return place >= 0 && place < count ? ((int) (shapes[place] >> SECOND_AT) & PLACES) - 1 : NONE;
        }

        int note(int place, int kind) {
            return place >= 0 && place < count ? notes[place * NOTES + kind] : 0;
        }

        void setNote(int place, int kind, int value) {
            if (place >= 0 && place < count) notes[place * NOTES + kind] = value;
        }

        /** The type that is made of up to two types; NONE if it would be too large. */
        int made(int head, int first, int second) {
            int size = 1 + size(first) + size(second);
            if (size > LARGEST) return NONE;
            return kept(shape(head, first, second, size, isParameter(head) || isOpen(first) || isOpen(second)));
        }

        /** The place of a type; NONE if it is not there, and there is no room for it. */
        int kept(long shape) {
            int chain = (int) (shape * SPREAD >>> SPREAD_AT) & chains.length - 1;
            int at = chains[chain] - 1;
            for (int i = 0; i < count && at >= 0; i++) {
                if (shapes[at] == shape) return at;
                at = notes[at * NOTES + CHAIN] - 1;
            }
            if (count >= shapes.length) return NONE;
            shapes[count] = shape;
            for (int i = 0; i < CHAIN; i++) {
                notes[count * NOTES + i] = 0;
            }
            notes[count * NOTES + CHAIN] = chains[chain];
            chains[chain] = ++count;
            return count - 1;
        }

        /** Makes the rows longer if a base could be too much, and makes more chains if they have become long. */
        void makeRoom() {
            if (count + SPARE > shapes.length && shapes.length < ROOM) {
                int more = shapes.length < SOME ? SOME : ROOM;
                shapes = Arrays.copyOf(shapes, more);
                notes = Arrays.copyOf(notes, more * NOTES);
            }
            if (count <= chains.length * CROWD || chains.length >= MANY_CHAINS) return;
            chains = new int[chains.length * CROWD];
            for (int place = 0; place < count; place++) {
                int chain = (int) (shapes[place] * SPREAD >>> SPREAD_AT) & chains.length - 1;
                notes[place * NOTES + CHAIN] = chains[chain];
                chains[chain] = place + 1;
            }
        }

        /** Forgets the passing types and all notes. */
        void forgetPassing() {
            forgetSearch(lasting);
            for (int place = 0; place < count; place++) {
                notes[place * NOTES + QUEUE] = 0;
            }
            makeRoom();
        }

        /** Forgets the types behind so many, and what is noted of the bodies of the others. */
        void forgetSearch(int left) {
            for (int place = count - 1; place >= left; place--) {
                // The last type is the last one of its chain.
                int chain = (int) (shapes[place] * SPREAD >>> SPREAD_AT) & chains.length - 1;
                chains[chain] = notes[place * NOTES + CHAIN];
            }
            count = Math.min(count, left);
            for (int place = 0; place < count; place++) {
                notes[place * NOTES + BODIES] = 0;
                notes[place * NOTES + BASE] = 0;
                notes[place * NOTES + LINK] = 0;
            }
        }

        /** The number of a type, a new one if need be, which forgets the passing types; NONE if it can't have one. */
        int number(int place) {
            for (int i = 0; i < numbered; i++) {
                if (places[i] == place) return i;
            }
            if (place == NONE || numbered >= NUMBERED) return NONE;
            int size = size(place);
            int row = numbered * LARGEST;
            writeRow(place, row);
            forgetPassing();
            places[numbered] = keptRow(row, size);
            lasting = count;
            return numbered++;
        }

        private void writeRow(int place, int row) {
            int size = size(place);
            int left = 0;
            int at = place;
            for (int i = 0; i < size; i++) {
                tokens[row + i] = head(at);
                int second = second(at);
                if (second != NONE) stack[left++] = second;
                at = first(at);
                if (at == NONE && left > 0) at = stack[--left];
            }
        }

        private int keptRow(int row, int size) {
            int left = 0;
            for (int i = row + size - 1; i >= row; i--) {
                int first = tokens[i] >= POINTER && left > 0 ? stack[--left] : NONE;
                int second = tokens[i] >= TWOFOLD && left > 0 ? stack[--left] : NONE;
                stack[left++] = made(tokens[i], first, second);
            }
            return left > 0 ? stack[0] : NONE;
        }

        /** The classes and templates in a type, as bits, those of the classes first. */
        int contents(int place) {
            int size = size(place);
            int all = 0;
            int left = 0;
            int at = place;
            for (int i = 0; i < size; i++) {
                int head = head(at);
                if (isClass(head)) all |= 1 << head - CLASS;
                if (isInstance(head)) all |= 1 << Hierarchy.CLASSES + templateOf(head);
                int second = second(at);
                if (second != NONE) stack[left++] = second;
                at = first(at);
                if (at == NONE && left > 0) at = stack[--left];
            }
            return all;
        }

        /** Which of two types comes first: the smaller one, or that whose row does; less than 0 for the first one. */
        int compare(int own, int other) {
            int size = size(own);
            if (size != size(other)) return size - size(other);
            int left = 0;
            int at = own;
            int otherAt = other;
            for (int i = 0; i < size; i++) {
                int difference = head(at) - head(otherAt);
                if (difference != 0) return difference;
                stack[left] = second(at);
                otherStack[left] = second(otherAt);
                if (stack[left] != NONE) left++;
                at = first(at);
                otherAt = first(otherAt);
                if (at == NONE && left > 0) {
                    left--;
                    at = stack[left];
                    otherAt = otherStack[left];
                }
            }
            return 0;
        }
    }

    /** What the parameters stand for, in several frames that are used side by side. */
    private static final class Bindings {
        private final TypeTable table;
        private final int[] types;
        private final int[] stack = new int[TypeTable.LARGEST + 1];

        Bindings(TypeTable table, int frames) {
            this.table = table;
            types = new int[(frames > 0 ? frames : 1) * PARAMETERS];
        }

        void empty(int frame) {
            for (int i = 0; i < PARAMETERS; i++) {
                types[frame * PARAMETERS + i] = NONE;
            }
        }

        void copy(int from, int to) {
            System.arraycopy(types, from * PARAMETERS, types, to * PARAMETERS, PARAMETERS);
        }

        /** What a parameter stands for, NONE for nothing. */
        int type(int frame, int parameter) {
            return types[frame * PARAMETERS + parameter];
        }

        /** Lets a parameter stand for a type, unless it stands for another one. */
        boolean stand(int frame, int parameter, int type) {
            int slot = frame * PARAMETERS + parameter;
            if (types[slot] == NONE) types[slot] = type;
            return types[slot] == type;
        }

        /** Whether a pattern, which has a number, matches a type with what was matched before; the rest is gathered. */
        boolean matches(int frame, int pattern, int type) {
            int size = table.size(table.place(pattern));
            int left = 0;
            int at = type;
            for (int i = 0; i < size; i++) {
                int token = table.token(pattern, i);
                int next = NONE;
                if (TypeTable.isParameter(token)) {
                    if (!stand(frame, token - TypeTable.PARAMETER, at)) return false;
                } else {
                    if (table.head(at) != token) return false;
                    int second = table.second(at);
                    if (second != NONE) stack[left++] = second;
                    next = table.first(at);
                }
                at = next == NONE && left > 0 ? stack[--left] : next;
            }
            return true;
        }

        /**
         * A type, which has a number, with the types for which its parameters stand, none of which is open; NONE if one
         * stands for nothing, or if it would be too large.
         */
        int replaced(int frame, int number) {
            int size = table.size(table.place(number));
            int whole = 0;
            for (int i = 0; i < size; i++) {
                int token = table.token(number, i);
                boolean isParameter = TypeTable.isParameter(token);
                int part = isParameter ? table.size(types[frame * PARAMETERS + token - TypeTable.PARAMETER]) : 1;
                whole = part == 0 ? TypeTable.LARGEST + 1 : whole + part;
            }
            int left = 0;
            for (int i = size - 1; i >= 0 && whole <= TypeTable.LARGEST; i--) {
                int token = table.token(number, i);
                int first = token >= TypeTable.POINTER && left > 0 ? stack[--left] : NONE;
                int second = token >= TypeTable.TWOFOLD && left > 0 ? stack[--left] : NONE;
                int part = 1 + table.size(first) + table.size(second);
                boolean isParameter = TypeTable.isParameter(token);
                int type = isParameter ? types[frame * PARAMETERS + token - TypeTable.PARAMETER]
                        : table.kept(TypeTable.shape(token, first, second, part, false));
                if (type == NONE) return NONE;
                stack[left++] = type;
            }
            return left > 0 ? stack[0] : NONE;
        }
    }

    /**
     * The class templates with their specialisations, and the sets of constraints, those of specialisations ahead of
     * those of functions; and what follows from all this whatever the types are.
     */
    private static final class Templates {
        static final int TEMPLATES = 5;
        static final int EACH = 4;
        static final int MOST_CONSTRAINTS = 4;
        private static final int ROW = 2;
        private static final int FITTINGS = 1 << EACH;
        private static final int SETS = TEMPLATES * EACH + Functions.FUNCTIONS;

        private final TypeTable table;
        private final Hierarchy hierarchy;
        private final Bindings bindings;
        private int count;
        private final int[] parameters = new int[TEMPLATES];
        private final int[] specialisations = new int[TEMPLATES];
        private final int[] patterns = new int[TEMPLATES * EACH * ROW];
        private final int[] bases = new int[TEMPLATES * (EACH + 1)];
        private final boolean[] isOver = new boolean[TEMPLATES * EACH * EACH];
        private final int[] chosen = new int[TEMPLATES * FITTINGS];
        private final int[] constraintCounts = new int[SETS];
        private final int[] constrained = new int[SETS * MOST_CONSTRAINTS];
        private final char[] letters = new char[SETS * MOST_CONSTRAINTS];
        private final int[] classes = new int[SETS * MOST_CONSTRAINTS];
        /** For each set and parameter, the classes of its constraints 'd', as bits. */
        private final int[] wanted = new int[SETS * PARAMETERS];
        /** For each number of steps, the classes at which the bases of an instance can end at most, as bits. */
        private final int[] ends = new int[(Bodies.STEPS + 1) * TEMPLATES];

        Templates(TypeTable table, Hierarchy hierarchy) {
            this.table = table;
            this.hierarchy = hierarchy;
            bindings = new Bindings(table, 1);
        }

        /** The set of constraints of a specialisation. */
        static int place(int template, int specialisation) {
            return template * EACH + specialisation;
        }

        int count() {
            return count;
        }

        int parameters(int template) {
            return parameters[template];
        }

        int specialisations(int template) {
            return specialisations[template];
        }

        int pattern(int template, int specialisation, int at) {
            return patterns[(template * EACH + specialisation) * ROW + at];
        }

        int base(int template, int body) {
            return bases[template * (EACH + 1) + body + 1];
        }

        /** Whether one specialisation is more special than another one. */
        boolean isOver(int template, int own, int other) {
            return isOver[(template * EACH + own) * EACH + other];
        }

        /** The body that is chosen if these specialisations fit, both as bits. */
        int chosen(int template, int fitting) {
            return chosen[template * FITTINGS + fitting];
        }

        int constraints(int set) {
            return constraintCounts[set];
        }

        /** Whether what a parameter stands for is of the kind that the constraints ask for. */
        boolean suits(int set, int parameter, int head) {
            boolean isBasic = TypeTable.isBasic(head);
            boolean hasBases = TypeTable.isClass(head) || TypeTable.isInstance(head);
            for (int i = set * MOST_CONSTRAINTS; i < set * MOST_CONSTRAINTS + constraintCounts[set]; i++) {
                char letter = letters[i];
                boolean isOfKind = letter == 'p' ? head == TypeTable.POINTER : letter == 'b' ? isBasic : hasBases;
                if (constrained[i] == parameter && !isOfKind) return false;
            }
            return true;
        }

        /** The classes at which the bases of an instance can end at most by so many steps, as bits. */
        int ends(int template, int steps) {
            return ends[steps * TEMPLATES + template];
        }

        /** The classes to which the type of a parameter must lead, as bits. */
        int wanted(int set, int parameter) {
            return wanted[set * PARAMETERS + parameter];
        }

        int put(int howMany) {
            parameters[count] = howMany;
            for (int body = Bodies.ITSELF; body < EACH; body++) {
                bases[count * (EACH + 1) + body + 1] = NONE;
            }
            compareAll(count);
            return count++;
        }

        int putSpecialisation(int template, int first, int second) {
            int number = specialisations[template]++;
            int row = place(template, number) * ROW;
            patterns[row] = first;
            patterns[row + 1] = second;
            compareAll(template);
            return number;
        }

        int changeBase(int template, int body, int type) {
            int place = template * (EACH + 1) + body + 1;
            int before = bases[place];
            bases[place] = type;
            return before;
        }

        int putConstraint(int set, int parameter, char letter, int cls) {
            int place = set * MOST_CONSTRAINTS + constraintCounts[set];
            constrained[place] = parameter;
            letters[place] = letter;
            // The class of another letter has no meaning, so it must not tell two constraints apart.
            classes[place] = letter == 'd' ? cls : NONE;
            if (letter == 'd') wanted[set * PARAMETERS + parameter] |= 1 << cls;
            return ++constraintCounts[set];
        }

        void compareAll(int template) {
            for (int own = 0; own < specialisations[template]; own++) {
                for (int other = 0; other < specialisations[template]; other++) {
                    int ownPlace = place(template, own);
                    int otherPlace = place(template, other);
                    isOver[ownPlace * EACH + other] = isMoreSpecial(patterns, ownPlace * ROW, otherPlace * ROW,
                            parameters[template], ownPlace, otherPlace);
                }
            }
            for (int fitting = 0; fitting < FITTINGS; fitting++) {
                chosen[template * FITTINGS + fitting] = foundFirst(template, fitting);
            }
        }

        /** The one that is more special than all others that fit. */
        private int foundFirst(int template, int fitting) {
            for (int own = 0; own < EACH; own++) {
                boolean isFirst = (fitting >> own & 1) == 1;
                for (int other = 0; other < EACH && isFirst; other++) {
                    boolean isRival = other != own && (fitting >> other & 1) == 1;
                    if (isRival && !isOver(template, own, other)) isFirst = false;
                }
                if (isFirst) return 1 << own;
            }
            return fitting == 0 ? Possible.ITSELF_BIT : Possible.UNSURE_BIT;
        }

        /** Whether one row of patterns, with a set of constraints, is more special than another one. */
        boolean isMoreSpecial(int[] rows, int own, int other, int length, int ownSet, int otherSet) {
            if (!matchesAll(rows, other, own, length)) return false;
            if (!matchesAll(rows, own, other, length)) return true;
            return holdsAllOf(ownSet, otherSet) && !holdsAllOf(otherSet, ownSet);
        }

        private boolean matchesAll(int[] rows, int matching, int matched, int length) {
            bindings.empty(0);
            for (int i = 0; i < length; i++) {
                if (!bindings.matches(0, rows[matching + i], table.place(rows[matched + i]))) return false;
            }
            return true;
        }

        private boolean holdsAllOf(int set, int other) {
            for (int i = 0; i < constraintCounts[other]; i++) {
                if (!hasConstraint(set, other * MOST_CONSTRAINTS + i)) return false;
            }
            return true;
        }

        private boolean hasConstraint(int set, int place) {
            for (int i = set * MOST_CONSTRAINTS; i < set * MOST_CONSTRAINTS + constraintCounts[set]; i++) {
                boolean isSameLetter = letters[i] == letters[place] && classes[i] == classes[place];
                if (isSameLetter && constrained[i] == constrained[place]) return true;
            }
            return false;
        }

        /** To be called ahead of a search, as templates or classes may have changed. */
        void findEnds() {
            for (int steps = 1; steps <= Bodies.STEPS; steps++) {
                for (int i = 0; i < count; i++) {
                    int all = 0;
                    for (int body = Bodies.ITSELF; body < specialisations[i]; body++) {
                        int head = canBeChosen(i, body) ? table.head(table.place(base(i, body))) : NONE;
                        if (TypeTable.isClass(head)) all |= 1 << head - TypeTable.CLASS;
                        if (TypeTable.isInstance(head)) all |= ends(TypeTable.templateOf(head), steps - 1);
                    }
                    ends[steps * TEMPLATES + i] = all;
                }
            }
        }

        /** Whether a body can be chosen for any instance. */
        private boolean canBeChosen(int template, int body) {
            if (isNeverFirst(template, body)) return false;
            boolean isPossible = true;
            for (int i = 0; i < PARAMETERS && isPossible && body != Bodies.ITSELF; i++) {
                int classes = wanted(place(template, body), i);
                isPossible = classes == 0;
                for (int cls = 0; cls < hierarchy.count() && !isPossible; cls++) {
                    isPossible = hierarchy.leads(cls, classes, 0) || hierarchy.leads(cls, classes, 1);
                }
            }
            return isPossible;
        }

        /** Whether a specialisation that always fits stands in the way of a body. */
        private boolean isNeverFirst(int template, int body) {
            for (int i = 0; i < specialisations[template]; i++) {
                boolean isRival = i != body && alwaysFits(template, i);
                if (isRival && (body == Bodies.ITSELF || !isOver(template, body, i))) return true;
            }
            return false;
        }

        private boolean alwaysFits(int template, int specialisation) {
            int first = table.head(table.place(pattern(template, specialisation, 0)));
            int second = table.head(table.place(pattern(template, specialisation, 1)));
            boolean isSingle = parameters[template] == 1;
            boolean isAny = TypeTable.isParameter(first) && (isSingle || TypeTable.isParameter(second));
            return isAny && first != second && constraintCounts[place(template, specialisation)] == 0;
        }

        /** The classes that can be met by way of a type, its parts and its bases at most, as bits. */
        int classesBehind(int type) {
            int all = table.contents(type);
            for (int i = 0; i < TEMPLATES * (EACH + 1); i++) {
                for (int template = 0; template < count; template++) {
                    if ((all >> Hierarchy.CLASSES + template & 1) == 1) all |= contentsOfBases(template, all);
                }
            }
            int found = 0;
            for (int cls = 0; cls < hierarchy.count(); cls++) {
                if ((all >> cls & 1) == 1) found |= hierarchy.allBases(cls);
            }
            return found;
        }

        /** The classes and templates in the bases that a template can have, with these classes and templates about. */
        private int contentsOfBases(int template, int about) {
            int all = 0;
            for (int body = Bodies.ITSELF; body < specialisations[template]; body++) {
                boolean isPossible = canBeChosen(template, body);
                for (int i = 0; i < PARAMETERS && isPossible && body != Bodies.ITSELF; i++) {
                    isPossible = canHold(place(template, body), i, about);
                }
                if (isPossible) all |= table.contents(table.place(base(template, body)));
            }
            return all;
        }

        /** Whether the constraints of a parameter may hold, with these classes and templates about. */
        private boolean canHold(int set, int parameter, int about) {
            if (canHoldFor(set, parameter, TypeTable.POINTER)) return true;
            if (canHoldFor(set, parameter, TypeTable.TRUTH)) return true;
            for (int i = 0; i < Hierarchy.CLASSES; i++) {
                if ((about >> i & 1) == 1 && canHoldFor(set, parameter, TypeTable.CLASS + i)) return true;
            }
            for (int i = 0; i < count; i++) {
                boolean isAbout = (about >> Hierarchy.CLASSES + i & 1) == 1;
                if (isAbout && canHoldFor(set, parameter, TypeTable.SINGLE + i)) return true;
            }
            return false;
        }

        private boolean canHoldFor(int set, int parameter, int head) {
            if (!suits(set, parameter, head)) return false;
            int classes = wanted(set, parameter);
            if (classes == 0) return true;
            if (TypeTable.isClass(head)) return hierarchy.leads(head - TypeTable.CLASS, classes, 0);
            if (!TypeTable.isInstance(head)) return false;
            return hierarchy.oneLeads(ends(TypeTable.templateOf(head), Bodies.STEPS), classes, 1);
        }
    }

    /** The classes with their bases, members and conversions, and what follows from these. */
    private static final class Hierarchy {
        static final int CLASSES = 12;
        static final int EACH = 3;
        static final int TOLD = 2;

        private int count;
        private final int[] namespaces = new int[CLASSES];
        private final int[] baseCounts = new int[CLASSES];
        private final int[] bases = new int[CLASSES * EACH];
        private final boolean[] areVirtual = new boolean[CLASSES * EACH];
        private final int[] memberCounts = new int[CLASSES];
        private final int[] members = new int[CLASSES * EACH];
        private final int[] toldCounts = new int[CLASSES * 2];
        private final int[] told = new int[CLASSES * 2 * TOLD];
        /** For each two classes, the least number of steps to a base, NONE if it is none. */
        private final int[] steps = new int[CLASSES * CLASSES];
        /** For each two classes, the parts to which there is a way without a virtual base. */
        private final int[] innerParts = new int[CLASSES * CLASSES];
        /** For each number of steps by which a class was come to, the classes to which it leads, as bits. */
        private final int[] led = new int[(Bodies.STEPS + 1) * CLASSES];
        /** The virtual bases of a class in the order in which they are made. */
        private final int[] virtuals = new int[CLASSES * CLASSES];
        private final int[] virtualCounts = new int[CLASSES];
        /** For each two classes, the bodies of one in another one, members counted: as a part, and as a whole. */
        private final long[] partBodies = new long[CLASSES * CLASSES];
        private final long[] wholeBodies = new long[CLASSES * CLASSES];
        /** How many numbers of objects the making of a class takes: as a part, and as a whole. */
        private final long[] partObjects = new long[CLASSES];
        private final long[] wholeObjects = new long[CLASSES];

        int count() {
            return count;
        }

        int namespace(int cls) {
            return namespaces[cls];
        }

        int bases(int cls) {
            return baseCounts[cls];
        }

        int baseAt(int cls, int at) {
            return bases[cls * EACH + at];
        }

        boolean isVirtualAt(int cls, int at) {
            return areVirtual[cls * EACH + at];
        }

        int members(int cls) {
            return memberCounts[cls];
        }

        int memberAt(int cls, int at) {
            return members[cls * EACH + at];
        }

        int virtuals(int cls) {
            return virtualCounts[cls];
        }

        int virtualAt(int cls, int at) {
            return virtuals[cls * CLASSES + at];
        }

        int steps(int cls, int base) {
            return steps[cls * CLASSES + base];
        }

        boolean isBase(int base, int cls) {
            return steps(cls, base) > 0;
        }

        long partBodies(int cls, int of) {
            return partBodies[cls * CLASSES + of];
        }

        long wholeBodies(int cls, int of) {
            return wholeBodies[cls * CLASSES + of];
        }

        long partObjects(int cls) {
            return partObjects[cls];
        }

        long wholeObjects(int cls) {
            return wholeObjects[cls];
        }

        int put(int namespace) {
            namespaces[count] = namespace;
            count++;
            workOut();
            return count - 1;
        }

        boolean hasOwnBase(int cls, int base) {
            for (int i = 0; i < baseCounts[cls]; i++) {
                if (baseAt(cls, i) == base) return true;
            }
            return false;
        }

        int putBase(int cls, int base, boolean isVirtual) {
            int place = cls * EACH + baseCounts[cls];
            bases[place] = base;
            areVirtual[place] = isVirtual;
            baseCounts[cls]++;
            workOut();
            return baseCounts[cls];
        }

        int putMember(int cls, int member) {
            members[cls * EACH + memberCounts[cls]] = member;
            memberCounts[cls]++;
            workOut();
            return memberCounts[cls];
        }

        int conversions(int cls, boolean isFrom) {
            return toldCounts[cls * 2 + (isFrom ? 1 : 0)];
        }

        int conversionAt(int cls, boolean isFrom, int at) {
            return told[(cls * 2 + (isFrom ? 1 : 0)) * TOLD + at];
        }

        boolean hasConversion(int cls, int type, boolean isFrom) {
            for (int i = 0; i < conversions(cls, isFrom); i++) {
                if (conversionAt(cls, isFrom, i) == type) return true;
            }
            return false;
        }

        int putConversion(int cls, int type, boolean isFrom) {
            int side = cls * 2 + (isFrom ? 1 : 0);
            told[side * TOLD + toldCounts[side]] = type;
            return ++toldCounts[side];
        }

        /** How many parts of a base a class has as a whole object. */
        int parts(int cls, int base) {
            int sum = innerParts[cls * CLASSES + base];
            for (int i = 0; i < virtualCounts[cls]; i++) {
                sum += innerParts[virtualAt(cls, i) * CLASSES + base];
            }
            return sum;
        }

        /** A class and its bases, as bits. */
        int allBases(int cls) {
            int all = 0;
            for (int base = 0; base <= cls; base++) {
                if (steps(cls, base) != NONE) all |= 1 << base;
            }
            return all;
        }

        /** Whether a class that was come to by some steps leads to all these classes, which are bits. */
        boolean leads(int cls, int all, int step) {
            return (all & ~led[step * CLASSES + cls]) == 0;
        }

        /** Whether one of some classes, each come to by some steps, leads to all these classes. */
        boolean oneLeads(int some, int all, int step) {
            for (int cls = 0; cls < count; cls++) {
                if ((some >> cls & 1) == 1 && (all & ~led[step * CLASSES + cls]) == 0) return true;
            }
            return false;
        }

        private void findLed(int cls) {
            for (int step = 0; step <= Bodies.STEPS; step++) {
                int all = 0;
                for (int base = 0; base <= cls; base++) {
                    int steps = steps(cls, base);
                    boolean isLed = step == 0 ? parts(cls, base) == 1 : step + steps <= Bodies.STEPS;
                    if (steps != NONE && isLed) all |= 1 << base;
                }
                led[step * CLASSES + cls] = all;
            }
        }

        long allParts(int cls) {
            long sum = 0;
            for (int base = 0; base < count; base++) {
                sum += parts(cls, base);
            }
            return sum;
        }

        /** Bases and members have lower numbers, so that what they need is worked out ahead of what needs them. */
        private void workOut() {
            for (int cls = 0; cls < count; cls++) {
                begin(cls);
                for (int i = 0; i < baseCounts[cls]; i++) {
                    takeBase(cls, baseAt(cls, i), isVirtualAt(cls, i));
                }
                for (int i = 0; i < memberCounts[cls]; i++) {
                    takeMember(cls, memberAt(cls, i));
                }
                finish(cls);
                findLed(cls);
            }
        }

        private void begin(int cls) {
            for (int other = 0; other < CLASSES; other++) {
                boolean isItself = other == cls;
                steps[cls * CLASSES + other] = isItself ? 0 : NONE;
                innerParts[cls * CLASSES + other] = isItself ? 1 : 0;
                partBodies[cls * CLASSES + other] = isItself ? 1 : 0;
            }
            virtualCounts[cls] = 0;
            partObjects[cls] = 0;
        }

        private void takeBase(int cls, int base, boolean isVirtual) {
            for (int other = 0; other <= base; other++) {
                int beyond = steps(base, other);
                int known = steps(cls, other);
                if (beyond != NONE && (known == NONE || known > beyond + 1)) steps[cls * CLASSES + other] = beyond + 1;
                if (!isVirtual) {
                    innerParts[cls * CLASSES + other] += innerParts[base * CLASSES + other];
                    partBodies[cls * CLASSES + other] += partBodies(base, other);
                }
            }
            if (!isVirtual) partObjects[cls] += partObjects[base];
            for (int i = 0; i < virtualCounts[base]; i++) {
                putVirtual(cls, virtualAt(base, i));
            }
            if (isVirtual) putVirtual(cls, base);
        }

        private void putVirtual(int cls, int base) {
            for (int i = 0; i < virtualCounts[cls]; i++) {
                if (virtualAt(cls, i) == base) return;
            }
            virtuals[cls * CLASSES + virtualCounts[cls]] = base;
            virtualCounts[cls]++;
        }

        private void takeMember(int cls, int member) {
            for (int other = 0; other <= member; other++) {
                partBodies[cls * CLASSES + other] += wholeBodies(member, other);
            }
            partObjects[cls] += wholeObjects[member];
        }

        private void finish(int cls) {
            wholeObjects[cls] = 1 + partObjects[cls];
            for (int other = 0; other < CLASSES; other++) {
                wholeBodies[cls * CLASSES + other] = partBodies(cls, other);
            }
            for (int i = 0; i < virtualCounts[cls]; i++) {
                int base = virtualAt(cls, i);
                wholeObjects[cls] += partObjects[base];
                for (int other = 0; other <= base; other++) {
                    wholeBodies[cls * CLASSES + other] += partBodies(base, other);
                }
            }
        }
    }

    /**
     * The bodies that instances can have, for all that is known of them: a set for each one, which shrinks. Whether a
     * specialisation fits may depend on what other instances lead to, and so on what their bodies can be; of these,
     * only those are looked at that matter.
     */
    private static final class Possible {
        /** The sets are bits: those of the specialisations, of the template itself, of no sure body. */
        static final int ITSELF_BIT = 1 << Templates.EACH;
        static final int UNSURE_BIT = 1 << Templates.EACH + 1;
        /** How often a set can change: each time it shrinks, and once when it is forced. */
        static final int CHANGES = Templates.EACH + 3;
        /** What is told of a base that is not found yet. */
        static final int UNKNOWN = -2;
        private static final int BODIES = Templates.EACH + 2;
        private static final int ANY = (1 << BODIES) - 1;
        /** Noted of an instance for which there is no way, beside the set; behind it an answer is noted. */
        private static final int FORCED = 1 << BODIES;
        private static final int ANSWER_AT = BODIES + 1;
        private static final int BLOCK = Templates.EACH + 1;
        private static final int BLOCKS = 1 << 16;
        private static final int FEW_BLOCKS = 64;
        private static final int GROWTH = 8;

        /** Whether something holds. */
        private static final int NO = 1;
        private static final int YES = 2;
        private static final int EITHER = NO | YES;

        /** The frames of bindings. */
        private static final int FITTING = 0;
        private static final int OF_BASE = 1;

        private final TypeTable table;
        private final Hierarchy hierarchy;
        private final Templates templates;
        private final Bindings bindings;
        /** The bases of instances for each of several bodies. */
        private int[] blocks = new int[0];
        private int blockCount;
        private boolean isBrief;
        private boolean isLastFirst;
        /** What would tell more: an instance, or its base for a body, which are to be looked at first. */
        private int needed;
        private int neededBody;
        /** And those that are looked at, but open: one without a link, and the least link of the others. */
        private int unlinked;
        private int leastLink;
        /** The same for each specialisation. */
        private final int[] allNeeded = new int[Templates.EACH];
        private final int[] allNeededBodies = new int[Templates.EACH];
        private final int[] allUnlinked = new int[Templates.EACH];
        private final int[] allLeastLinks = new int[Templates.EACH];

        Possible(TypeTable table, Hierarchy hierarchy, Templates templates) {
            this.table = table;
            this.hierarchy = hierarchy;
            this.templates = templates;
            bindings = new Bindings(table, OF_BASE + 1);
        }

        void startAnew() {
            table.forgetPassing();
            blockCount = 0;
        }

        /** Forgets what was found, and the types behind so many. */
        void forget(int left) {
            table.forgetSearch(left);
            blockCount = 0;
        }

        /** The set of an instance, empty as long as it is not explored. */
        int set(int type) {
            return table.note(type, TypeTable.BODIES) & ANY;
        }

        boolean isForced(int type) {
            return (table.note(type, TypeTable.BODIES) & FORCED) != 0;
        }

        void change(int type, int set, boolean isForced) {
            int answer = table.note(type, TypeTable.BODIES) >> ANSWER_AT << ANSWER_AT;
            table.setNote(type, TypeTable.BODIES, answer | (isForced ? FORCED : 0) | set);
        }

        /** The body that was found, as a set of one, empty if there is none yet. */
        int answer(int type) {
            return table.note(type, TypeTable.BODIES) >> ANSWER_AT;
        }

        void putAnswer(int type, int answer) {
            table.setNote(type, TypeTable.BODIES, answer << ANSWER_AT | set(type));
        }

        /** The base of an instance, NONE if it has none; UNKNOWN if it is not found yet. */
        int base(int type) {
            int note = table.note(type, TypeTable.BASE);
            int answer = table.note(type, TypeTable.BODIES) >> ANSWER_AT;
            if (answer == 0) return UNKNOWN;
            for (int i = 0; i < BLOCK && note < 0; i++) {
                if (answer == 1 << i) return blocks[i - 1 - note] - 2;
            }
            return answer == UNSURE_BIT ? NONE : note - 2;
        }

        /** An open instance without a link on which the bodies depend of the one that was looked at, NONE for none. */
        int unlinked() {
            return unlinked;
        }

        /** The least link of those on which they depend. */
        int leastLink() {
            return leastLink;
        }

        /**
         * Looks at an instance, and first at those on which its bodies depend, as far as can be told; at the first or
         * the last one of these first.
         */
        void explore(int first, boolean isBackwards) {
            isLastFirst = isBackwards;
            change(first, ANY, false);
            table.setNote(first, TypeTable.LINK, 1);
            int top = first;
            for (int i = 0; i < 4 * TypeTable.ROOM && top != NONE; i++) {
                int set = set(top) & lookAt(top, false);
                change(top, set, false);
                boolean isSettled = Integer.bitCount(set) == 1;
                if (isSettled || needed == NONE) {
                    if (isSettled) putBase(top, set);
                    int below = table.note(top, TypeTable.LINK) - 2;
                    table.setNote(top, TypeTable.LINK, 0);
                    top = below;
                } else if (neededBody != 0) {
                    putBase(needed, neededBody);
                } else {
                    change(needed, ANY, false);
                    table.setNote(needed, TypeTable.LINK, top + 2);
                    top = needed;
                }
            }
        }

        /** Finds the base of an instance for one of its bodies, which is told as a set of one. */
        void putBase(int type, int body) {
            table.makeRoom();
            int template = TypeTable.templateOf(table.head(type));
            int at = 0;
            while (at < BLOCK && body != 1 << at) {
                at++;
            }
            int told = at < BLOCK ? templates.base(template, at < Templates.EACH ? at : Bodies.ITSELF) : NONE;
            bindings.empty(OF_BASE);
            if (at < Templates.EACH) {
                bindings.matches(OF_BASE, templates.pattern(template, at, 0), table.first(type));
                bindings.matches(OF_BASE, templates.pattern(template, at, 1), table.second(type));
            } else {
                bindings.stand(OF_BASE, 0, table.first(type));
                bindings.stand(OF_BASE, 1, table.second(type));
            }
            int base = told == NONE ? NONE : bindings.replaced(OF_BASE, told);
            int note = table.note(type, TypeTable.BASE);
            if (note == 0) {
                boolean isOnlyOne = body == set(type);
                note = isOnlyOne ? base + 2 : newBlock();
                table.setNote(type, TypeTable.BASE, note);
            }
            if (note < 0 && at < BLOCK) blocks[at - 1 - note] = base + 2;
        }

        /** What is noted for a new block of bases; without room, it is as if there were none. */
        private int newBlock() {
            if (blockCount >= BLOCKS) return 1;
            int start = blockCount++ * BLOCK;
            if (start + BLOCK > blocks.length) {
                int more = Math.max(blocks.length * GROWTH, FEW_BLOCKS * BLOCK);
                blocks = Arrays.copyOf(blocks, Math.min(more, BLOCKS * BLOCK));
            }
            for (int i = 0; i < BLOCK; i++) {
                blocks[start + i] = 0;
            }
            return -1 - start;
        }

        /**
         * The bodies that an instance can have, for what is known of others; and what would tell more, unless in brief.
         */
        int lookAt(int type, boolean isInBrief) {
            isBrief = isInBrief;
            int template = TypeTable.templateOf(table.head(type));
            int sure = 0;
            int maybe = 0;
            for (int i = 0; i < templates.specialisations(template); i++) {
                beginFit();
                int set = Templates.place(template, i);
                bindings.empty(FITTING);
                boolean isMatching = bindings.matches(FITTING, templates.pattern(template, i, 0), table.first(type))
                        && bindings.matches(FITTING, templates.pattern(template, i, 1), table.second(type));
                int fit = isMatching ? YES : NO;
                for (int j = 0; j < PARAMETERS && fit != NO; j++) {
                    if (!templates.suits(set, j, table.head(bindings.type(FITTING, j)))) fit = NO;
                }
                for (int j = 0; j < PARAMETERS && fit != NO; j++) {
                    int classes = templates.wanted(set, j);
                    int leads = classes == 0 ? YES : leads(bindings.type(FITTING, j), classes, 0);
                    if (leads != YES) fit = leads;
                }
                if (fit == YES) sure |= 1 << i;
                if (fit == EITHER) maybe |= 1 << i;
                endFit(i);
            }
            return combined(template, sure, maybe);
        }

        private void beginFit() {
            needed = NONE;
            neededBody = 0;
            unlinked = NONE;
            leastLink = Integer.MAX_VALUE;
        }

        private void endFit(int specialisation) {
            allNeeded[specialisation] = needed;
            allNeededBodies[specialisation] = neededBody;
            allUnlinked[specialisation] = unlinked;
            allLeastLinks[specialisation] = leastLink;
        }

        /**
         * The bodies that can be chosen if some specialisations fit and others may; what would tell more is that of
         * these.
         */
        private int combined(int template, int sure, int maybe) {
            int found = 0;
            int mattering = 0;
            for (int more = 0; more < 1 << Templates.EACH; more++) {
                if ((more & ~maybe) != 0) continue;
                int chosen = templates.chosen(template, sure | more);
                found |= chosen;
                for (int i = 0; i < Templates.EACH; i++) {
                    int bit = 1 << i & maybe & ~more;
                    if (bit != 0 && templates.chosen(template, sure | more | bit) != chosen) mattering |= bit;
                }
            }
            beginFit();
            for (int i = 0; i < Templates.EACH; i++) {
                if ((mattering >> i & 1) == 0) continue;
                if (allNeeded[i] != NONE) need(allNeeded[i], allNeededBodies[i]);
                if (unlinked == NONE) unlinked = allUnlinked[i];
                leastLink = Math.min(leastLink, allLeastLinks[i]);
            }
            return found;
        }

        private void need(int type, int body) {
            if (needed != NONE && !isLastFirst) return;
            needed = type;
            neededBody = body;
        }

        /** Whether a type that was come to by so many steps leads to all these classes, for the bodies that can be. */
        private int leads(int type, int classes, int step) {
            int head = table.head(type);
            if (TypeTable.isClass(head)) return hierarchy.leads(head - TypeTable.CLASS, classes, step) ? YES : NO;
            if (!TypeTable.isInstance(head) || step >= Bodies.STEPS) return NO;
            int ends = templates.ends(TypeTable.templateOf(head), Bodies.STEPS - step);
            if (!hierarchy.oneLeads(ends, classes, step + 1)) return NO;
            int set = table.note(type, TypeTable.BODIES) & ANY;
            if (set == 0) {
                need(type, 0);
                return EITHER;
            }
            int note = table.note(type, TypeTable.BASE);
            int answer = (set & UNSURE_BIT) == 0 ? 0 : NO;
            for (int i = 0; i < BLOCK && (answer != EITHER || !isBrief); i++) {
                if ((set >> i & 1) == 0) continue;
                int base = note < 0 ? blocks[i - 1 - note] : note;
                boolean isNew = base > 1;
                for (int j = 0; j < i && note < 0; j++) {
                    if ((set >> j & 1) == 1 && blocks[j - 1 - note] == base) isNew = false;
                }
                if (base == 0) need(type, 1 << i);
                if (isNew) answer |= leads(base - 2, classes, step + 1);
                else if (base < 2) answer |= base == 0 ? EITHER : NO;
            }
            if (answer == EITHER && Integer.bitCount(set) > 1) {
                int link = table.note(type, TypeTable.LINK);
                if (link != 0) leastLink = Math.min(leastLink, link);
                else if (unlinked == NONE) unlinked = type;
            }
            return answer;
        }
    }

    /**
     * Chooses the bodies of instances that ask for one another in circles, so that each one is as the others have it.
     * Where just one body goes with that for an instance, this is it. The document is silent about several ones, of
     * which it is the first one in an order that is always the same, and that goes with all types that have a number;
     * and about none, where the bodies in the circle are not sure. What is chosen for the others is forgotten then, so
     * that an answer does not depend on what was asked for before.
     */
    private static final class Circles {
        /** How many instances can be gathered, and how often they are looked at. */
        private static final int MOST = 1 << 13;
        private static final int LOOKS = 1 << 20;
        private static final int FEW_LOOKS = 1 << 16;
        private static final int DONE = Integer.MAX_VALUE;

        private final TypeTable table;
        private final Possible possible;
        /** Those that were come to and are in no circle yet, each with the height of the one that led to it. */
        private int[] stack = new int[0];
        private int[] origins = new int[0];
        private int height;
        /** The circles one behind the other, each behind those on which it depends, and where each ends. */
        private int[] order = new int[0];
        private int[] ends = new int[0];
        private int gathered;
        private int circles;
        /** The sets that were changed, as they were before. */
        private int[] changed = new int[0];
        private int[] before = new int[0];
        private int changes;
        /** The instances for which a body is tried, the bodies left to try, and the changes ahead of that. */
        private int[] tried = new int[0];
        private int[] untried = new int[0];
        private int[] starts = new int[0];
        private int levels;
        private int looksLeft;

        Circles(TypeTable table, Possible possible) {
            this.table = table;
            this.possible = possible;
        }

        /**
         * The body of an instance that was explored and is not settled by that, as a set of one. If it could have
         * others, all types with a number are taken into account.
         */
        int settled(int type) {
            begin();
            int answer = 0;
            boolean hasOthers = true;
            for (int round = 0; round < 2 && hasOthers; round++) {
                boolean isWide = round == 1;
                for (int i = 0; i < table.numbered() && isWide; i++) {
                    int other = table.place(i);
                    boolean isClosed = TypeTable.isInstance(table.head(other)) && !table.isOpen(other);
                    if (isClosed && possible.set(other) == 0 && !table.isFull()) possible.explore(other, false);
                }
                gather(type, isWide);
                narrowForGood();
                gather(type, isWide);
                int forced = 0;
                int at = 0;
                for (int i = 0; i < LOOKS && at < circles; i++) {
                    boolean hasWay = findsWay(start(at), ends[at], LOOKS);
                    if (!hasWay) undo(forced);
                    hasWay = hasWay || at > 0 && findsWay(0, ends[at], FEW_LOOKS);
                    if (!hasWay) forced = force(at);
                    at = hasWay ? at + 1 : 0;
                }
                answer = possible.set(type);
                undo(0);
                int others = possible.set(type) & ~answer;
                hasOthers = others != 0 && forced == 0;
                if (hasOthers) {
                    change(type, others, false);
                    hasOthers = findsWay(0, gathered, FEW_LOOKS);
                    undo(0);
                }
            }
            return Integer.bitCount(answer) == 1 ? answer : Possible.UNSURE_BIT;
        }

        /** Circles are rare, so that the rows are made for the first one. */
        private void begin() {
            looksLeft = LOOKS;
            changes = 0;
            if (stack.length > 0) return;
            stack = new int[MOST];
            origins = new int[MOST];
            order = new int[MOST];
            ends = new int[MOST];
            changed = new int[MOST * Possible.CHANGES];
            before = new int[MOST * Possible.CHANGES];
            tried = new int[MOST];
            untried = new int[MOST];
            starts = new int[MOST];
        }

        /**
         * Gathers those that are open and on which an instance depends, circle by circle, and, if so told, those on
         * which the types with a number depend. A link tells the lowest height to which one leads, from 1 on.
         */
        private void gather(int type, boolean isWide) {
            height = 0;
            gathered = 0;
            circles = 0;
            for (int root = NONE; root < (isWide ? table.numbered() : 0); root++) {
                int at = enter(root == NONE ? type : table.place(root), NONE);
                for (int i = 0; i < 2 * MOST && at != NONE; i++) {
                    possible.lookAt(stack[at], false);
                    int next = enter(possible.unlinked(), at);
                    if (next == NONE) {
                        next = origins[at];
                        if (isFirstOfCircle(at)) putCircle(at);
                    }
                    at = next;
                }
            }
            for (int i = 0; i < gathered; i++) {
                table.setNote(order[i], TypeTable.LINK, 0);
            }
            for (int i = 0; i < height; i++) {
                table.setNote(stack[i], TypeTable.LINK, 0);
            }
        }

        /**
         * The height of an instance that is open and was not come to before; NONE for others, or if there is no room.
         */
        private int enter(int type, int origin) {
            boolean isNew = Integer.bitCount(possible.set(type)) > 1 && table.note(type, TypeTable.LINK) == 0;
            if (!isNew || gathered + height >= MOST) return NONE;
            stack[height] = type;
            origins[height] = origin;
            table.setNote(type, TypeTable.LINK, height + 1);
            return height++;
        }

        /** Whether nothing behind an instance leads to what was come to ahead of it. */
        private boolean isFirstOfCircle(int at) {
            int least = Math.min(table.note(stack[at], TypeTable.LINK), possible.leastLink());
            table.setNote(stack[at], TypeTable.LINK, least);
            return least == at + 1;
        }

        private void putCircle(int from) {
            int start = gathered;
            for (int i = from; i < height; i++) {
                table.setNote(stack[i], TypeTable.LINK, DONE);
                int at = gathered++;
                while (at > start && table.compare(order[at - 1], stack[i]) > 0) {
                    order[at] = order[at - 1];
                    at--;
                }
                order[at] = stack[i];
            }
            height = from;
            ends[circles++] = gathered;
        }

        private int start(int circle) {
            return circle > 0 ? ends[circle - 1] : 0;
        }

        /** Takes away the bodies that do not go with any of the others. */
        private void narrowForGood() {
            int unchanged = 0;
            int at = 0;
            for (int i = 0; i < LOOKS && unchanged < gathered; i++) {
                int old = possible.set(order[at]);
                int set = old & possible.lookAt(order[at], true);
                possible.change(order[at], set, false);
                unchanged = set == old ? unchanged + 1 : 0;
                at = at + 1 < gathered ? at + 1 : 0;
            }
        }

        /** Leaves the bodies of a circle unsure, as there is no way; tells how many changes there are then. */
        private int force(int circle) {
            for (int i = start(circle); i < ends[circle]; i++) {
                change(order[i], Possible.UNSURE_BIT, true);
            }
            return changes;
        }

        /**
         * Chooses bodies from one place of the order to another one, so that they go with one another, by trying, and
         * by taking away what does not go with those chosen. Changes nothing if there is no way.
         */
        private boolean findsWay(int from, int to, int most) {
            int atFirst = changes;
            int least = Math.max(0, looksLeft - most);
            int unchanged = 0;
            int at = from;
            levels = 0;
            for (int i = 0; i < LOOKS && looksLeft > least; i++) {
                looksLeft--;
                if (unchanged >= to - from) {
                    int open = firstOpen(from, to);
                    if (open == NONE) return true;
                    beginLevel(open);
                    change(open, nextBody(), false);
                    unchanged = 0;
                }
                int type = order[at];
                int old = possible.set(type);
                int set = possible.isForced(type) ? old : old & possible.lookAt(type, true);
                if (set == 0) {
                    if (!hasUntried()) break;
                    undo(starts[levels - 1]);
                    change(tried[levels - 1], nextBody(), false);
                } else if (set != old) {
                    change(type, set, false);
                }
                unchanged = set == old ? unchanged + 1 : 0;
                at = at + 1 < to ? at + 1 : from;
            }
            undo(atFirst);
            return false;
        }

        private int firstOpen(int from, int to) {
            for (int i = from; i < to; i++) {
                if (Integer.bitCount(possible.set(order[i])) > 1) return order[i];
            }
            return NONE;
        }

        private void beginLevel(int type) {
            tried[levels] = type;
            untried[levels] = possible.set(type);
            starts[levels] = changes;
            levels++;
        }

        /** Goes back to the last instance for which there is a body left to try; tells whether there is one. */
        private boolean hasUntried() {
            while (levels > 0 && untried[levels - 1] == 0) {
                levels--;
            }
            return levels > 0;
        }

        /** The next body to try, that of the template itself first, no sure body last. */
        private int nextBody() {
            int left = untried[levels - 1];
            int body = (left & Possible.ITSELF_BIT) != 0 ? Possible.ITSELF_BIT : left & -left;
            untried[levels - 1] = left & ~body;
            return body;
        }

        private void change(int type, int set, boolean isForced) {
            if (changes >= changed.length) return;
            changed[changes] = type;
            before[changes] = possible.set(type);
            changes++;
            possible.change(type, set, isForced);
        }

        /** Gives back what was changed behind so many changes. */
        private void undo(int left) {
            while (changes > left) {
                changes--;
                possible.change(changed[changes], before[changes], false);
            }
        }
    }

    /** Which body and base an instance has, and what it leads to. */
    private static final class Bodies {
        static final int ITSELF = -1;
        static final int UNSURE = -2;
        static final int STEPS = 6;
        private static final int RETRIES = 3;

        private final TypeTable table;
        private final Hierarchy hierarchy;
        private final Templates templates;
        private final Possible possible;
        private final Circles circles;
        private int needed;
        private int retries;

        Bodies(TypeTable table, Hierarchy hierarchy, Templates templates) {
            this.table = table;
            this.hierarchy = hierarchy;
            this.templates = templates;
            possible = new Possible(table, hierarchy, templates);
            circles = new Circles(table, possible);
        }

        /** To be called ahead of each search, as templates or classes may have changed. */
        void startAnew() {
            possible.startAnew();
            templates.findEnds();
            needed = NONE;
            retries = 0;
        }

        /** Whether an instance is to be found first for what was asked for. */
        boolean needsOne() {
            return needed != NONE;
        }

        /** The instance that is to be found first, NONE if there is none; it is forgotten then. */
        int takeNeeded() {
            int type = needed;
            needed = NONE;
            return type;
        }

        /**
         * Finds the body and the base of an instance. There may be more types than there is room for, though they do
         * not matter: then it begins with others, and if it is so once more, it leaves the room to what comes later.
         */
        void find(int type) {
            int room = table.count();
            boolean isAgain = false;
            for (int i = 0; i < 2 && possible.set(type) == 0; i++) {
                possible.explore(type, isAgain);
                if (table.isFull() && i == 0 && retries < RETRIES) {
                    retries++;
                    isAgain = true;
                    possible.forget(room);
                }
            }
            int set = possible.set(type);
            int answer = Integer.bitCount(set) == 1 ? set : circles.settled(type);
            if (table.isFull() && isAgain) {
                possible.forget(room);
                possible.change(type, answer, false);
            }
            possible.putAnswer(type, answer);
            possible.putBase(type, answer);
        }

        /** The specialisation that an instance that was found has as its body, ITSELF or UNSURE. */
        int body(int type) {
            int answer = possible.answer(type);
            for (int i = 0; i < Templates.EACH; i++) {
                if (answer == 1 << i) return i;
            }
            return answer == Possible.ITSELF_BIT ? ITSELF : UNSURE;
        }

        /** The base of an instance, NONE if it has none, or if it is needed to find it first. */
        int base(int type) {
            int base = possible.base(type);
            if (base == Possible.UNKNOWN && needed == NONE) needed = type;
            return base == Possible.UNKNOWN ? NONE : base;
        }

        /** Whether the constraints of a set hold for what the parameters stand for. */
        boolean areMet(Bindings standing, int frame, int set) {
            for (int i = 0; i < PARAMETERS; i++) {
                int type = standing.type(frame, i);
                if (!templates.suits(set, i, table.head(type))) return false;
                for (int cls = 0; cls < hierarchy.count(); cls++) {
                    boolean isWanted = (templates.wanted(set, i) >> cls & 1) == 1;
                    if (isWanted && steps(type, NONE, TypeTable.CLASS + cls) < 0) return false;
                }
            }
            return true;
        }

        /**
         * The steps from a type to a base, 0 to itself; NONE if it is no base, SEVERAL if there are several parts. For
         * a class what stands ahead in its type is enough.
         */
        int steps(int type, int target, int targetHead) {
            int at = type;
            for (int step = 0; step <= STEPS && at != NONE; step++) {
                if (at == target) return step;
                int head = table.head(at);
                if (TypeTable.isClass(head)) return classSteps(head, targetHead, step);
                if (!TypeTable.isInstance(head) || step == STEPS) return NONE;
                int base = possible.base(at);
                if (base == Possible.UNKNOWN && needed == NONE) needed = at;
                at = base == Possible.UNKNOWN ? NONE : base;
            }
            return NONE;
        }

        /** The same from a class that was come to by some steps. */
        private int classSteps(int head, int target, int step) {
            if (!TypeTable.isClass(target)) return NONE;
            int cls = head - TypeTable.CLASS;
            int base = target - TypeTable.CLASS;
            int steps = hierarchy.steps(cls, base);
            if (steps == NONE || hierarchy.leads(cls, 1 << base, step)) return steps == NONE ? NONE : step + steps;
            return step == 0 ? SEVERAL : NONE;
        }
    }

    /** The namespaces and the functions in them. */
    private static final class Functions {
        static final int NAMESPACES = 6;
        static final int FUNCTIONS = 24;
        static final int EACH = 3;

        private final TypeTable table;
        private int namespaces = 1;
        private final int[] outers = new int[NAMESPACES];
        private int count;
        private final int[] places = new int[FUNCTIONS];
        private final int[] names = new int[FUNCTIONS];
        private final boolean[] areDeleted = new boolean[FUNCTIONS];
        private final int[] counts = new int[FUNCTIONS];
        private final char[] modes = new char[FUNCTIONS * EACH];
        private final int[] told = new int[FUNCTIONS * EACH];

        Functions(TypeTable table) {
            this.table = table;
            outers[0] = NONE;
        }

        static int constraintSet(int function) {
            return Templates.TEMPLATES * Templates.EACH + function;
        }

        int namespaces() {
            return namespaces;
        }

        /** The namespace in which one is, NONE for the first one. */
        int outer(int namespace) {
            return outers[namespace];
        }

        int putNamespace(int outer) {
            outers[namespaces] = outer;
            return namespaces++;
        }

        int count() {
            return count;
        }

        int put(int namespace, int name, boolean isDeleted) {
            places[count] = namespace;
            names[count] = name;
            areDeleted[count] = isDeleted;
            return count++;
        }

        int putParameter(int function, char mode, int type) {
            int place = function * EACH + counts[function];
            modes[place] = mode;
            told[place] = type;
            return ++counts[function];
        }

        boolean isNamed(int function, int namespace, int name) {
            return places[function] == namespace && names[function] == name;
        }

        boolean isDeleted(int function) {
            return areDeleted[function];
        }

        int parameters(int function) {
            return counts[function];
        }

        char mode(int function, int at) {
            return modes[function * EACH + at];
        }

        int told(int function, int at) {
            return told[function * EACH + at];
        }

        /** All types as told, three places a function. */
        int[] allTold() {
            return told;
        }

        boolean isOfTemplate(int function) {
            for (int i = 0; i < counts[function]; i++) {
                if (table.isOpen(table.place(told(function, i)))) return true;
            }
            return false;
        }
    }

    /** The arguments of a call, and how they come to the parameters of a function. */
    private static final class Call {
        /** The frames of bindings: what is deduced, what is tried, what a base gave. */
        private static final int DEDUCED = 0;
        private static final int TRIED = 1;
        private static final int OF_BASE = 2;

        private static final int RANK = 1000;
        private static final int TO_TRUTH = 99;
        /** Far more than a function can ask for. */
        static final int MOST_NEEDED = 10_000;

        private final TypeTable table;
        private final Hierarchy hierarchy;
        private final Bodies bodies;
        private final Functions functions;
        private final Bindings bindings;
        private int count;
        private final int[] arguments = new int[Functions.EACH];
        private final char[] categories = new char[Functions.EACH];
        /** The types of the parameters of the function that was looked at last. */
        private final int[] taken = new int[Functions.EACH];
        private final int[] ways = new int[Functions.FUNCTIONS * Functions.EACH];
        private final boolean[] areSure = new boolean[Functions.FUNCTIONS * Functions.EACH];
        private final int[] line = new int[Bodies.STEPS];

        Call(TypeTable table, Hierarchy hierarchy, Bodies bodies, Functions functions) {
            this.table = table;
            this.hierarchy = hierarchy;
            this.bodies = bodies;
            this.functions = functions;
            bindings = new Bindings(table, OF_BASE + 1);
            bindings.empty(DEDUCED);
        }

        int count() {
            return count;
        }

        /** The type of an argument. */
        int argument(int at) {
            return table.place(arguments[at]);
        }

        int put(int type, char category) {
            arguments[count] = type;
            categories[count] = category;
            return ++count;
        }

        int clear() {
            int before = count;
            count = 0;
            return before;
        }

        /** 1000 times the rank and the grade. */
        int wayOf(int function, int argument) {
            return ways[function * Functions.EACH + argument];
        }

        boolean isSure(int function, int argument) {
            return areSure[function * Functions.EACH + argument];
        }

        /** What was deduced for a parameter in the function that was looked at last, NONE for nothing. */
        int bound(int parameter) {
            return bindings.type(DEDUCED, parameter);
        }

        /** Finds how the arguments come to the parameters of a function, and tells whether it is viable. */
        boolean settles(int function) {
            bodies.startAnew();
            boolean isViable = tries(function);
            for (int i = 0; i < MOST_NEEDED && bodies.needsOne(); i++) {
                bodies.find(bodies.takeNeeded());
                isViable = tries(function);
            }
            return isViable;
        }

        /** The same with the instances that are found so far; if one is needed, it is to be asked for again then. */
        private boolean tries(int function) {
            bindings.empty(DEDUCED);
            if (functions.parameters(function) != count) return false;
            for (int i = 0; i < count; i++) {
                int told = functions.told(function, i);
                int type = table.place(told);
                taken[i] = table.isOpen(type) ? matched(told, argument(i)) : type;
                if (taken[i] == NONE) return false;
            }
            if (!bodies.areMet(bindings, DEDUCED, Functions.constraintSet(function))) return false;
            for (int i = 0; i < count; i++) {
                int way = directWay(function, i);
                int conversions = 1;
                boolean isMadeFor = way == NONE && functions.mode(function, i) != 'r';
                if (isMadeFor) way = valueWay(argument(i), taken[i]);
                if (isMadeFor && way == NONE) {
                    conversions = conversions(argument(i), taken[i]);
                    if (conversions > 0) way = 3 * RANK;
                }
                if (way == NONE) return false;
                ways[function * Functions.EACH + i] = way;
                areSure[function * Functions.EACH + i] = conversions == 1;
            }
            return true;
        }

        /** The type that a pattern takes: that of the argument, or the only one of its bases that matches. */
        private int matched(int pattern, int type) {
            if (triesPattern(pattern, type)) {
                bindings.copy(TRIED, DEDUCED);
                return type;
            }
            if (!TypeTable.isInstance(table.token(pattern, 0))) return NONE;
            int only = NONE;
            int base = type;
            for (int step = 0; step < Bodies.STEPS && TypeTable.isInstance(table.head(base)); step++) {
                base = bodies.base(base);
                if (base == NONE || isInLine(base, step)) break;
                line[step] = base;
                if (triesPattern(pattern, base)) {
                    if (only != NONE) return NONE;
                    only = base;
                    bindings.copy(TRIED, OF_BASE);
                }
            }
            if (only != NONE) bindings.copy(OF_BASE, DEDUCED);
            return only;
        }

        private boolean isInLine(int base, int length) {
            for (int i = 0; i < length; i++) {
                if (line[i] == base) return true;
            }
            return false;
        }

        private boolean triesPattern(int pattern, int type) {
            bindings.copy(DEDUCED, TRIED);
            return bindings.matches(TRIED, pattern, type);
        }

        /** How an argument comes without a value that is made for it. */
        private int directWay(int function, int at) {
            char category = categories[at];
            char mode = functions.mode(function, at);
            boolean isGoing = category == 'r';
            if (mode == 'r' && category != 'l') return NONE;
            boolean isAlone = TypeTable.isParameter(table.token(functions.told(function, at), 0));
            if (mode == 'm' && !isGoing && !isAlone) return NONE;
            int steps = bodies.steps(argument(at), taken[at], table.head(taken[at]));
            if (steps < 0) return NONE;
            boolean isWorse = mode == 'm' ? !isGoing : mode != 'r' && category != 'k';
            return (steps == 0 ? 0 : 2 * RANK + 2 * steps) + (isWorse ? 1 : 0);
        }

        /** How a type comes to another one by a value that is made, but for the conversions of classes. */
        private int valueWay(int from, int to) {
            int head = table.head(from);
            int target = table.head(to);
            if (TypeTable.isBasic(head)) {
                if (!TypeTable.isBasic(target) || head == target) return NONE;
                boolean isGrowing = head == TypeTable.TRUTH || head == TypeTable.LETTER;
                return isGrowing && target == TypeTable.WHOLE ? RANK : 2 * RANK;
            }
            if (head != TypeTable.POINTER) return NONE;
            if (target == TypeTable.TRUTH) return 2 * RANK + TO_TRUTH;
            if (target != TypeTable.POINTER) return NONE;
            int steps = bodies.steps(table.first(from), table.first(to), table.head(table.first(to)));
            return steps > 0 ? 2 * RANK + 2 * steps : NONE;
        }

        /** The number of ways by a conversion of a class. */
        private int conversions(int from, int to) {
            int head = table.head(from);
            int target = table.head(to);
            int ways = 0;
            if (TypeTable.isClass(target)) {
                int cls = target - TypeTable.CLASS;
                for (int i = 0; i < hierarchy.conversions(cls, true); i++) {
                    int told = table.place(hierarchy.conversionAt(cls, true, i));
                    if (told == from || valueWay(from, told) != NONE) ways++;
                }
            }
            if (TypeTable.isClass(head)) {
                int cls = head - TypeTable.CLASS;
                for (int i = 0; i < hierarchy.conversions(cls, false); i++) {
                    int told = table.place(hierarchy.conversionAt(cls, false, i));
                    if (told == to || valueWay(told, to) != NONE) ways++;
                }
            }
            return ways;
        }
    }

    /** The candidates of a call, and which of them is chosen. */
    private static final class Choice {
        private static final int NO_VIABLE = -1;
        private static final int NO_BEST = -2;
        private static final int DELETED = -3;
        private static final int NOT_SURE = -4;
        private static final int MOST_BASES = 100;

        private final TypeTable table;
        private final Hierarchy hierarchy;
        private final Templates templates;
        private final Bodies bodies;
        private final Functions functions;
        private final Call call;
        private final boolean[] areIn = new boolean[Functions.FUNCTIONS];
        /** The walk through the types on which the candidates depend. */
        private int walkedTo;
        private int last;
        private int classesBehind;
        private boolean areBasesFirst;
        private int basesInLine;

        Choice(TypeTable table, Hierarchy hierarchy, Templates templates, Bodies bodies, Functions functions,
                Call call) {
            this.table = table;
            this.hierarchy = hierarchy;
            this.templates = templates;
            this.bodies = bodies;
            this.functions = functions;
            this.call = call;
        }

        int count() {
            int sum = 0;
            for (int i = 0; i < functions.count(); i++) {
                if (areIn[i]) sum++;
            }
            return sum;
        }

        /** Finds the candidates of the call of a name. */
        void gather(int namespace, int name) {
            for (int i = 0; i < Functions.FUNCTIONS; i++) {
                areIn[i] = false;
            }
            int at = namespace;
            for (int i = 0; i < Functions.NAMESPACES && at != NONE; i++) {
                at = takeFrom(at, name) ? NONE : functions.outer(at);
            }
            for (int i = 0; i < call.count(); i++) {
                boolean isFull = true;
                for (int turn = 0; turn < 2 && isFull; turn++) {
                    bodies.startAnew();
                    beginWalk(call.argument(i), templates.classesBehind(call.argument(i)), turn == 0);
                    for (int j = 0; j < TypeTable.ROOM && needsBase(name); j++) {
                        bodies.find(bodies.takeNeeded());
                    }
                    isFull = table.isFull();
                }
            }
        }

        private boolean takeFrom(int namespace, int name) {
            boolean hasSome = false;
            for (int i = 0; i < functions.count(); i++) {
                if (functions.isNamed(i, namespace, name)) {
                    areIn[i] = true;
                    hasSome = true;
                }
            }
            return hasSome;
        }

        /** Whether a function is missing that may be found by way of these classes. */
        private boolean lacks(int name, int classes) {
            for (int i = 0; i < functions.count(); i++) {
                for (int cls = 0; cls < hierarchy.count() && !areIn[i]; cls++) {
                    boolean isOne = (classes >> cls & 1) == 1;
                    if (isOne && functions.isNamed(i, hierarchy.namespace(cls), name)) return true;
                }
            }
            return false;
        }

        private void beginWalk(int type, int classes, boolean doBasesGoFirst) {
            walkedTo = type;
            last = type;
            table.setNote(type, TypeTable.QUEUE, 1);
            classesBehind = classes;
            areBasesFirst = doBasesGoFirst;
            basesInLine = 0;
        }

        /**
         * Goes through a type, the types in it, and those that are bases of these, each of which is queued once, until
         * the base of one is needed. There may be more than there is room for, so that it ends as soon as nothing else
         * can be found; and the bases of a type are either looked at ahead of all others, or when it is their turn.
         */
        private boolean needsBase(int name) {
            for (int i = 0; i < TypeTable.ROOM && walkedTo != NONE && lacks(name, classesBehind); i++) {
                int head = table.head(walkedTo);
                int base = TypeTable.isInstance(head) ? bodies.base(walkedTo) : NONE;
                if (bodies.needsOne()) return true;
                if (TypeTable.isClass(head)) takeFromClass(head - TypeTable.CLASS, name);
                enqueue(table.first(walkedTo));
                enqueue(table.second(walkedTo));
                boolean isNext = areBasesFirst && isNew(base) && basesInLine < MOST_BASES;
                if (isNext) putBehind(walkedTo, base);
                else enqueue(base);
                basesInLine = isNext ? basesInLine + 1 : 0;
                walkedTo = table.note(walkedTo, TypeTable.QUEUE) - 2;
            }
            return false;
        }

        private void putBehind(int type, int next) {
            table.setNote(next, TypeTable.QUEUE, table.note(type, TypeTable.QUEUE));
            table.setNote(type, TypeTable.QUEUE, next + 2);
            if (type == last) last = next;
        }

        private boolean isNew(int type) {
            return type != NONE && table.note(type, TypeTable.QUEUE) == 0;
        }

        private void enqueue(int type) {
            if (isNew(type)) putBehind(last, type);
        }

        private void takeFromClass(int cls, int name) {
            for (int base = 0; base <= cls; base++) {
                if (hierarchy.steps(cls, base) != NONE) takeFrom(hierarchy.namespace(base), name);
            }
        }

        boolean has(int function) {
            return areIn[function];
        }

        void drop(int function) {
            areIn[function] = false;
        }

        /** The best one by a walk for it and a walk against it. */
        int bestByWalks() {
            int best = NO_VIABLE;
            for (int i = 0; i < functions.count(); i++) {
                if (areIn[i] && (best == NO_VIABLE || isBetter(i, best))) best = i;
            }
            for (int i = 0; i < functions.count() && best >= 0; i++) {
                if (areIn[i] && i != best && !isBetter(best, i)) best = NO_BEST;
            }
            return best;
        }

        /** The best one by comparing each two. */
        int bestByPairs() {
            int answer = NO_VIABLE;
            for (int own = 0; own < functions.count(); own++) {
                if (!areIn[own]) continue;
                boolean isBest = true;
                for (int other = 0; other < functions.count(); other++) {
                    if (areIn[other] && other != own && !isBetter(own, other)) isBest = false;
                }
                if (isBest) return own;
                answer = NO_BEST;
            }
            return answer;
        }

        int answer(int best) {
            if (best < 0) return best;
            if (functions.isDeleted(best)) return DELETED;
            for (int i = 0; i < call.count(); i++) {
                if (!call.isSure(best, i)) return NOT_SURE;
            }
            return best;
        }

        private boolean isBetter(int own, int other) {
            boolean isAlike = true;
            for (int i = 0; i < call.count(); i++) {
                int difference = call.wayOf(own, i) - call.wayOf(other, i);
                if (difference > 0) return false;
                if (difference < 0) isAlike = false;
            }
            if (!isAlike) return true;
            boolean isOwnTemplate = functions.isOfTemplate(own);
            boolean isOtherTemplate = functions.isOfTemplate(other);
            if (!isOwnTemplate || !isOtherTemplate) return !isOwnTemplate && isOtherTemplate;
            return templates.isMoreSpecial(functions.allTold(), own * Functions.EACH, other * Functions.EACH,
                    call.count(), Functions.constraintSet(own), Functions.constraintSet(other));
        }
    }

    /**
     * The methods that classes override, what their bodies do, the objects and blocks, and the trace of what is made
     * and taken down.
     */
    private static final class Making {
        static final int TIMES = 99;
        static final int BLOCKS = 10;
        static final int ARRAY = 5;
        static final int LIVING = 40;
        private static final int TRACE = 600;
        private static final int TEMPORARY = -1;

        private final Hierarchy hierarchy;
        private final boolean[] doOverride = new boolean[Hierarchy.CLASSES * METHODS];
        /** For each class and method, the class whose method it is, NONE or SEVERAL. */
        private final int[] owners = new int[Hierarchy.CLASSES * METHODS];
        private final int[] spoken = new int[Hierarchy.CLASSES];
        private final boolean[] doDelegate = new boolean[Hierarchy.CLASSES];
        /** How many times a class is made until it throws, 0 if it does not. */
        private final int[] times = new int[Hierarchy.CLASSES];
        private final boolean[] areTries = new boolean[BLOCKS];
        private int blocks = 1;
        private int living;
        private final int[] livingClasses = new int[LIVING];
        private final long[] livingNumbers = new long[LIVING];
        private final int[] livingBlocks = new int[LIVING];
        private int traced;
        private final char[] kinds = new char[TRACE];
        private final int[] classes = new int[TRACE];
        private final int[] objects = new int[TRACE];
        private long next;
        private long madeParts;
        private long takenParts;

        Making(Hierarchy hierarchy) {
            this.hierarchy = hierarchy;
            for (int i = 0; i < Hierarchy.CLASSES; i++) {
                spoken[i] = NONE;
            }
            for (int i = 0; i < Hierarchy.CLASSES * METHODS; i++) {
                owners[i] = NONE;
            }
        }

        boolean changeOverriding(int cls, int method, boolean does) {
            boolean before = doOverride[cls * METHODS + method];
            doOverride[cls * METHODS + method] = does;
            findOwners();
            return before;
        }

        int changeBody(int cls, int method, boolean delegates) {
            int before = spoken[cls];
            spoken[cls] = method;
            doDelegate[cls] = delegates;
            return before;
        }

        /** The class whose method it is for a class, NONE or SEVERAL. */
        int ownerOf(int cls, int method) {
            return owners[cls * METHODS + method];
        }

        /** To be called whenever a class gets a base, too. */
        void findOwners() {
            for (int cls = 0; cls < hierarchy.count(); cls++) {
                for (int method = 0; method < METHODS; method++) {
                    owners[cls * METHODS + method] = foundOwner(cls, method);
                }
            }
        }

        private int foundOwner(int cls, int method) {
            if (doOverride[cls * METHODS + method]) return cls;
            int owner = NONE;
            for (int base = 0; base < cls; base++) {
                boolean isOne = hierarchy.isBase(base, cls) && doOverride[base * METHODS + method];
                if (isOne && !isBehindAnother(base, cls, method)) {
                    if (owner != NONE) return SEVERAL;
                    owner = base;
                }
            }
            return owner;
        }

        private boolean isBehindAnother(int base, int cls, int method) {
            for (int other = base + 1; other < cls; other++) {
                boolean isOne = hierarchy.isBase(other, cls) && doOverride[other * METHODS + method];
                if (isOne && hierarchy.isBase(base, other)) return true;
            }
            return false;
        }

        boolean hasBegun() {
            return next > 0;
        }

        int blocks() {
            return blocks;
        }

        int livingCount() {
            return living;
        }

        int traced() {
            return traced;
        }

        char kindAt(int index) {
            return kinds[index];
        }

        int classAt(int index) {
            return classes[index];
        }

        int objectAt(int index) {
            return objects[index];
        }

        long madeParts() {
            return madeParts;
        }

        long takenParts() {
            return takenParts;
        }

        int changeTimes(int cls, int howMany) {
            int before = times[cls];
            times[cls] = howMany;
            return before;
        }

        int openBlock(boolean isTry) {
            areTries[blocks] = isTry;
            return ++blocks;
        }

        int closeBlock() {
            takeTemporaries();
            blocks--;
            takeDownFrom(blocks);
            return blocks;
        }

        char makeObjects(int cls, boolean isTemporary, int count) {
            int before = living;
            for (int i = 0; i < count; i++) {
                long number = next;
                if (!makeWhole(cls)) {
                    takeDownArray(before);
                    return unwind();
                }
                livingClasses[living] = cls;
                livingNumbers[living] = number;
                livingBlocks[living] = isTemporary ? TEMPORARY : blocks - 1;
                living++;
            }
            return 'm';
        }

        int takeTemporaries() {
            int taken = 0;
            for (int i = living - 1; i >= 0; i--) {
                if (livingBlocks[i] == TEMPORARY) {
                    takeWhole(livingClasses[i], livingNumbers[i]);
                    closeGap(i);
                    taken++;
                }
            }
            return taken;
        }

        /** Takes down what a throw leaves behind, and tells whether a try caught it. */
        char unwind() {
            takeTemporaries();
            while (blocks > 1) {
                blocks--;
                takeDownFrom(blocks);
                if (areTries[blocks]) return 'c';
            }
            takeDownFrom(0);
            return 'u';
        }

        /** Takes down the objects of a block and of those in it; there are no temporaries among them. */
        private void takeDownFrom(int block) {
            while (living > 0 && livingBlocks[living - 1] >= block) {
                living--;
                takeWhole(livingClasses[living], livingNumbers[living]);
            }
        }

        private void takeDownArray(int before) {
            while (living > before) {
                living--;
                takeWhole(livingClasses[living], livingNumbers[living]);
            }
        }

        private void closeGap(int at) {
            living--;
            for (int i = at; i < living; i++) {
                livingClasses[i] = livingClasses[i + 1];
                livingNumbers[i] = livingNumbers[i + 1];
                livingBlocks[i] = livingBlocks[i + 1];
            }
        }

        private boolean makeWhole(int cls) {
            if (isQuiet(cls, true)) return makeQuietly(cls, true);
            long number = next++;
            int virtuals = hierarchy.virtuals(cls);
            for (int i = 0; i < virtuals; i++) {
                long before = next;
                if (!makePart(hierarchy.virtualAt(cls, i), number)) {
                    takeVirtuals(cls, number, before, i);
                    return false;
                }
            }
            long before = next;
            if (makePart(cls, number)) return true;
            takeVirtuals(cls, number, before, virtuals);
            return false;
        }

        private boolean makePart(int cls, long number) {
            if (isQuiet(cls, false)) return makeQuietly(cls, false);
            int bases = hierarchy.bases(cls);
            for (int i = 0; i < bases; i++) {
                long before = next;
                if (!hierarchy.isVirtualAt(cls, i) && !makePart(hierarchy.baseAt(cls, i), number)) {
                    takeInner(cls, number, before, 0, i);
                    return false;
                }
            }
            int members = hierarchy.members(cls);
            for (int i = 0; i < members; i++) {
                long before = next;
                if (!makeWhole(hierarchy.memberAt(cls, i))) {
                    takeInner(cls, number, before, i, bases);
                    return false;
                }
            }
            if (makeBody(cls, number)) return true;
            takeInner(cls, number, next, members, bases);
            return false;
        }

        private boolean makeBody(int cls, long number) {
            boolean isThrowing = times[cls] == 1;
            if (times[cls] > 0) times[cls]--;
            boolean delegates = doDelegate[cls];
            if (isThrowing && !delegates) {
                note('X', cls, number);
                return false;
            }
            note('C', cls, number);
            speak(cls, number);
            madeParts++;
            if (delegates) note(isThrowing ? 'X' : 'G', cls, number);
            if (isThrowing) takeBody(cls, number);
            return !isThrowing;
        }

        private void takeBody(int cls, long number) {
            speak(cls, number);
            note('D', cls, number);
            takenParts++;
        }

        private void takeWhole(int cls, long number) {
            long end = number + hierarchy.wholeObjects(cls);
            takePart(cls, number, end);
            takeVirtuals(cls, number, end - hierarchy.partObjects(cls), hierarchy.virtuals(cls));
        }

        /** Takes down the first so many virtual bases; the members in them have the numbers ahead of the end. */
        private void takeVirtuals(int cls, long number, long end, int count) {
            long left = end;
            for (int i = count - 1; i >= 0; i--) {
                int base = hierarchy.virtualAt(cls, i);
                takePart(base, number, left);
                left -= hierarchy.partObjects(base);
            }
        }

        private void takePart(int cls, long number, long end) {
            if (traced >= TRACE) {
                for (int i = 0; i <= cls; i++) {
                    takenParts += hierarchy.partBodies(cls, i);
                }
                return;
            }
            takeBody(cls, number);
            takeInner(cls, number, end, hierarchy.members(cls), hierarchy.bases(cls));
        }

        /** Takes down the first so many members, and the first so many own bases. */
        private void takeInner(int cls, long number, long end, int members, int bases) {
            long left = end;
            for (int i = members - 1; i >= 0; i--) {
                int member = hierarchy.memberAt(cls, i);
                left -= hierarchy.wholeObjects(member);
                takeWhole(member, left);
            }
            for (int i = bases - 1; i >= 0; i--) {
                if (hierarchy.isVirtualAt(cls, i)) continue;
                int base = hierarchy.baseAt(cls, i);
                takePart(base, number, left);
                left -= hierarchy.partObjects(base);
            }
        }

        /** Whether nothing of a making is traced, and none of it throws: as it may be very long, it is only counted. */
        private boolean isQuiet(int cls, boolean isWhole) {
            if (traced < TRACE) return false;
            for (int i = 0; i <= cls; i++) {
                if (times[i] > 0 && bodiesOf(i, cls, isWhole) >= times[i]) return false;
            }
            return true;
        }

        private boolean makeQuietly(int cls, boolean isWhole) {
            for (int i = 0; i <= cls; i++) {
                long bodies = bodiesOf(i, cls, isWhole);
                madeParts += bodies;
                if (times[i] > 0) times[i] -= (int) bodies;
            }
            next += isWhole ? hierarchy.wholeObjects(cls) : hierarchy.partObjects(cls);
            return true;
        }

        private long bodiesOf(int which, int cls, boolean isWhole) {
            return isWhole ? hierarchy.wholeBodies(cls, which) : hierarchy.partBodies(cls, which);
        }

        private void speak(int cls, long number) {
            int method = spoken[cls];
            if (method != NONE) note('V', ownerOf(cls, method), number);
        }

        private void note(char kind, int cls, long number) {
            if (traced >= TRACE) return;
            kinds[traced] = kind;
            classes[traced] = cls;
            objects[traced] = (int) number;
            traced++;
        }
    }
}
