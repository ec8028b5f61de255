import java.util.NoSuchElementException;

/**
 * A stack machine with ints, arrays and routines, and a verifier that works out for every
 * instruction of which types stack and locals are there. README.md tells how it is used.
 */
public final class FrameVerifier {
    private static final int MOST_INSTRUCTIONS = 100;
    private static final int ROUTINES = 4;
    private static final int MOST_PARAMETERS = 3;
    private static final int MOST_KINDS = 15;
    private static final int RESULT_BIT = 3;
    private static final int LOCALS = 6;
    private static final int MOST_HEIGHT = 6;
    private static final int SLOTS = LOCALS + MOST_HEIGHT;
    /** The first frame, and those of seven calls inside one another. */
    private static final int MOST_FRAMES = 8;
    private static final int MOST_LENGTH = 12;
    private static final int MOST_ELEMENTS = 30;
    private static final int MOST_STEPS = 200;

    private static final int EMPTY = 0;
    private static final int INT = 1;
    private static final int REFERENCE = 2;
    private static final int ANY = 3;

    private static final int NO_STATE = -1;
    private static final int TORN = -2;
    /** The answer where nothing is there. */
    private static final int NOTHING = -1;
    /** Stands for the address in what verify answers when a routine can't even begin. */
    private static final int NO_BEGINNING = 999;
    /** The value of a reference to no array. */
    private static final int NO_ARRAY = 0;

    private static final Op[] OPS = Op.values();

    private final Code code;
    private final Flow flow;
    private final Machine machine;
    private boolean verified;

    public FrameVerifier() {
        code = new Code();
        flow = new Flow(code);
        machine = new Machine(code);
        verified = false;
    }

    public int add(int op, int n) throws IllegalStateException {
        if (code.count >= MOST_INSTRUCTIONS) {
            throw new IllegalStateException();
        }
        forgetVerification();
        return code.append(op, n);
    }

    public boolean routine(int r, int start, int parameters, int kinds) {
        if (r < 0 || r >= ROUTINES || parameters < 0 || parameters > MOST_PARAMETERS
                || kinds < 0 || kinds > MOST_KINDS) {
            return false;
        }
        forgetVerification();
        code.tell(r, start, parameters, kinds);
        return true;
    }

    public int verify() {
        verified = false;
        if (!code.hasRoutine(0)) {
            return 1000 + NO_BEGINNING;
        }
        for (int r = 0; r < ROUTINES; r++) {
            if (code.hasRoutine(r)) {
                flow.workOut(r);
                int unfit = flow.leastUnfit(r);
                if (unfit != NOTHING) {
                    return 1000 * (1 + r) + unfit;
                }
            }
        }
        verified = true;
        return 0;
    }

    public boolean isVerified() {
        return verified;
    }

    public int type(int r, int address, int slot) {
        if (!code.hasRoutine(r) || !code.hasInstruction(address) || slot < 0 || slot >= SLOTS) {
            return NOTHING;
        }
        flow.workOut(r);
        int state = flow.stateOf(r, address);
        if (state == TORN) {
            return TORN;
        }
        if (state == NO_STATE || slot >= LOCALS + Types.height(state)) {
            return NOTHING;
        }
        return Types.at(state, slot);
    }

    public boolean start(int x, int y, int z) {
        if (!code.hasRoutine(0)) {
            return false;
        }
        machine.begin(x, y, z);
        return true;
    }

    public int step() throws UnsupportedOperationException, ArithmeticException,
            NoSuchElementException, IndexOutOfBoundsException, IllegalStateException {
        if (machine.isRunning()) {
            machine.doInstruction();
        }
        return machine.isRunning() ? 1 : 0;
    }

    public int steps(int n) throws IllegalArgumentException, UnsupportedOperationException,
            ArithmeticException, NoSuchElementException, IndexOutOfBoundsException,
            IllegalStateException {
        if (n < 1 || n > MOST_STEPS) {
            throw new IllegalArgumentException();
        }
        int done = 0;
        while (done < n && machine.isRunning()) {
            machine.doInstruction();
            done++;
        }
        return done;
    }

    public int about(int what) {
        switch (what) {
            case 0:
                return machine.isRunning() ? 1 : 0;
            case 5:
                return machine.result;
            case 6:
                return machine.used;
            case 7:
                return code.count;
            default:
                return machine.isRunning() ? aboutTopFrame(what) : NOTHING;
        }
    }

    public int local(int i) {
        if (!isLocal(i) || !machine.isRunning()) {
            return NOTHING;
        }
        return machine.top().shown(i);
    }

    private int aboutTopFrame(int what) {
        Frame frame = machine.top();
        switch (what) {
            case 1:
                return frame.address;
            case 2:
                return machine.depth;
            case 3:
                return Types.height(frame.types);
            case 4:
                return Types.height(frame.types) == 0
                        ? NOTHING : frame.shown(Types.slotBelow(frame.types, 0));
            default:
                return NOTHING;
        }
    }

    private void forgetVerification() {
        verified = false;
        flow.forget();
    }

    private static boolean isLocal(int i) {
        return i >= 0 && i < LOCALS;
    }

    /**
     * The ops in the order of their numbers. What one takes is told from the bottom up: i an INT,
     * r a REFERENCE, a any. What it gives is EMPTY where nothing is pushed, and ANY where the op
     * alone doesn't tell it.
     */
    private enum Op {
        PUSH("", INT, true),
        ADD("ii", INT, true),
        SUBTRACT("ii", INT, true),
        MULTIPLY("ii", INT, true),
        DIVIDE("ii", INT, true),
        LOAD("", ANY, true),
        STORE("a", EMPTY, true),
        JUMP("", EMPTY, false),
        ZERO("i", EMPTY, true),
        NONE("", REFERENCE, true),
        MISSING("r", EMPTY, true),
        NEW("i", REFERENCE, true),
        GET("ri", INT, true),
        PUT("rii", EMPTY, true),
        LENGTH("r", INT, true),
        TWICE("a", ANY, true),
        EXCHANGE("aa", ANY, true),
        DROP("a", EMPTY, true),
        CALL("", ANY, true),
        RETURN("a", EMPTY, false);

        final String takes;
        final int gives;
        final boolean goesBehind;

        Op(String takes, int gives, boolean goesBehind) {
            this.takes = takes;
            this.gives = gives;
            this.goesBehind = goesBehind;
        }

        boolean jumps() {
            return this == JUMP || this == ZERO || this == MISSING;
        }

        /** The type of the value that must lie so many below the top, ANY where all will do. */
        int wanted(int depth) {
            char kind = takes.charAt(takes.length() - 1 - depth);
            if (kind == 'i') {
                return INT;
            }
            return kind == 'r' ? REFERENCE : ANY;
        }
    }

    /**
     * States held in one int each, so that they cost no objects: three bits for the height, then
     * two bits for each slot. Slots above the height are EMPTY, so that equal states are equal
     * ints. A seventh place of the stack can be told too: so an overfull stack is seen.
     */
    private static final class Types {
        static final int ALL_EMPTY = 0;
        private static final int HEIGHT_BITS = 3;
        private static final int HEIGHT_MASK = 7;
        private static final int TYPE_MASK = 3;

        static int height(int state) {
            return state & HEIGHT_MASK;
        }

        static int at(int state, int slot) {
            return (state >> (HEIGHT_BITS + 2 * slot)) & TYPE_MASK;
        }

        static int with(int state, int slot, int type) {
            int shift = HEIGHT_BITS + 2 * slot;
            return (state & ~(TYPE_MASK << shift)) | (type << shift);
        }

        /** The slot of the value that lies so many below the top. */
        static int slotBelow(int state, int depth) {
            return LOCALS + (state & HEIGHT_MASK) - 1 - depth;
        }

        static int below(int state, int depth) {
            return at(state, slotBelow(state, depth));
        }

        static int pushed(int state, int type) {
            return with(state, LOCALS + height(state), type) + 1;
        }

        static int dropped(int state, int count) {
            int left = state;
            for (int i = 0; i < count; i++) {
                left = with(left, slotBelow(left, 0), EMPTY) - 1;
            }
            return left;
        }

        static int met(int old, int other) {
            if (old == NO_STATE) {
                return other;
            }
            if (old == TORN || height(old) != height(other)) {
                return TORN;
            }
            int both = old;
            for (int slot = 0; slot < SLOTS; slot++) {
                if (at(old, slot) != at(other, slot)) {
                    both = with(both, slot, ANY);
                }
            }
            return both;
        }
    }

    /** The instructions and routines, what they ask of a state and what they make of it. */
    private static final class Code {
        int count;
        private final int[] ops;
        private final int[] numbers;
        private final boolean[] told;
        private final int[] starts;
        private final int[] parameters;
        private final int[] kinds;

        Code() {
            count = 0;
            ops = new int[MOST_INSTRUCTIONS];
            numbers = new int[MOST_INSTRUCTIONS];
            told = new boolean[ROUTINES];
            starts = new int[ROUTINES];
            parameters = new int[ROUTINES];
            kinds = new int[ROUTINES];
        }

        int append(int op, int n) {
            int address = count;
            ops[address] = op;
            numbers[address] = n;
            count++;
            return address;
        }

        void tell(int r, int start, int parameterCount, int kindBits) {
            told[r] = true;
            starts[r] = start;
            parameters[r] = parameterCount;
            kinds[r] = kindBits;
        }

        boolean hasInstruction(int address) {
            return address >= 0 && address < count;
        }

        boolean hasRoutine(int r) {
            return r >= 0 && r < ROUTINES && told[r];
        }

        int startOf(int r) {
            return starts[r];
        }

        int parametersOf(int r) {
            return parameters[r];
        }

        Op opAt(int address) {
            return OPS[ops[address]];
        }

        int numberAt(int address) {
            return numbers[address];
        }

        /** The state with which a routine begins. */
        int firstState(int r) {
            int state = Types.ALL_EMPTY;
            for (int k = 0; k < parameters[r]; k++) {
                state = Types.with(state, k, kindOf(r, k));
            }
            return state;
        }

        /** Whether the instruction, being one of routine r, fits the state. */
        boolean fits(int r, int address, int state) {
            if (state == NO_STATE || state == TORN || !hasOp(address)) {
                return false;
            }
            Op op = opAt(address);
            int n = numbers[address];
            return (!op.goesBehind || hasInstruction(address + 1))
                    && numberFits(op, n, state)
                    && takenFits(r, op, n, state)
                    && Types.height(after(address, state)) <= MOST_HEIGHT;
        }

        /** What comes of a state that holds all that the instruction takes. */
        int after(int address, int state) {
            Op op = opAt(address);
            int n = numbers[address];
            int left = Types.dropped(state, takenCount(op, n));
            switch (op) {
                case LOAD:
                    return Types.pushed(left, Types.at(state, n));
                case STORE:
                    return Types.with(left, n, Types.below(state, 0));
                case TWICE:
                    return Types.pushed(state, Types.below(state, 0));
                case EXCHANGE:
                    left = Types.pushed(left, Types.below(state, 0));
                    return Types.pushed(left, Types.below(state, 1));
                case CALL:
                    return Types.pushed(left, kindOf(n, RESULT_BIT));
                default:
                    return op.gives == EMPTY ? left : Types.pushed(left, op.gives);
            }
        }

        private boolean hasOp(int address) {
            return hasInstruction(address) && ops[address] >= 0 && ops[address] < OPS.length;
        }

        private int kindOf(int r, int bit) {
            return ((kinds[r] >> bit) & 1) == 1 ? REFERENCE : INT;
        }

        private boolean numberFits(Op op, int n, int state) {
            switch (op) {
                case LOAD:
                    return isLocal(n)
                            && (Types.at(state, n) == INT || Types.at(state, n) == REFERENCE);
                case STORE:
                    return isLocal(n);
                case CALL:
                    return hasRoutine(n);
                default:
                    return !op.jumps() || hasInstruction(n);
            }
        }

        private int takenCount(Op op, int n) {
            return op == Op.CALL ? parameters[n] : op.takes.length();
        }

        private boolean takenFits(int r, Op op, int n, int state) {
            int taken = takenCount(op, n);
            if (Types.height(state) < taken) {
                return false;
            }
            for (int depth = 0; depth < taken; depth++) {
                int wanted = wantedBelow(r, op, n, depth);
                if (wanted != ANY && wanted != Types.below(state, depth)) {
                    return false;
                }
            }
            return true;
        }

        private int wantedBelow(int r, Op op, int n, int depth) {
            switch (op) {
                case CALL:
                    return kindOf(n, parameters[n] - 1 - depth);
                case RETURN:
                    return kindOf(r, RESULT_BIT);
                default:
                    return op.wanted(depth);
            }
        }
    }

    /** The states of all addresses for each routine, worked out when they are asked for. */
    private static final class Flow {
        /** A state changes when it comes, when one of its places turns to ANY, and when torn. */
        private static final int MOST_CHANGES = MOST_INSTRUCTIONS * (1 + SLOTS + 1);

        private final Code code;
        private final boolean[] known;
        private final int[][] states;
        private final boolean[] waiting;
        /** No address below this one waits. */
        private int waitingFrom;

        Flow(Code code) {
            this.code = code;
            known = new boolean[ROUTINES];
            states = new int[ROUTINES][MOST_INSTRUCTIONS];
            waiting = new boolean[MOST_INSTRUCTIONS];
            waitingFrom = MOST_INSTRUCTIONS;
        }

        void forget() {
            for (int r = 0; r < ROUTINES; r++) {
                known[r] = false;
            }
        }

        void workOut(int r) {
            if (known[r]) {
                return;
            }
            clear(r);
            if (code.hasInstruction(code.startOf(r))) {
                meet(r, code.startOf(r), code.firstState(r));
            }
            for (int changes = 0; changes <= MOST_CHANGES; changes++) {
                int address = takeLeastWaiting();
                if (address == NOTHING) {
                    break;
                }
                goOn(r, address);
            }
            known[r] = true;
        }

        int stateOf(int r, int address) {
            return states[r][address];
        }

        /** The least address that doesn't fit its state; NOTHING when the routine is right. */
        int leastUnfit(int r) {
            if (!code.hasInstruction(code.startOf(r))) {
                return NO_BEGINNING;
            }
            for (int address = 0; address < code.count; address++) {
                int state = states[r][address];
                if (state != NO_STATE && !code.fits(r, address, state)) {
                    return address;
                }
            }
            return NOTHING;
        }

        private void clear(int r) {
            for (int address = 0; address < MOST_INSTRUCTIONS; address++) {
                states[r][address] = NO_STATE;
                waiting[address] = false;
            }
            waitingFrom = MOST_INSTRUCTIONS;
        }

        private int takeLeastWaiting() {
            for (int address = waitingFrom; address < MOST_INSTRUCTIONS; address++) {
                if (waiting[address]) {
                    waiting[address] = false;
                    waitingFrom = address + 1;
                    return address;
                }
            }
            waitingFrom = MOST_INSTRUCTIONS;
            return NOTHING;
        }

        private void goOn(int r, int address) {
            int state = states[r][address];
            if (!code.fits(r, address, state)) {
                return;
            }
            Op op = code.opAt(address);
            int after = code.after(address, state);
            if (op.goesBehind) {
                meet(r, address + 1, after);
            }
            if (op.jumps()) {
                meet(r, code.numberAt(address), after);
            }
        }

        private void meet(int r, int address, int state) {
            int met = Types.met(states[r][address], state);
            if (met != states[r][address]) {
                states[r][address] = met;
                waiting[address] = true;
                waitingFrom = Math.min(waitingFrom, address);
            }
        }
    }

    /** The frame of a call: the types of its slots, held as a state, and their values. */
    private static final class Frame {
        int owner;
        int address;
        int types;
        private final int[] values;

        Frame() {
            owner = 0;
            address = 0;
            types = Types.ALL_EMPTY;
            values = new int[SLOTS];
        }

        void open(int r, int first, int firstTypes) {
            owner = r;
            address = first;
            types = firstTypes;
        }

        void setParameter(int k, int value) {
            values[k] = value;
        }

        int typeBelow(int depth) {
            return Types.below(types, depth);
        }

        int below(int depth) {
            return values[Types.slotBelow(types, depth)];
        }

        void push(int type, int value) {
            types = Types.pushed(types, type);
            values[Types.slotBelow(types, 0)] = value;
        }

        int pop() {
            int value = below(0);
            types = Types.dropped(types, 1);
            return value;
        }

        void load(int i) {
            push(Types.at(types, i), values[i]);
        }

        void store(int i) {
            int type = typeBelow(0);
            values[i] = pop();
            types = Types.with(types, i, type);
        }

        void exchange() {
            int upperType = typeBelow(0);
            int upper = pop();
            int lowerType = typeBelow(0);
            int lower = pop();
            push(upperType, upper);
            push(lowerType, lower);
        }

        /** A slot's value as callers see it: of a reference only whether it is to an array. */
        int shown(int slot) {
            int type = Types.at(types, slot);
            if (type == EMPTY) {
                return NOTHING;
            }
            return type == REFERENCE && values[slot] != NO_ARRAY ? 1 : values[slot];
        }
    }

    /** Why a step can't be done. */
    private enum Trap {
        NO_TRAP, UNFIT, DIVISION, MISSING_ARRAY, OUTSIDE, FULL
    }

    /**
     * A run: its frames, and its arrays, which lie one behind the other in one row. A reference
     * to one tells its first place and its length, so that an array costs no object.
     */
    private static final class Machine {
        private static final int LENGTH_BITS = 4;
        private static final int LENGTH_MASK = 15;

        /** How many frames there are; 0 when no run goes on. */
        int depth;
        /** How many elements all arrays have. */
        int used;
        int result;
        private final Code code;
        private final Frame[] frames;
        private final int[] elements;

        Machine(Code code) {
            this.code = code;
            depth = 0;
            used = 0;
            result = 0;
            elements = new int[MOST_ELEMENTS];
            frames = new Frame[MOST_FRAMES];
            for (int i = 0; i < MOST_FRAMES; i++) {
                frames[i] = new Frame();
            }
        }

        boolean isRunning() {
            return depth > 0;
        }

        Frame top() {
            return frames[depth - 1];
        }

        void begin(int x, int y, int z) {
            depth = 0;
            used = 0;
            Frame frame = openFrame(0);
            frame.setParameter(0, firstValue(frame, 0, x));
            frame.setParameter(1, firstValue(frame, 1, y));
            frame.setParameter(2, firstValue(frame, 2, z));
        }

        void doInstruction() {
            Frame frame = top();
            Trap trap = trapOf(frame);
            if (trap != Trap.NO_TRAP) {
                depth = 0;
                report(trap);
                return;
            }
            Op op = code.opAt(frame.address);
            int n = code.numberAt(frame.address);
            frame.address++;
            if (op.jumps()) {
                jump(frame, op, n);
            } else {
                act(frame, op, n);
            }
        }

        private static int firstValue(Frame frame, int k, int value) {
            return Types.at(frame.types, k) == REFERENCE ? NO_ARRAY : value;
        }

        private Frame openFrame(int r) {
            Frame frame = frames[depth];
            depth++;
            frame.open(r, code.startOf(r), code.firstState(r));
            return frame;
        }

        private Trap trapOf(Frame frame) {
            if (!code.fits(frame.owner, frame.address, frame.types)) {
                return Trap.UNFIT;
            }
            switch (code.opAt(frame.address)) {
                case DIVIDE:
                    return frame.below(0) == 0 ? Trap.DIVISION : Trap.NO_TRAP;
                case GET:
                    return elementTrap(frame.below(1), frame.below(0));
                case PUT:
                    return elementTrap(frame.below(2), frame.below(1));
                case LENGTH:
                    return frame.below(0) == NO_ARRAY ? Trap.MISSING_ARRAY : Trap.NO_TRAP;
                case NEW:
                    return canMake(frame.below(0)) ? Trap.NO_TRAP : Trap.FULL;
                case CALL:
                    return depth < MOST_FRAMES ? Trap.NO_TRAP : Trap.FULL;
                default:
                    return Trap.NO_TRAP;
            }
        }

        private static Trap elementTrap(int reference, int i) {
            if (reference == NO_ARRAY) {
                return Trap.MISSING_ARRAY;
            }
            return i >= 0 && i < lengthOf(reference) ? Trap.NO_TRAP : Trap.OUTSIDE;
        }

        private boolean canMake(int length) {
            return length >= 0 && length <= MOST_LENGTH && used + length <= MOST_ELEMENTS;
        }

        private static void report(Trap trap) {
            switch (trap) {
                case UNFIT:
                    throw new UnsupportedOperationException();
                case DIVISION:
                    throw new ArithmeticException();
                case MISSING_ARRAY:
                    throw new NoSuchElementException();
                case OUTSIDE:
                    throw new IndexOutOfBoundsException();
                default:
                    throw new IllegalStateException();
            }
        }

        /** NO_ARRAY being 0, one test serves ints and references. */
        private static void jump(Frame frame, Op op, int n) {
            if (op == Op.JUMP || frame.pop() == 0) {
                frame.address = n;
            }
        }

        private void act(Frame frame, Op op, int n) {
            switch (op) {
                case ADD:
                case SUBTRACT:
                case MULTIPLY:
                case DIVIDE:
                    reckon(frame, op);
                    break;
                case NEW:
                case GET:
                case PUT:
                case LENGTH:
                    useArray(frame, op);
                    break;
                case CALL:
                    enter(frame, n);
                    break;
                case RETURN:
                    leave(frame);
                    break;
                default:
                    move(frame, op, n);
            }
        }

        private static void reckon(Frame frame, Op op) {
            int upper = frame.pop();
            int lower = frame.pop();
            frame.push(INT, reckoned(op, lower, upper));
        }

        private static int reckoned(Op op, int lower, int upper) {
            switch (op) {
                case ADD:
                    return lower + upper;
                case SUBTRACT:
                    return lower - upper;
                case MULTIPLY:
                    return lower * upper;
                default:
                    return upper == 0 ? 0 : lower / upper;
            }
        }

        private void useArray(Frame frame, Op op) {
            switch (op) {
                case NEW:
                    frame.push(REFERENCE, makeArray(frame.pop()));
                    break;
                case LENGTH:
                    frame.push(INT, lengthOf(frame.pop()));
                    break;
                case GET:
                    int i = frame.pop();
                    frame.push(INT, elements[placeOf(frame.pop(), i)]);
                    break;
                default:
                    int value = frame.pop();
                    int j = frame.pop();
                    elements[placeOf(frame.pop(), j)] = value;
            }
        }

        private int makeArray(int length) {
            int reference = 1 + (used << LENGTH_BITS) + length;
            for (int i = 0; i < length; i++) {
                elements[used + i] = 0;
            }
            used += length;
            return reference;
        }

        private static int lengthOf(int reference) {
            return (reference - 1) & LENGTH_MASK;
        }

        private static int placeOf(int reference, int i) {
            return ((reference - 1) >> LENGTH_BITS) + i;
        }

        private void enter(Frame caller, int r) {
            Frame frame = openFrame(r);
            for (int k = code.parametersOf(r) - 1; k >= 0; k--) {
                frame.setParameter(k, caller.pop());
            }
        }

        private void leave(Frame frame) {
            if (depth == 1) {
                result = frame.shown(Types.slotBelow(frame.types, 0));
                depth = 0;
                return;
            }
            depth--;
            top().push(frame.typeBelow(0), frame.below(0));
        }

        private static void move(Frame frame, Op op, int n) {
            switch (op) {
                case PUSH:
                    frame.push(INT, n);
                    break;
                case NONE:
                    frame.push(REFERENCE, NO_ARRAY);
                    break;
                case LOAD:
                    frame.load(n);
                    break;
                case STORE:
                    frame.store(n);
                    break;
                case TWICE:
                    frame.push(frame.typeBelow(0), frame.below(0));
                    break;
                case EXCHANGE:
                    frame.exchange();
                    break;
                default:
                    frame.pop();
            }
        }
    }
}
