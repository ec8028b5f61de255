/** The boundary cases that 'Terms' names of code and routines, of values and frames, and of ops. */
public final class FrameVerifierCodeEdges extends Checks {
    private static final int[] ODD = {LEAST, LEAST + 1, -1, 0, 1, MOST - 1, MOST};

    public static void main(String[] args) {
        watch();
        test("CODE is a row of INSTRUCTIONS, at most 100", FrameVerifierCodeEdges::atMostHundred);
        test("at the addresses 0, 1, ..", FrameVerifierCodeEdges::addresses);
        test("ROUTINES 0 .. 3", FrameVerifierCodeEdges::fourRoutines);
        test("a START (an address)", FrameVerifierCodeEdges::startAtBothEnds);
        test("a number of PARAMETERS 0 .. 3", FrameVerifierCodeEdges::parameters);
        test("of each whether it is a REFERENCE or an INT", FrameVerifierCodeEdges::kindsOfParameters);
        test("and likewise of the RESULT", FrameVerifierCodeEdges::kindOfResult);
        test("one that was not told is not there", FrameVerifierCodeEdges::notTold);
        test("Routine 0 is the first one that runs", FrameVerifierCodeEdges::routineZeroRuns);
        test("VALUES are ints", FrameVerifierCodeEdges::ints);
        test("and references, each to an ARRAY or to none", FrameVerifierCodeEdges::references);
        test("six LOCALS 0 .. 5", FrameVerifierCodeEdges::sixLocals);
        test("each EMPTY or with a value", FrameVerifierCodeEdges::emptyOrNot);
        test("a STACK of at most six values", FrameVerifierCodeEdges::sixOnTheStack);
        test("A FRAME of a call has", FrameVerifierCodeEdges::framesOfTheirOwn);
        test("The parameters are the first locals, the others are empty", FrameVerifierCodeEdges::firstLocals);
        test("PUSH n", FrameVerifierCodeEdges::pushes);
        test("wrapping: ADD", FrameVerifierCodeEdges::wrappingAdd);
        test("wrapping: SUBTRACT", FrameVerifierCodeEdges::wrappingSubtract);
        test("wrapping: MULTIPLY", FrameVerifierCodeEdges::wrappingMultiply);
        test("wrapping: DIVIDE", FrameVerifierCodeEdges::wrappingDivide);
        test("a division towards 0", FrameVerifierCodeEdges::towardsZero);
        test("LOAD local n, STORE", FrameVerifierCodeEdges::loadAndStore);
        test("JUMP to address n", FrameVerifierCodeEdges::jumps);
        test("ZERO: if it is 0 on at n", FrameVerifierCodeEdges::zero);
        test("NONE, MISSING: if it is to none on at n", FrameVerifierCodeEdges::missing);
        test("NEW: a new array of so many zeros", FrameVerifierCodeEdges::zeros);
        test("GET: element i (from 0)", FrameVerifierCodeEdges::getFromZero);
        test("PUT: element i is v then", FrameVerifierCodeEdges::putOneAlone);
        test("LENGTH: the number of elements", FrameVerifierCodeEdges::lengths);
        test("TWICE, EXCHANGE, DROP", FrameVerifierCodeEdges::turnings);
        test("CALL: as many values as it has parameters go", FrameVerifierCodeEdges::passing);
        test("CALL: then its result is pushed", FrameVerifierCodeEdges::pushedResult);
        test("RETURN: the top is the result", FrameVerifierCodeEdges::topIsResult);
        test("If no other is told, the next address is one more", FrameVerifierCodeEdges::oneMore);
        end();
    }

    private static void atMostHundred() {
        FrameVerifier x = new FrameVerifier();
        for (int i = 0; i < 100; i++) {
            int at = i;
            due("how many before", () -> x.about(7), i);
            due("instruction " + i, () -> x.add(opTo98(at), 98), i);
        }
        due("the one too many", () -> x.add(PUSH, 0), FULL);
        due("how many", () -> x.about(7), 100);
        x.routine(0, 99, 0, 0);
        due("address 99 is there", x::verify, 1099);
        x.routine(0, 100, 0, 0);
        due("address 100 is not", x::verify, 1999);
    }

    /** JUMPs to 98, but for a PUSH there and the RETURN at 99. */
    private static int opTo98(int address) {
        return address < 98 ? JUMP : address == 98 ? PUSH : RETURN;
    }

    private static void addresses() {
        FrameVerifier x = coded(JUMP, 99);
        repeat(x, 97, BAD, 0);
        append(x, BAD, 0, JUMP, 0);
        x.routine(0, 0, 0, 0);
        due("from 0 to 99 and back", x::verify, 0);
        x.start(0, 0, 0);
        due("first", () -> x.about(1), 0);
        x.step();
        due("last", () -> x.about(1), 99);
        x.step();
        due("first again", () -> x.about(1), 0);
    }

    private static void fourRoutines() {
        FrameVerifier x = coded(PUSH, 10, RETURN, 0, PUSH, 20, RETURN, 0, PUSH, 30, RETURN, 0,
                CALL, 1, CALL, 2, CALL, 3, ADD, 0, ADD, 0, RETURN, 0);
        due("routine -1", () -> x.routine(-1, 0, 0, 0), false);
        due("routine 4", () -> x.routine(4, 0, 0, 0), false);
        for (int r = 1; r <= 3; r++) {
            int who = r;
            due("routine " + r, () -> x.routine(who, 2 * who - 2, 0, 0), true);
        }
        due("routine 0", () -> x.routine(0, 6, 0, 0), true);
        due("all four are right", x::verify, 0);
        x.start(0, 0, 0);
        due("each one runs", () -> x.steps(200), 12);
        due("with its own start", () -> x.about(5), 60);
    }

    private static void startAtBothEnds() {
        FrameVerifier x = coded(JUMP, 2, RETURN, 0, PUSH, 5, JUMP, 1);
        for (int start : new int[] {0, 2, 3}) {
            x.routine(0, start, 0, 0);
            x.start(0, 0, 0);
            due("begins at", () -> x.about(1), start);
            due("verify", x::verify, start == 3 ? 1001 : 0);
        }
        x.routine(0, 4, 0, 0);
        due("behind the end", x::verify, 1999);
        x.routine(0, -1, 0, 0);
        due("before the beginning", x::verify, 1999);
    }

    private static void parameters() {
        FrameVerifier x = coded(PUSH, 0, RETURN, 0);
        for (int parameters = 0; parameters <= 3; parameters++) {
            int count = parameters;
            due(count + " parameters", () -> x.routine(0, 0, count, 0), true);
            for (int slot = 0; slot < 6; slot++) {
                int asks = slot;
                due("local " + slot, () -> x.type(0, 0, asks), slot < count ? INT : EMPTY);
            }
        }
        for (int parameters : new int[] {LEAST, -1, 4, MOST}) {
            due(parameters + " parameters", () -> x.routine(0, 0, parameters, 0), false);
        }
        dueTypes(x, 0, 0, INT, INT, INT);
    }

    private static void kindsOfParameters() {
        FrameVerifier x = coded(PUSH, 0, RETURN, 0);
        x.routine(0, 0, 3, 0);
        dueTypes(x, 0, 0, INT, INT, INT);
        x.routine(0, 0, 3, 1);
        dueTypes(x, 0, 0, REFERENCE, INT, INT);
        x.routine(0, 0, 3, 2);
        dueTypes(x, 0, 0, INT, REFERENCE, INT);
        x.routine(0, 0, 3, 4);
        dueTypes(x, 0, 0, INT, INT, REFERENCE);
        x.routine(0, 0, 3, 8);
        dueTypes(x, 0, 0, INT, INT, INT);
        x.routine(0, 0, 3, 15);
        dueTypes(x, 0, 0, REFERENCE, REFERENCE, REFERENCE);
        x.routine(0, 0, 0, 15);
        dueTypes(x, 0, 0);
        x.routine(0, 0, 1, 6);
        dueTypes(x, 0, 0, INT);
    }

    private static void kindOfResult() {
        FrameVerifier x = coded(PUSH, 0, RETURN, 0, NONE, 0, RETURN, 0);
        for (int kinds = 0; kinds <= 15; kinds++) {
            x.routine(0, 0, 0, kinds);
            due("an int, kinds " + kinds, x::verify, kinds < 8 ? 0 : 1001);
            x.routine(0, 2, 0, kinds);
            due("a reference, kinds " + kinds, x::verify, kinds < 8 ? 1003 : 0);
        }
    }

    private static void notTold() {
        for (int r = 0; r <= 3; r++) {
            int who = r;
            FrameVerifier x = coded(CALL, r, RETURN, 0, PUSH, 1, RETURN, 0);
            x.routine(r == 0 ? 1 : 0, r == 0 ? 2 : 0, 0, 0);
            dueAll(x, r, 0, NOTHING);
            due("without routine " + r, x::verify, r == 0 ? 1999 : 1000);
            x.routine(r, r == 0 ? 0 : 2, 0, 0);
            due("with routine " + r, x::verify, 0);
            due("its state", () -> x.type(who, who == 0 ? 0 : 2, 0), EMPTY);
        }
    }

    private static void routineZeroRuns() {
        FrameVerifier x = coded(PUSH, 1, RETURN, 0, PUSH, 2, RETURN, 0);
        for (int r = 1; r <= 3; r++) {
            x.routine(r, 0, 0, 0);
            due("others alone", () -> x.start(0, 0, 0), false);
        }
        x.routine(0, 2, 0, 0);
        due("routine 0", () -> x.start(0, 0, 0), true);
        x.steps(2);
        due("its result", () -> x.about(5), 2);
    }

    private static void ints() {
        for (int value : ODD) {
            FrameVerifier x = coded(LOAD, 0, STORE, 5, LOAD, 5, RETURN, 0);
            x.routine(0, 0, 1, 0);
            x.start(value, 0, 0);
            due("a local", () -> x.local(0), value);
            x.step();
            due("on the stack", () -> x.about(4), value);
            x.step();
            due("stored", () -> x.local(5), value);
            x.steps(2);
            due("the result", () -> x.about(5), value);
        }
    }

    private static void references() {
        FrameVerifier x = coded(NONE, 0, STORE, 0, PUSH, 0, NEW, 0, STORE, 1, PUSH, 12, NEW, 0,
                STORE, 2, LOAD, 0, LOAD, 1, LOAD, 2, RETURN, 0);
        x.routine(0, 0, 0, 8);
        x.start(0, 0, 0);
        x.steps(8);
        dueLocals(x, 0, 1, 1);
        int[] shown = {0, 1, 1};
        for (int i = 0; i < 3; i++) {
            int at = i;
            x.step();
            due("the top", () -> x.about(4), shown[at]);
        }
        x.step();
        due("an array as result", () -> x.about(5), 1);
        FrameVerifier y = coded(NONE, 0, RETURN, 0, PUSH, 0, NEW, 0, RETURN, 0);
        y.routine(0, 2, 0, 8);
        y.start(0, 0, 0);
        y.steps(3);
        due("an array without elements as result", () -> y.about(5), 1);
        y.routine(0, 0, 0, 8);
        y.start(0, 0, 0);
        y.steps(3);
        due("none as result", () -> y.about(5), 0);
    }

    private static void sixLocals() {
        FrameVerifier x = new FrameVerifier();
        for (int i = 0; i < 6; i++) {
            append(x, PUSH, 10 + i, STORE, i);
        }
        append(x, PUSH, 99, STORE, 6);
        x.routine(0, 0, 0, 0);
        due("the seventh", x::verify, 1013);
        x.start(0, 0, 0);
        due("all six", () -> x.steps(12), 12);
        dueLocals(x, 10, 11, 12, 13, 14, 15);
        dueTypes(x, 0, 12, INT, INT, INT, INT, INT, INT);
        due("local(6)", () -> x.local(6), NOTHING);
        due("local(-1)", () -> x.local(-1), NOTHING);
        dueTrap(x, 1, UNFIT);
    }

    private static void emptyOrNot() {
        FrameVerifier x = plain(PUSH, -1, STORE, 2, LOAD, 2, RETURN, 0, LOAD, 3, RETURN, 0);
        due("LOAD of one with a value", x::verify, 0);
        x.start(0, 0, 0);
        dueLocals(x);
        x.steps(2);
        due("-1 as a value is there", () -> x.type(0, 2, 2) * 10 + x.local(2), 9);
        x.routine(0, 4, 0, 0);
        due("LOAD of an empty one", x::verify, 1004);
        x.start(0, 0, 0);
        dueTrap(x, 0, UNFIT);
    }

    private static void sixOnTheStack() {
        FrameVerifier x = new FrameVerifier();
        repeat(x, 8, PUSH, 4);
        x.routine(0, 0, 0, 0);
        due("the seventh", x::verify, 1006);
        dueTypes(x, 0, 6, 0, 0, 0, 0, 0, 0, 1, 1, 1, 1, 1, 1);
        dueAll(x, 0, 7, NOTHING);
        x.start(0, 0, 0);
        due("six", () -> x.steps(6), 6);
        due("height", () -> x.about(3), 6);
        dueTrap(x, 0, UNFIT);
    }

    /** Both frames have full stacks at once, and locals that don't touch each other. */
    private static void framesOfTheirOwn() {
        FrameVerifier x = new FrameVerifier();
        append(x, PUSH, 70, STORE, 5);
        repeat(x, 5, PUSH, 1);
        append(x, CALL, 1);
        repeat(x, 5, ADD, 0);
        append(x, LOAD, 5, ADD, 0, RETURN, 0);
        int inner = x.about(7);
        append(x, PUSH, 8, STORE, 5);
        repeat(x, 6, PUSH, 2);
        append(x, RETURN, 0);
        x.routine(0, 0, 0, 0);
        x.routine(1, inner, 0, 0);
        due("verify", x::verify, 0);
        x.start(0, 0, 0);
        x.steps(8);
        dueAbout(x, 1, inner, 2, 0, -1);
        dueLocals(x);
        x.steps(8);
        dueAbout(x, 1, inner + 8, 2, 6, 2);
        dueLocals(x, -1, -1, -1, -1, -1, 8);
        x.step();
        dueAbout(x, 1, 8, 1, 6, 2);
        dueLocals(x, -1, -1, -1, -1, -1, 70);
        x.steps(200);
        due("result", () -> x.about(5), 77);
    }

    private static void firstLocals() {
        for (int parameters = 0; parameters <= 3; parameters++) {
            FrameVerifier x = coded(PUSH, 7, PUSH, 8, PUSH, 9, CALL, 1, PUSH, 0, RETURN, 0);
            x.routine(0, 0, parameters, 0);
            x.routine(1, 4, parameters, 0);
            x.start(21, 22, 23);
            int[] first = {21, 22, 23};
            int[] passed = {7, 8, 9};
            int count = parameters;
            for (int i = 0; i < 6; i++) {
                int at = i;
                due("of the run, " + i, () -> x.local(at), i < count ? first[i] : NOTHING);
            }
            x.steps(4);
            for (int i = 0; i < 6; i++) {
                int at = i;
                due("of the call, " + i, () -> x.local(at), i < count ? passed[3 - count + i] : NOTHING);
            }
        }
        othersEmptyAnew();
    }

    /** A second call, and a second run, where the first one left values in its locals. */
    private static void othersEmptyAnew() {
        FrameVerifier x = coded(PUSH, 1, CALL, 1, DROP, 0, PUSH, 2, CALL, 1, RETURN, 0,
                LOAD, 0, STORE, 1, LOAD, 0, STORE, 5, LOAD, 5, RETURN, 0);
        x.routine(0, 0, 0, 0);
        x.routine(1, 6, 1, 0);
        x.start(0, 0, 0);
        x.steps(6);
        dueLocals(x, 1, 1, -1, -1, -1, 1);
        x.steps(5);
        dueLocals(x, 2);
        x.steps(4);
        dueLocals(x, 2, 2, -1, -1, -1, 2);
        x.routine(0, 6, 1, 0);
        for (int i = 0; i < 2; i++) {
            x.start(3, 4, 5);
            dueLocals(x, 3);
            x.steps(4);
            dueLocals(x, 3, 3, -1, -1, -1, 3);
        }
    }

    private static void pushes() {
        for (int n : ODD) {
            dueResult("PUSH " + n, n, PUSH, n, RETURN, 0);
        }
    }

    private static void dueReckoned(int op, int lower, int upper, int want) {
        dueResult(lower + " op " + op + " " + upper, want, PUSH, lower, PUSH, upper, op, 0, RETURN, 0);
    }

    private static void wrappingAdd() {
        dueReckoned(ADD, MOST, 1, LEAST);
        dueReckoned(ADD, LEAST, -1, MOST);
        dueReckoned(ADD, LEAST, LEAST, 0);
        dueReckoned(ADD, MOST, MOST, -2);
        dueReckoned(ADD, MOST, LEAST, -1);
    }

    private static void wrappingSubtract() {
        dueReckoned(SUBTRACT, LEAST, 1, MOST);
        dueReckoned(SUBTRACT, MOST, -1, LEAST);
        dueReckoned(SUBTRACT, 0, LEAST, LEAST);
        dueReckoned(SUBTRACT, LEAST, LEAST, 0);
        dueReckoned(SUBTRACT, -1, LEAST, MOST);
        dueReckoned(SUBTRACT, 3, 10, -7);
    }

    private static void wrappingMultiply() {
        dueReckoned(MULTIPLY, LEAST, -1, LEAST);
        dueReckoned(MULTIPLY, -1, LEAST, LEAST);
        dueReckoned(MULTIPLY, 65536, 65536, 0);
        dueReckoned(MULTIPLY, 46341, 46341, -2147479015);
        dueReckoned(MULTIPLY, MOST, MOST, 1);
        dueReckoned(MULTIPLY, 65536, 32768, LEAST);
    }

    private static void wrappingDivide() {
        dueReckoned(DIVIDE, LEAST, -1, LEAST);
        dueReckoned(DIVIDE, LEAST, 1, LEAST);
        dueReckoned(DIVIDE, MOST, -1, -MOST);
        dueReckoned(DIVIDE, LEAST, LEAST, 1);
    }

    private static void towardsZero() {
        dueReckoned(DIVIDE, 7, 2, 3);
        dueReckoned(DIVIDE, -7, 2, -3);
        dueReckoned(DIVIDE, 7, -2, -3);
        dueReckoned(DIVIDE, -7, -2, 3);
        dueReckoned(DIVIDE, -1, 2, 0);
        dueReckoned(DIVIDE, 1, -2, 0);
        dueReckoned(DIVIDE, MOST, LEAST, 0);
        dueReckoned(DIVIDE, LEAST, MOST, -1);
        dueReckoned(DIVIDE, 0, LEAST, 0);
    }

    private static void loadAndStore() {
        for (int i = 0; i <= 5; i++) {
            dueResult("local " + i, 11, PUSH, 3, STORE, 5 - i, PUSH, 8, STORE, i, LOAD, i, PUSH, 3,
                    ADD, 0, RETURN, 0);
        }
        FrameVerifier x = plain(PUSH, 5, STORE, 0, NONE, 0, STORE, 0, PUSH, 6, STORE, 0, LOAD, 0, RETURN, 0);
        due("verify", x::verify, 0);
        dueTypes(x, 0, 2, INT);
        dueTypes(x, 0, 4, REFERENCE);
        dueTypes(x, 0, 6, INT);
        x.start(0, 0, 0);
        x.steps(4);
        dueLocals(x, 0);
        x.steps(3);
        due("LOAD leaves the local", () -> x.local(0), 6);
        due("and pushes it", () -> x.about(3) * 10 + x.about(4), 16);
    }

    private static void jumps() {
        FrameVerifier x = started(JUMP, 0);
        due("to itself", () -> x.steps(200), 200);
        dueAbout(x, 1, 0, 1, 0, -1);
        due("verify", x::verify, 0);
        dueResult("to the next, back, and to the last", 4, JUMP, 1, JUMP, 4, PUSH, 4, JUMP, 5, JUMP, 2,
                RETURN, 0);
    }

    private static void zero() {
        for (int value : ODD) {
            FrameVerifier x = started(PUSH, value, ZERO, 4, PUSH, 1, RETURN, 0, PUSH, 2, RETURN, 0);
            x.steps(2);
            dueAbout(x, 1, value == 0 ? 4 : 2, 1, 0, -1);
        }
        FrameVerifier x = started(PUSH, 0, ZERO, 0, PUSH, 0, RETURN, 0);
        x.steps(2);
        due("back to 0", () -> x.about(1), 0);
    }

    private static void missing() {
        FrameVerifier none = started(NONE, 0, MISSING, 4, PUSH, 1, RETURN, 0, PUSH, 2, RETURN, 0);
        none.steps(2);
        dueAbout(none, 1, 4, 1, 0, -1);
        for (int length : new int[] {0, 1, 12}) {
            FrameVerifier x = started(PUSH, length, NEW, 0, MISSING, 5, PUSH, 1, RETURN, 0, PUSH, 2,
                    RETURN, 0);
            x.steps(3);
            dueAbout(x, 1, 3, 1, 0, -1);
        }
    }

    /** Every element of arrays of 0 to 12, also where an earlier run left other numbers. */
    private static void zeros() {
        FrameVerifier x = coded(LOAD, 0, NEW, 0, STORE, 1, LOAD, 1, LENGTH, 0, ZERO, 15,
                LOAD, 1, LOAD, 2, GET, 0, LOAD, 1, LOAD, 2, PUSH, 7, PUT, 0, RETURN, 0, BAD, 0,
                PUSH, 0, RETURN, 0);
        x.routine(0, 0, 3, 2);
        for (int length = 0; length <= 12; length++) {
            for (int i = 0; i < Math.max(length, 1); i++) {
                int at = i;
                int size = length;
                due("start", () -> x.start(size, 0, at), true);
                x.steps(200);
                due("element " + i + " of " + length, () -> x.about(5), 0);
                due("elements", () -> x.about(6), size);
            }
        }
    }

    private static void getFromZero() {
        for (int i = 0; i < 3; i++) {
            dueResult("element " + i, 10 + i, PUSH, 3, NEW, 0, STORE, 0,
                    LOAD, 0, PUSH, 0, PUSH, 10, PUT, 0, LOAD, 0, PUSH, 1, PUSH, 11, PUT, 0,
                    LOAD, 0, PUSH, 2, PUSH, 12, PUT, 0, LOAD, 0, PUSH, i, GET, 0, RETURN, 0);
        }
        dueResult("element 11 of 12", 0, PUSH, 12, NEW, 0, PUSH, 11, GET, 0, RETURN, 0);
    }

    /** Two arrays beside each other: what goes into one's ends is not seen in the other. */
    private static void putOneAlone() {
        for (int i : new int[] {0, 11}) {
            FrameVerifier x = coded(PUSH, 12, NEW, 0, STORE, 3, PUSH, 12, NEW, 0, STORE, 4,
                    LOAD, 3, PUSH, i, PUSH, 5, PUT, 0, LOAD, 4, PUSH, 11 - i, PUSH, LEAST, PUT, 0,
                    LOAD, 3, LOAD, 0, GET, 0, LOAD, 4, LOAD, 0, GET, 0, LOAD, 4, RETURN, 0);
            x.routine(0, 0, 1, 8);
            for (int asked = 0; asked < 12; asked++) {
                int at = asked;
                x.start(at, 0, 0);
                x.steps(17);
                due("first array, " + at, () -> x.about(4), at == i ? 5 : 0);
                x.steps(3);
                due("second array, " + at, () -> x.about(4), at == 11 - i ? LEAST : 0);
            }
        }
    }

    private static void lengths() {
        for (int length = 0; length <= 12; length++) {
            dueResult("of " + length, length, PUSH, 2, NEW, 0, DROP, 0, PUSH, length, NEW, 0,
                    LENGTH, 0, RETURN, 0);
        }
    }

    private static void turnings() {
        FrameVerifier x = started(PUSH, 1, TWICE, 0, DROP, 0, NONE, 0, EXCHANGE, 0, TWICE, 0, DROP, 0,
                DROP, 0, DROP, 0, DROP, 0);
        int[][] heightAndTop = {{1, 1}, {2, 1}, {1, 1}, {2, 0}, {2, 1}, {3, 1}, {2, 1}, {1, 0}, {0, -1}};
        for (int[] want : heightAndTop) {
            due("step", x::step, 1);
            due("height", () -> x.about(3), want[0]);
            due("top", () -> x.about(4), want[1]);
        }
        dueTrap(x, 0, UNFIT);
    }

    private static void passing() {
        for (int parameters = 0; parameters <= 3; parameters++) {
            FrameVerifier x = coded(PUSH, 1, PUSH, 2, PUSH, 3, PUSH, 4, PUSH, 5, CALL, 1, DROP, 0,
                    PUSH, 9, RETURN, 0);
            x.routine(0, 0, 0, 0);
            x.routine(1, 7, parameters, 0);
            due("verify", x::verify, 0);
            x.start(0, 0, 0);
            x.steps(6);
            int count = parameters;
            for (int k = 0; k < 3; k++) {
                int at = k;
                due("parameter " + k + " of " + count, () -> x.local(at), k < count ? 6 - count + k : NOTHING);
            }
            x.steps(2);
            due("the height after it", () -> x.about(3), 6 - count);
            x.step();
            due("what it left below", () -> x.about(4), 5 - count);
        }
    }

    private static void pushedResult() {
        FrameVerifier x = coded(PUSH, 1, PUSH, 2, PUSH, 3, PUSH, 4, PUSH, 5, CALL, 1, RETURN, 0,
                PUSH, 0, NEW, 0, RETURN, 0);
        x.routine(0, 0, 0, 8);
        x.routine(1, 7, 0, 8);
        due("verify", x::verify, 0);
        dueTypes(x, 0, 6, 0, 0, 0, 0, 0, 0, 1, 1, 1, 1, 1, 2);
        x.start(0, 0, 0);
        x.steps(9);
        dueAbout(x, 1, 6, 1, 6, 1);
    }

    private static void topIsResult() {
        FrameVerifier x = coded(PUSH, 1, PUSH, 2, PUSH, 3, PUSH, 4, PUSH, 5, PUSH, 6, RETURN, 0);
        x.routine(0, 0, 0, 0);
        due("with five below it", x::verify, 0);
        x.start(0, 0, 0);
        due("steps", () -> x.steps(200), 7);
        due("result", () -> x.about(5), 6);
    }

    private static void oneMore() {
        FrameVerifier x = started(PUSH, 1, STORE, 0, LOAD, 0, TWICE, 0, ADD, 0, NEW, 0, TWICE, 0,
                TWICE, 0, PUSH, 0, PUSH, 8, PUT, 0, PUSH, 0, GET, 0, EXCHANGE, 0, LENGTH, 0, SUBTRACT, 0,
                TWICE, 0, MULTIPLY, 0, PUSH, 5, DIVIDE, 0, NONE, 0, DROP, 0, RETURN, 0);
        int last = x.about(7) - 1;
        for (int i = 0; i < last; i++) {
            int at = i;
            due("address", () -> x.about(1), at);
            due("step", x::step, 1);
        }
        due("the end", x::step, 0);
        due("result", () -> x.about(5), 7);
    }
}
