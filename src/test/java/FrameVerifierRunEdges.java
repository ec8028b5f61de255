/** The boundary cases that 'Terms' names of running and of the trap. */
public final class FrameVerifierRunEdges extends Checks {
    public static void main(String[] args) {
        watch();
        test("START begins with routine 0 and its parameters", FrameVerifierRunEdges::startBegins);
        test("A STEP does one instruction", FrameVerifierRunEdges::oneInstruction);
        test("A TRAP ends the run", FrameVerifierRunEdges::trapEnds);
        test("the step does nothing then", FrameVerifierRunEdges::trapDoesNothing);
        test("the first that holds: unfit before a division by 0", FrameVerifierRunEdges::unfitBeforeDivision);
        test("the first that holds: unfit before none", FrameVerifierRunEdges::unfitBeforeNone);
        test("the first that holds: unfit before outside", FrameVerifierRunEdges::unfitBeforeOutside);
        test("the first that holds: unfit before full", FrameVerifierRunEdges::unfitBeforeFull);
        test("the first that holds: none before outside", FrameVerifierRunEdges::noneBeforeOutside);
        test("the instruction isn't there", FrameVerifierRunEdges::instructionNotThere);
        test("doesn't fit the values: the op", FrameVerifierRunEdges::unfitOp);
        test("doesn't fit the values: too few", FrameVerifierRunEdges::unfitTooFew);
        test("doesn't fit the values: types", FrameVerifierRunEdges::unfitTypes);
        test("doesn't fit the values: LOAD of an empty local", FrameVerifierRunEdges::unfitLoad);
        test("doesn't fit the values: n", FrameVerifierRunEdges::unfitNumber);
        test("doesn't fit the values: room", FrameVerifierRunEdges::unfitRoom);
        test("doesn't fit the values: nothing behind", FrameVerifierRunEdges::unfitBehind);
        test("doesn't fit the values: RETURN", FrameVerifierRunEdges::unfitReturn);
        test("only in code that isn't verified", FrameVerifierRunEdges::valuesNotTypes);
        test("or in a run that was started before", FrameVerifierRunEdges::startedBefore);
        test("ArithmeticException: a division by 0", FrameVerifierRunEdges::divisionByZero);
        test("NoSuchElementException: GET, PUT or LENGTH of none", FrameVerifierRunEdges::ofNone);
        test("IndexOutOfBoundsException: i is no element", FrameVerifierRunEdges::noElement);
        test("NEW of less than 0 or more than 12", FrameVerifierRunEdges::newTooSmallOrLarge);
        test("more than 30 elements in all", FrameVerifierRunEdges::heapIsFull);
        test("since the start", FrameVerifierRunEdges::sinceTheStart);
        test("a CALL inside of seven others", FrameVerifierRunEdges::callsInside);
        test("a CALL that is not inside, but after", FrameVerifierRunEdges::callsAfter);
        test("A RETURN of the first frame ends the run", FrameVerifierRunEdges::returnEnds);
        end();
    }

    private static void startBegins() {
        FrameVerifier x = coded(PUSH, 1, RETURN, 0, LOAD, 0, LOAD, 2, SUBTRACT, 0, RETURN, 0);
        x.routine(1, 0, 0, 0);
        x.routine(0, 2, 3, 2);
        due("start", () -> x.start(50, 99, 8), true);
        dueAbout(x, 1, 2, 1, 0, -1);
        dueLocals(x, 50, 0, 8);
        due("steps", () -> x.steps(9), 4);
        due("result", () -> x.about(5), 42);
    }

    private static void oneInstruction() {
        FrameVerifier x = started(PUSH, 3, CALL, 1, RETURN, 0, LOAD, 0, RETURN, 0);
        x.routine(1, 3, 1, 0);
        int[][] want = {{1, 0, 1, 0, -1}, {1, 1, 1, 1, 3}, {1, 3, 2, 0, -1}, {1, 4, 2, 1, 3}, {1, 2, 1, 1, 3},
            {0, -1, -1, -1, -1, 3}};
        dueAbout(x, want[0]);
        for (int i = 1; i < want.length; i++) {
            due("step", x::step, i < want.length - 1 ? 1 : 0);
            dueAbout(x, want[i]);
        }
    }

    private static void trapEnds() {
        FrameVerifier x = coded(CALL, 1, RETURN, 0, PUSH, 1, PUSH, 0, DIVIDE, 0, RETURN, 0);
        x.routine(0, 0, 0, 0);
        x.routine(1, 2, 0, 0);
        due("verify", x::verify, 0);
        x.start(0, 0, 0);
        x.steps(3);
        due("frames before", () -> x.about(2), 2);
        dueTrap(x, 0, DIVISION);
        dueAbout(x, 0, -1, -1, -1, -1, 0, 0, 6);
        dueLocals(x);
        due("a new run", () -> x.start(0, 0, 0), true);
        dueAbout(x, 1, 0, 1, 0, -1);
        due("traps anew", () -> x.steps(200), DIVISION);
        due("still verified", x::isVerified, true);
    }

    private static void trapDoesNothing() {
        FrameVerifier x = plain(PUSH, 44, RETURN, 0);
        x.start(0, 0, 0);
        x.steps(2);
        append(x, PUSH, 5, NEW, 0, DROP, 0, PUSH, 13, NEW, 0, RETURN, 0);
        x.routine(0, 2, 0, 8);
        x.start(0, 0, 0);
        dueTrap(x, 4, FULL);
        due("the elements are those before", () -> x.about(6), 5);
        due("the result is that of the run before", () -> x.about(5), 44);
        due("the instructions are there", () -> x.about(7), 8);
    }

    private static void unfitBeforeDivision() {
        dueTrap(started(PUSH, 1, PUSH, 0, DIVIDE, 0), 2, UNFIT);
        dueTrap(started(NONE, 0, PUSH, 0, DIVIDE, 0, RETURN, 0), 2, UNFIT);
        dueTrap(started(PUSH, 0, DIVIDE, 0, RETURN, 0), 1, UNFIT);
    }

    private static void unfitBeforeNone() {
        dueTrap(started(NONE, 0, LENGTH, 0), 1, UNFIT);
        dueTrap(started(NONE, 0, PUSH, 0, GET, 0), 2, UNFIT);
        dueTrap(started(NONE, 0, PUSH, 0, PUSH, 0, PUT, 0), 3, UNFIT);
        dueTrap(started(NONE, 0, NONE, 0, GET, 0, RETURN, 0), 2, UNFIT);
        dueTrap(started(NONE, 0, PUSH, 0, NONE, 0, PUT, 0, PUSH, 0, RETURN, 0), 3, UNFIT);
    }

    private static void unfitBeforeOutside() {
        dueTrap(started(PUSH, 1, NEW, 0, PUSH, 1, GET, 0), 3, UNFIT);
        dueTrap(started(PUSH, 1, NEW, 0, PUSH, 1, PUSH, 0, PUT, 0), 4, UNFIT);
        dueTrap(started(PUSH, 1, NEW, 0, PUSH, 1, NONE, 0, PUT, 0, PUSH, 0, RETURN, 0), 4, UNFIT);
    }

    private static void unfitBeforeFull() {
        dueTrap(started(PUSH, 13, NEW, 0), 1, UNFIT);
        dueTrap(started(PUSH, -1, NEW, 0), 1, UNFIT);
        FrameVerifier calls = recursive();
        calls.start(8, 0, 0);
        calls.steps(7 * 6 + 5);
        calls.routine(0, 0, 1, 1);
        dueTrap(calls, 0, UNFIT);
        FrameVerifier deep = coded(CALL, 0);
        deep.routine(0, 0, 0, 0);
        deep.start(0, 0, 0);
        dueTrap(deep, 0, UNFIT);
    }

    private static void noneBeforeOutside() {
        for (int i : new int[] {LEAST, -1, 0, 1, MOST}) {
            dueTrap(started(NONE, 0, PUSH, i, GET, 0, RETURN, 0), 2, MISSES);
            dueTrap(started(NONE, 0, PUSH, i, PUSH, 0, PUT, 0, PUSH, 0, RETURN, 0), 3, MISSES);
        }
    }

    private static void instructionNotThere() {
        for (int start : new int[] {LEAST, -1, 2, 100, MOST}) {
            FrameVerifier x = coded(PUSH, 0, RETURN, 0);
            x.routine(0, start, 0, 0);
            due("start", () -> x.start(0, 0, 0), true);
            dueTrap(x, 0, UNFIT);
            FrameVerifier called = coded(CALL, 1, RETURN, 0);
            called.routine(0, 0, 0, 0);
            called.routine(1, start, 0, 0);
            called.start(0, 0, 0);
            dueTrap(called, 1, UNFIT);
        }
        dueTrap(started(), 0, UNFIT);
    }

    private static void unfitOp() {
        for (int op : new int[] {LEAST, -1, 20, MOST}) {
            dueTrap(started(PUSH, 0, PUSH, 0, PUSH, 0, op, 0, RETURN, 0), 3, UNFIT);
        }
    }

    /** The stack before the instruction, which traps there. */
    private static void dueUnfit(String stack, int op) {
        FrameVerifier x = new FrameVerifier();
        push(x, stack);
        append(x, op, 0, PUSH, 0, RETURN, 0);
        x.routine(0, 0, 0, 0);
        x.start(0, 0, 0);
        dueTrap(x, stack.length(), UNFIT);
    }

    private static void unfitTooFew() {
        for (int op : new int[] {ADD, SUBTRACT, MULTIPLY, DIVIDE, EXCHANGE}) {
            dueUnfit("", op);
            dueUnfit("i", op);
        }
        for (int op : new int[] {STORE, ZERO, MISSING, NEW, LENGTH, TWICE, DROP, RETURN, GET, PUT}) {
            dueUnfit("", op);
        }
        dueUnfit("i", GET);
        dueUnfit("i", PUT);
        dueUnfit("ii", PUT);
        for (int parameters = 1; parameters <= 3; parameters++) {
            FrameVerifier x = new FrameVerifier();
            repeat(x, parameters - 1, PUSH, 0);
            append(x, CALL, 1, RETURN, 0);
            x.routine(0, 0, 0, 0);
            x.routine(1, 0, parameters, 0);
            x.start(0, 0, 0);
            dueTrap(x, parameters - 1, UNFIT);
        }
    }

    private static void unfitTypes() {
        for (int op : new int[] {ADD, SUBTRACT, MULTIPLY, DIVIDE}) {
            dueUnfit("ir", op);
            dueUnfit("ri", op);
        }
        dueUnfit("r", ZERO);
        dueUnfit("i", MISSING);
        dueUnfit("r", NEW);
        dueUnfit("i", LENGTH);
        dueUnfit("ii", GET);
        dueUnfit("rr", GET);
        dueUnfit("iii", PUT);
        dueUnfit("rri", PUT);
        dueUnfit("rir", PUT);
        for (int kinds = 1; kinds < 8; kinds++) {
            FrameVerifier x = started(PUSH, 0, PUSH, 0, PUSH, 0, CALL, 1, RETURN, 0);
            x.routine(1, 0, 3, kinds);
            dueTrap(x, 3, UNFIT);
        }
    }

    private static void unfitLoad() {
        for (int i = 0; i < 6; i++) {
            FrameVerifier x = coded(LOAD, i, RETURN, 0);
            x.routine(0, 0, 2, 0);
            x.start(0, 0, 0);
            if (i < 2) {
                due("a parameter", x::step, 1);
            } else {
                dueTrap(x, 0, UNFIT);
            }
        }
    }

    private static void unfitNumber() {
        for (int n : new int[] {LEAST, -1, 6, MOST}) {
            dueTrap(started(LOAD, n, RETURN, 0), 0, UNFIT);
            dueTrap(started(PUSH, 0, STORE, n, PUSH, 0, RETURN, 0), 1, UNFIT);
        }
        for (int n : new int[] {LEAST, -1, 4, 100, MOST}) {
            dueTrap(started(JUMP, n, PUSH, 0, PUSH, 0, RETURN, 0), 0, UNFIT);
            dueTrap(started(CALL, n, PUSH, 0, PUSH, 0, RETURN, 0), 0, UNFIT);
            for (int value = 0; value <= 1; value++) {
                dueTrap(started(PUSH, value, ZERO, n, PUSH, 0, RETURN, 0), 1, UNFIT);
            }
            dueTrap(started(NONE, 0, MISSING, n, PUSH, 0, RETURN, 0), 1, UNFIT);
        }
        for (int r = 1; r <= 3; r++) {
            dueTrap(started(CALL, r, RETURN, 0), 0, UNFIT);
        }
        FrameVerifier there = plain(PUSH, 1, NEW, 0, MISSING, 9, PUSH, 0, RETURN, 0);
        there.start(0, 0, 0);
        dueTrap(there, 2, UNFIT);
    }

    private static void unfitRoom() {
        for (int op : new int[] {PUSH, NONE, LOAD, TWICE, CALL}) {
            FrameVerifier x = new FrameVerifier();
            repeat(x, 5, PUSH, 0);
            append(x, TWICE, 0, op, op == CALL ? 1 : 0, PUSH, 0, RETURN, 0);
            x.routine(0, 0, 1, 0);
            x.routine(1, 7, 0, 0);
            x.start(0, 0, 0);
            dueTrap(x, 6, UNFIT);
        }
        FrameVerifier five = new FrameVerifier();
        repeat(five, 5, PUSH, 0);
        append(five, PUSH, 9, EXCHANGE, 0, CALL, 1, ADD, 0, RETURN, 0);
        five.routine(0, 0, 0, 0);
        five.routine(1, 9, 1, 0);
        five.start(0, 0, 0);
        due("EXCHANGE and CALL on a full stack", () -> five.steps(8), 8);
        dueTrap(five, 0, UNFIT);
    }

    private static void unfitBehind() {
        int[][] last = {{PUSH, 0}, {ADD, 2}, {SUBTRACT, 2}, {MULTIPLY, 2}, {DIVIDE, 2}, {LOAD, 0}, {STORE, 1},
            {ZERO, 1}, {NONE, 0}, {NEW, 1}, {TWICE, 1}, {EXCHANGE, 2}, {DROP, 1}, {CALL, 0}};
        for (int[] of : last) {
            FrameVerifier x = new FrameVerifier();
            repeat(x, of[1], PUSH, 1);
            append(x, of[0], 0);
            x.routine(0, 0, of[0] == CALL ? 0 : 1, 0);
            x.start(0, 0, 0);
            dueTrap(x, of[1], UNFIT);
        }
        // Even where it would not go behind itself.
        dueTrap(started(PUSH, 0, ZERO, 0), 1, UNFIT);
        dueTrap(started(NONE, 0, MISSING, 0), 1, UNFIT);
        dueTrap(started(PUSH, 2, NEW, 0, LENGTH, 0), 2, UNFIT);
        dueTrap(started(PUSH, 2, NEW, 0, PUSH, 0, GET, 0), 3, UNFIT);
        dueTrap(started(PUSH, 2, NEW, 0, PUSH, 0, PUSH, 0, PUT, 0), 4, UNFIT);
        FrameVerifier jump = started(JUMP, 0);
        due("JUMP needs nothing behind", jump::step, 1);
        FrameVerifier ends = started(PUSH, 0, RETURN, 0);
        due("nor RETURN", () -> ends.steps(5), 2);
    }

    private static void unfitReturn() {
        dueTrap(started(RETURN, 0), 0, UNFIT);
        dueTrap(started(NONE, 0, RETURN, 0), 1, UNFIT);
        dueTrap(started(PUSH, 0, NONE, 0, RETURN, 0), 2, UNFIT);
        FrameVerifier x = coded(PUSH, 0, RETURN, 0, CALL, 1, RETURN, 0);
        x.routine(0, 0, 0, 8);
        x.start(0, 0, 0);
        dueTrap(x, 1, UNFIT);
        x.routine(0, 2, 0, 0);
        x.routine(1, 0, 0, 8);
        x.start(0, 0, 0);
        dueTrap(x, 2, UNFIT);
    }

    /** What does not fit types by one way may fit the values that are there by the way gone. */
    private static void valuesNotTypes() {
        FrameVerifier any = coded(LOAD, 0, ZERO, 4, PUSH, 7, JUMP, 5, NONE, 0, RETURN, 0);
        any.routine(0, 0, 1, 0);
        due("ANY", any::verify, 1005);
        any.start(1, 0, 0);
        due("an int", () -> any.steps(9), 5);
        due("result", () -> any.about(5), 7);
        any.start(0, 0, 0);
        dueTrap(any, 3, UNFIT);
        FrameVerifier torn = coded(LOAD, 0, ZERO, 3, PUSH, 7, PUSH, 8, RETURN, 0);
        torn.routine(0, 0, 1, 0);
        due("torn", torn::verify, 1003);
        for (int way = 0; way <= 1; way++) {
            torn.start(way, 0, 0);
            int steps = 4 + way;
            due("either way", () -> torn.steps(9), steps);
            due("result", () -> torn.about(5), 8);
        }
        FrameVerifier empty = coded(LOAD, 0, ZERO, 4, PUSH, 5, STORE, 4, LOAD, 4, RETURN, 0);
        empty.routine(0, 0, 1, 0);
        due("perhaps empty", empty::verify, 1004);
        empty.start(9, 0, 0);
        due("not empty", () -> empty.steps(9), 6);
        empty.start(0, 0, 0);
        dueTrap(empty, 2, UNFIT);
    }

    private static void startedBefore() {
        FrameVerifier result = coded(PUSH, 1, RETURN, 0, NONE, 0, RETURN, 0);
        result.routine(0, 0, 0, 0);
        result.start(0, 0, 0);
        result.step();
        result.routine(0, 2, 0, 8);
        due("verified anew", result::verify, 0);
        dueTrap(result, 0, UNFIT);
        result.start(0, 0, 0);
        due("a run that is started after it", () -> result.steps(9), 2);
        FrameVerifier passed = coded(PUSH, 1, CALL, 1, RETURN, 0, NONE, 0, CALL, 1, RETURN, 0, PUSH, 3, RETURN, 0);
        passed.routine(0, 0, 0, 0);
        passed.routine(1, 6, 1, 0);
        passed.start(0, 0, 0);
        passed.step();
        passed.routine(1, 6, 1, 1);
        passed.routine(0, 3, 0, 0);
        due("verified anew", passed::verify, 0);
        dueTrap(passed, 0, UNFIT);
        FrameVerifier grown = started(PUSH, 1);
        grown.add(RETURN, 0);
        due("an instruction that came in time", () -> grown.steps(9), 2);
    }

    private static void divisionByZero() {
        for (int lower : new int[] {LEAST, -1, 0, 1, MOST}) {
            FrameVerifier x = started(PUSH, lower, PUSH, 0, DIVIDE, 0, RETURN, 0);
            due("verify", x::verify, 0);
            dueTrap(x, 2, DIVISION);
        }
        for (int upper : new int[] {LEAST, -1, 1, MOST}) {
            FrameVerifier x = started(PUSH, 0, PUSH, upper, DIVIDE, 0, RETURN, 0);
            due("0 by another", () -> x.steps(9), 4);
            due("is 0", () -> x.about(5), 0);
        }
    }

    private static void ofNone() {
        FrameVerifier get = started(NONE, 0, PUSH, 0, GET, 0, RETURN, 0);
        due("verify", get::verify, 0);
        dueTrap(get, 2, MISSES);
        FrameVerifier put = started(NONE, 0, PUSH, 0, PUSH, 0, PUT, 0, PUSH, 0, RETURN, 0);
        due("verify", put::verify, 0);
        dueTrap(put, 3, MISSES);
        FrameVerifier length = started(NONE, 0, LENGTH, 0, RETURN, 0);
        due("verify", length::verify, 0);
        dueTrap(length, 1, MISSES);
        FrameVerifier passed = coded(LOAD, 0, LENGTH, 0, RETURN, 0);
        passed.routine(0, 0, 1, 1);
        passed.start(5, 0, 0);
        dueTrap(passed, 1, MISSES);
    }

    private static void noElement() {
        for (int length : new int[] {0, 1, 12}) {
            for (int i : new int[] {LEAST, -1, 0, length - 1, length, length + 1, MOST}) {
                boolean element = i >= 0 && i < length;
                FrameVerifier get = started(PUSH, length, NEW, 0, PUSH, i, GET, 0, RETURN, 0);
                FrameVerifier put = started(PUSH, length, NEW, 0, PUSH, i, PUSH, 0, PUT, 0, PUSH, 0, RETURN, 0);
                if (element) {
                    due("GET " + i + " of " + length, () -> get.steps(9), 5);
                    due("PUT " + i + " of " + length, () -> put.steps(9), 7);
                } else {
                    dueTrap(get, 3, OUTSIDE);
                    dueTrap(put, 4, OUTSIDE);
                }
            }
        }
        // A place outside of one array, where another one begins.
        dueTrap(started(PUSH, 2, NEW, 0, STORE, 0, PUSH, 2, NEW, 0, STORE, 1, LOAD, 0, PUSH, 2, GET, 0,
                RETURN, 0), 8, OUTSIDE);
        dueTrap(started(PUSH, 2, NEW, 0, STORE, 0, PUSH, 2, NEW, 0, STORE, 1, LOAD, 1, PUSH, -1, GET, 0,
                RETURN, 0), 8, OUTSIDE);
    }

    private static void newTooSmallOrLarge() {
        for (int length : new int[] {LEAST, -1, 13, 14, 30, 31, MOST}) {
            FrameVerifier x = started(PUSH, length, NEW, 0, LENGTH, 0, RETURN, 0);
            due("verify", x::verify, 0);
            dueTrap(x, 1, FULL);
        }
        for (int length = 0; length <= 12; length++) {
            FrameVerifier x = started(PUSH, length, NEW, 0, LENGTH, 0, RETURN, 0);
            int want = length;
            due("NEW of " + length, () -> x.steps(9), 4);
            due("elements", () -> x.about(6), want);
            due("result", () -> x.about(5), want);
        }
    }

    /** Arrays of these lengths one after the other, dropped at once; the last one is tried. */
    private static FrameVerifier making(int... lengths) {
        FrameVerifier x = new FrameVerifier();
        for (int length : lengths) {
            append(x, PUSH, length, NEW, 0, DROP, 0);
        }
        append(x, PUSH, 0, RETURN, 0);
        x.routine(0, 0, 0, 0);
        x.start(0, 0, 0);
        return x;
    }

    private static void heapIsFull() {
        int[][] fitting = {{12, 12, 6}, {10, 10, 10}, {12, 12, 6, 0, 0}, {12, 12, 5, 1}, {6, 12, 12}};
        for (int[] lengths : fitting) {
            FrameVerifier x = making(lengths);
            due("steps", () -> x.steps(200), 3 * lengths.length + 2);
            due("exactly 30", () -> x.about(6), 30);
        }
        int[][] tooMany = {{12, 12, 7}, {10, 10, 11}, {12, 12, 6, 1}, {12, 12, 6, 0, 1}, {7, 12, 12},
            {12, 12, 12}};
        for (int[] lengths : tooMany) {
            FrameVerifier x = making(lengths);
            dueTrap(x, 3 * lengths.length - 2, FULL);
        }
        // Those that were made in other frames count too.
        FrameVerifier x = coded(PUSH, 12, NEW, 0, DROP, 0, CALL, 1, DROP, 0, CALL, 1, RETURN, 0, PUSH, 9, NEW, 0,
                LENGTH, 0, RETURN, 0);
        x.routine(0, 0, 0, 0);
        x.routine(1, 7, 0, 0);
        x.start(0, 0, 0);
        due("12 + 9 + 9", () -> x.steps(99), 15);
        due("elements", () -> x.about(6), 30);
    }

    private static void sinceTheStart() {
        FrameVerifier x = making(12, 12, 6);
        for (int i = 0; i < 3; i++) {
            due("steps", () -> x.steps(200), 11);
            due("elements", () -> x.about(6), 30);
            x.start(0, 0, 0);
            due("elements at the start", () -> x.about(6), 0);
        }
        x.steps(8);
        x.start(0, 0, 0);
        due("in place of one that runs", () -> x.steps(200), 11);
        FrameVerifier trapped = making(12, 12, 7);
        for (int i = 0; i < 2; i++) {
            due("the trap", () -> trapped.steps(200), FULL);
            due("elements", () -> trapped.about(6), 24);
            trapped.start(0, 0, 0);
        }
    }

    /** Calls itself as often as its parameter says; six steps for each, then four, then returns. */
    private static FrameVerifier recursive() {
        FrameVerifier x = coded(LOAD, 0, ZERO, 7, LOAD, 0, PUSH, 1, SUBTRACT, 0, CALL, 0, RETURN, 0,
                PUSH, 5, RETURN, 0);
        x.routine(0, 0, 1, 0);
        return x;
    }

    private static void callsInside() {
        FrameVerifier x = recursive();
        due("verify", x::verify, 0);
        for (int deep = 0; deep <= 7; deep++) {
            x.start(deep, 0, 0);
            int calls = deep;
            due("down, " + deep, () -> x.steps(6 * calls + 1), 6 * calls + 1);
            due("frames", () -> x.about(2), calls + 1);
            due("up, " + deep, () -> x.steps(200), 3 + calls);
            due("result", () -> x.about(5), 5);
        }
        x.start(8, 0, 0);
        due("down to the last one", () -> x.steps(6 * 7 + 5), 47);
        due("frames", () -> x.about(2), 8);
        dueTrap(x, 0, FULL);
        FrameVerifier others = coded(CALL, 1, RETURN, 0, CALL, 2, RETURN, 0, CALL, 1, RETURN, 0);
        others.routine(0, 0, 0, 0);
        others.routine(1, 2, 0, 0);
        others.routine(2, 4, 0, 0);
        others.start(0, 0, 0);
        dueTrap(others, 7, FULL);
    }

    private static void callsAfter() {
        FrameVerifier x = new FrameVerifier();
        repeat(x, 20, CALL, 1, DROP, 0);
        append(x, PUSH, 6, RETURN, 0);
        x.routine(0, 0, 0, 0);
        x.routine(1, 40, 0, 0);
        x.start(0, 0, 0);
        due("twenty, each after another", () -> x.steps(200), 82);
        due("result", () -> x.about(5), 6);
        FrameVerifier y = recursive();
        y.start(8, 0, 0);
        due("the trap", () -> y.steps(200), FULL);
        y.start(7, 0, 0);
        due("a new run has no calls yet", () -> y.steps(200), 7 * 6 + 4 + 7);
    }

    private static void returnEnds() {
        FrameVerifier x = coded(CALL, 1, PUSH, 1, ADD, 0, RETURN, 0, PUSH, 30, RETURN, 0);
        x.routine(0, 0, 0, 0);
        x.routine(1, 4, 0, 0);
        x.start(0, 0, 0);
        x.steps(2);
        due("RETURN of another frame", x::step, 1);
        due("no result yet", () -> x.about(5), 0);
        dueAbout(x, 1, 1, 1, 1, 30);
        x.steps(2);
        due("RETURN of the first frame", x::step, 0);
        dueAbout(x, 0, -1, -1, -1, -1, 31, 0, 6);
        due("no step more", x::step, 0);
        due("the result stays", () -> x.about(5), 31);
    }
}
