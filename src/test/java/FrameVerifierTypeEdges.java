/** The boundary cases that 'Terms' names of types, of states that meet, of what fits and is right. */
public final class FrameVerifierTypeEdges extends Checks {
    /** What each op takes from the bottom up: i an int, r a reference, a any. CALL is tried apart. */
    private static final String[] TAKES = {"", "ii", "ii", "ii", "ii", "", "a", "", "i", "", "r", "i",
        "ri", "rii", "r", "a", "aa", "a", "", "i"};
    private static final int[] PUSHING = {PUSH, NONE, LOAD, TWICE, CALL};

    public static void main(String[] args) {
        watch();
        test("EMPTY (0), INT (1), REFERENCE (2) or ANY (3)", FrameVerifierTypeEdges::fourTypes);
        test("of several that meet: that which all are, else ANY", FrameVerifierTypeEdges::localsMeet);
        test("of several that meet, on the stack", FrameVerifierTypeEdges::stacksMeet);
        test("of several that meet, three", FrameVerifierTypeEdges::threeMeet);
        test("On the stack there is no EMPTY", FrameVerifierTypeEdges::noEmptyOnTheStack);
        test("A STATE is types for six locals and a stack of some height", FrameVerifierTypeEdges::someHeight);
        test("States that MEET make that of what meets place by place", FrameVerifierTypeEdges::placeByPlace);
        test("with different heights they are TORN", FrameVerifierTypeEdges::differentHeights);
        test("what is torn stays so", FrameVerifierTypeEdges::tornStays);
        test("the START has its parameters' types", FrameVerifierTypeEdges::startsState);
        test("An address WAITS when its state became another one", FrameVerifierTypeEdges::waitsAgain);
        test("the first one counts", FrameVerifierTypeEdges::firstCounts);
        test("At first only the start has a state", FrameVerifierTypeEdges::onlyTheStart);
        test("the least one that does is taken", FrameVerifierTypeEdges::leastIsTaken);
        test("if it fits its state, what comes of that meets", FrameVerifierTypeEdges::unfitGoesNowhere);
        test("what comes of that", FrameVerifierTypeEdges::whatComesOfEach);
        test("what comes of that: CALL", FrameVerifierTypeEdges::whatComesOfCall);
        test("the addresses where it can go on", FrameVerifierTypeEdges::whereItGoesOn);
        test("what has met stays, whatever comes later", FrameVerifierTypeEdges::whatHasMetStays);
        test("FITS its state, if it has one that isn't torn", FrameVerifierTypeEdges::tornNeverFits);
        test("the op is one of these", FrameVerifierTypeEdges::oneOfTheseOps);
        test("it takes as many values as are there", FrameVerifierTypeEdges::asManyAsThere);
        test("each of the type that it must have", FrameVerifierTypeEdges::typesOfTaken);
        test("each of the type that it must have: CALL", FrameVerifierTypeEdges::typesOfPassed);
        test("TWICE, EXCHANGE, DROP and STORE take any, also ANY", FrameVerifierTypeEdges::takeAny);
        test("LOAD finds INT or REFERENCE", FrameVerifierTypeEdges::loadFinds);
        test("n is a local", FrameVerifierTypeEdges::numberOfLocal);
        test("n is the address of an instruction", FrameVerifierTypeEdges::numberOfAddress);
        test("n is a routine that is there", FrameVerifierTypeEdges::numberOfRoutine);
        test("as the op needs it", FrameVerifierTypeEdges::numberNotNeeded);
        test("the stack has room for what is pushed (at most six)", FrameVerifierTypeEdges::room);
        test("room, where as many go before", FrameVerifierTypeEdges::roomOfTaken);
        test("where it goes on behind itself, an instruction is there", FrameVerifierTypeEdges::behind);
        test("RETURN finds a value of the routine's result's type", FrameVerifierTypeEdges::returns);
        test("and perhaps others below it", FrameVerifierTypeEdges::othersBelow);
        test("RIGHT if its start is the address of an instruction", FrameVerifierTypeEdges::rightStart);
        test("every instruction that has a state fits it", FrameVerifierTypeEdges::everyOneFits);
        test("VERIFIED if routine 0 is there", FrameVerifierTypeEdges::routineZeroIsThere);
        test("and all that are there are right", FrameVerifierTypeEdges::allAreRight);
        test("a new instruction or routine makes it unverified", FrameVerifierTypeEdges::newMakesUnverified);
        end();
    }

    /** Instructions that leave a type in local 0, which was EMPTY. */
    private static void setLocal(FrameVerifier x, int type) {
        int at = x.about(7);
        if (type == INT) {
            append(x, PUSH, 0, STORE, 0);
        } else if (type == REFERENCE) {
            append(x, NONE, 0, STORE, 0);
        } else if (type == ANY) {
            append(x, PUSH, 0, ZERO, at + 4, NONE, 0, STORE, 0);
        }
    }

    /** How many instructions setLocal makes. */
    private static int sizeOfSet(int type) {
        return type == EMPTY ? 0 : type == ANY ? 4 : 2;
    }

    private static void fourTypes() {
        for (int type = EMPTY; type <= ANY; type++) {
            FrameVerifier x = new FrameVerifier();
            setLocal(x, type);
            append(x, BAD, 0);
            x.routine(0, 0, 0, 0);
            dueTypes(x, 0, sizeOfSet(type), type);
        }
    }

    private static void localsMeet() {
        for (int a = EMPTY; a <= ANY; a++) {
            for (int b = EMPTY; b <= ANY; b++) {
                int other = 3 + sizeOfSet(a);
                int meeting = other + sizeOfSet(b);
                FrameVerifier x = coded(PUSH, 0, ZERO, other);
                setLocal(x, a);
                append(x, JUMP, meeting);
                setLocal(x, b);
                append(x, BAD, 0);
                x.routine(0, 0, 0, 0);
                dueTypes(x, 0, meeting, a == b ? a : ANY);
            }
        }
    }

    private static void stacksMeet() {
        String[] kinds = {"i", "r", "a"};
        for (int a = 0; a < 3; a++) {
            for (int b = 0; b < 3; b++) {
                int other = 3 + (a == 2 ? 5 : 1);
                int meeting = other + (b == 2 ? 5 : 1);
                FrameVerifier x = coded(PUSH, 0, ZERO, other);
                push(x, kinds[a]);
                append(x, JUMP, meeting);
                push(x, kinds[b]);
                append(x, BAD, 0);
                x.routine(0, 0, 0, 0);
                dueTypes(x, 0, meeting, 0, 0, 0, 0, 0, 0, a == b ? a + 1 : ANY);
            }
        }
    }

    /** A state that comes to 14 by three ways, each with a value of its own in local 0. */
    private static void threeMeet() {
        int[][] ways = {{PUSH, PUSH, PUSH}, {NONE, NONE, NONE}, {PUSH, PUSH, NONE}, {PUSH, NONE, PUSH},
            {NONE, PUSH, PUSH}, {PUSH, NONE, NONE}};
        int[] want = {INT, REFERENCE, ANY, ANY, ANY, ANY};
        for (int i = 0; i < ways.length; i++) {
            FrameVerifier x = plain(PUSH, 0, ZERO, 9, PUSH, 0, ZERO, 12, ways[i][0], 0, STORE, 0, JUMP, 14,
                    BAD, 0, BAD, 0, ways[i][1], 0, STORE, 0, JUMP, 14, ways[i][2], 0, STORE, 0, BAD, 0);
            dueTypes(x, 0, 14, want[i]);
        }
    }

    private static void noEmptyOnTheStack() {
        for (int height = 0; height <= 6; height++) {
            FrameVerifier x = new FrameVerifier();
            repeat(x, height, NONE, 0);
            append(x, BAD, 0);
            x.routine(0, 0, 0, 0);
            int at = height;
            for (int slot = 6; slot < 12; slot++) {
                int asks = slot;
                due("slot " + slot + " at height " + height, () -> x.type(0, at, asks),
                        slot < 6 + at ? REFERENCE : NOTHING);
            }
        }
    }

    private static void someHeight() {
        FrameVerifier x = coded(PUSH, 1, NONE, 0, PUSH, 1, NONE, 0, PUSH, 1, NONE, 0, STORE, 5, STORE, 4,
                STORE, 3, STORE, 0, DROP, 0, DROP, 0, JUMP, 12);
        x.routine(0, 0, 3, 4);
        due("verify", x::verify, 0);
        dueTypes(x, 0, 0, 1, 1, 2);
        dueTypes(x, 0, 6, 1, 1, 2, 0, 0, 0, 1, 2, 1, 2, 1, 2);
        dueTypes(x, 0, 9, 1, 1, 2, 2, 1, 2, 1, 2, 1);
        dueTypes(x, 0, 10, 1, 1, 2, 2, 1, 2, 1, 2);
        dueTypes(x, 0, 12, 1, 1, 2, 2, 1, 2);
    }

    /** All twelve places by two ways, of which one place alone differs. */
    private static void placeByPlace() {
        for (int differs = 0; differs < 12; differs++) {
            FrameVerifier x = coded(PUSH, 0, ZERO, 21);
            twelvePlaces(x, -1);
            append(x, JUMP, 39);
            twelvePlaces(x, differs);
            append(x, BAD, 0);
            x.routine(0, 0, 0, 0);
            for (int slot = 0; slot < 12; slot++) {
                int asks = slot;
                due("slot " + slot, () -> x.type(0, 39, asks), slot == differs ? ANY : INT);
            }
        }
    }

    private static void twelvePlaces(FrameVerifier x, int differs) {
        for (int i = 0; i < 6; i++) {
            append(x, i == differs ? NONE : PUSH, 0, STORE, i);
        }
        for (int i = 6; i < 12; i++) {
            append(x, i == differs ? NONE : PUSH, 0);
        }
    }

    private static void differentHeights() {
        for (int a = 0; a <= 6; a++) {
            for (int b = 0; b <= 6; b++) {
                FrameVerifier x = coded(PUSH, 0, ZERO, 3 + a);
                repeat(x, a, PUSH, 0);
                append(x, JUMP, 3 + a + b);
                repeat(x, b, PUSH, 0);
                append(x, JUMP, 3 + a + b);
                x.routine(0, 0, 0, 0);
                int meeting = 3 + a + b;
                if (a == b) {
                    due("the same height " + a, x::verify, 0);
                    due("the place on top", () -> x.type(0, meeting, 6), meeting == 3 ? NOTHING : INT);
                } else {
                    due("heights " + a + " and " + b, x::verify, 1000 + meeting);
                    dueAll(x, 0, meeting, TORN);
                }
            }
        }
    }

    /** Four ways come to 18, of heights that agree with one before them or with none. */
    private static void tornStays() {
        int[][] heights = {{0, 1, 0, 0}, {0, 1, 1, 1}, {1, 0, 0, 1}, {2, 1, 0, 2}, {0, 0, 0, 1}, {1, 1, 1, 0},
            {0, 2, 1, 0}};
        for (int[] of : heights) {
            FrameVerifier x = plain(PUSH, 0, ZERO, 9, PUSH, 0, ZERO, 12, PUSH, 0, ZERO, 15);
            for (int height : of) {
                append(x, height > 0 ? PUSH : JUMP, height > 0 ? 1 : 18, height > 1 ? PUSH : JUMP,
                        height > 1 ? 1 : 18, JUMP, 18);
            }
            append(x, JUMP, 18);
            dueAll(x, 0, 18, TORN);
            due("verify", x::verify, 1018);
        }
        FrameVerifier loop = plain(PUSH, 0, ZERO, 3, PUSH, 1, PUSH, 2, DROP, 0, JUMP, 3);
        dueAll(loop, 0, 3, TORN);
        dueAll(loop, 0, 4, NOTHING);
    }

    private static void startsState() {
        FrameVerifier x = coded(PUSH, 0, DROP, 0, LOAD, 1, STORE, 0, JUMP, 0);
        x.routine(0, 0, 3, 2);
        x.routine(1, 0, 2, 3);
        x.routine(2, 0, 2, 0);
        x.routine(3, 2, 0, 0);
        dueTypes(x, 0, 0, ANY, REFERENCE, INT);
        dueTypes(x, 0, 4, REFERENCE, REFERENCE, INT);
        dueTypes(x, 1, 0, REFERENCE, REFERENCE);
        dueTypes(x, 2, 0, INT, INT);
        dueTypes(x, 3, 2);
        dueAll(x, 3, 3, NOTHING);
        FrameVerifier torn = plain(PUSH, 1, JUMP, 0);
        due("the start's stack is empty", torn::verify, 1000);
        dueAll(torn, 0, 0, TORN);
    }

    /** A loop whose end spoils a local, or a place of the stack, that was right at first. */
    private static void waitsAgain() {
        FrameVerifier local = coded(PUSH, 0, DROP, 0, NONE, 0, STORE, 0, JUMP, 0);
        local.routine(0, 0, 1, 0);
        due("verify", local::verify, 0);
        dueTypes(local, 0, 0, ANY);
        dueTypes(local, 0, 1, ANY, 0, 0, 0, 0, 0, INT);
        dueTypes(local, 0, 2, ANY);
        dueTypes(local, 0, 3, ANY, 0, 0, 0, 0, 0, REFERENCE);
        dueTypes(local, 0, 4, REFERENCE);
        FrameVerifier stack = plain(PUSH, 0, PUSH, 1, DROP, 0, TWICE, 0, STORE, 0, DROP, 0, NONE, 0, JUMP, 1);
        due("verify", stack::verify, 0);
        dueTypes(stack, 0, 1, ANY, 0, 0, 0, 0, 0, ANY);
        dueTypes(stack, 0, 2, ANY, 0, 0, 0, 0, 0, ANY, INT);
        dueTypes(stack, 0, 4, ANY, 0, 0, 0, 0, 0, ANY, ANY);
        dueTypes(stack, 0, 5, ANY, 0, 0, 0, 0, 0, ANY);
        dueTypes(stack, 0, 7, ANY, 0, 0, 0, 0, 0, REFERENCE);
        sixRounds();
    }

    /** Each round of the loop spoils one local more, from the last one down to the first. */
    private static void sixRounds() {
        FrameVerifier x = new FrameVerifier();
        for (int i = 0; i < 6; i++) {
            append(x, PUSH, 0, STORE, i);
        }
        append(x, PUSH, 0, ZERO, 14);
        for (int i = 0; i < 5; i++) {
            // Stores a reference by one way alone; the other goes past it.
            append(x, PUSH, 0, ZERO, x.about(7) + 4, NONE, 0, STORE, i);
        }
        append(x, JUMP, 12);
        x.routine(0, 0, 0, 0);
        due("verify", x::verify, 0);
        dueTypes(x, 0, 12, ANY, ANY, ANY, ANY, ANY, INT);
        dueTypes(x, 0, 18, ANY, ANY, ANY, ANY, ANY, INT);
        dueTypes(x, 0, 34, ANY, ANY, ANY, ANY, ANY, INT);
    }

    private static void firstCounts() {
        FrameVerifier x = plain(JUMP, 3, PUSH, 1, RETURN, 0, JUMP, 1);
        due("states with nothing in them go on too", x::verify, 0);
        dueTypes(x, 0, 0);
        dueTypes(x, 0, 3);
        dueTypes(x, 0, 1);
        dueTypes(x, 0, 2, 0, 0, 0, 0, 0, 0, INT);
        dueVerify("a loop comes to its end", 0, JUMP, 1, JUMP, 0);
    }

    private static void onlyTheStart() {
        FrameVerifier x = coded(PUSH, 1, RETURN, 0, PUSH, 2, RETURN, 0, PUSH, 3, RETURN, 0);
        x.routine(0, 2, 0, 0);
        x.routine(1, 4, 0, 0);
        for (int address = 0; address < 6; address++) {
            int at = address;
            due("routine 0 at " + at, () -> x.type(0, at, 0), at / 2 == 1 ? EMPTY : NOTHING);
            due("routine 1 at " + at, () -> x.type(1, at, 0), at / 2 == 2 ? EMPTY : NOTHING);
        }
    }

    /** What a LOAD leaves behind tells in which order the ways came to it. */
    private static void leastIsTaken() {
        FrameVerifier behindFirst = plain(PUSH, 0, ZERO, 6, NONE, 0, STORE, 0, LOAD, 0, DROP, 0,
                PUSH, 0, STORE, 0, JUMP, 4);
        due("the one behind before the one far on", behindFirst::verify, 1004);
        dueTypes(behindFirst, 0, 5, REFERENCE, 0, 0, 0, 0, 0, REFERENCE);
        FrameVerifier jumpFirst = plain(JUMP, 5, NONE, 0, STORE, 0, LOAD, 0, BAD, 0, PUSH, 0, ZERO, 1,
                PUSH, 4, STORE, 0, JUMP, 3);
        due("the one far back before the one behind", jumpFirst::verify, 1003);
        dueTypes(jumpFirst, 0, 4, REFERENCE, 0, 0, 0, 0, 0, REFERENCE);
        FrameVerifier both = plain(PUSH, 0, ZERO, 5, NONE, 0, STORE, 0, JUMP, 7, PUSH, 0, STORE, 0, LOAD, 0,
                RETURN, 0);
        due("both before the one that is greater", both::verify, 1007);
        dueAll(both, 0, 8, NOTHING);
        // 4 is taken while its local is EMPTY, before the ways over 6 and 10 are gone.
        FrameVerifier three = plain(PUSH, 0, ZERO, 10, PUSH, 0, ZERO, 6, LOAD, 0, BAD, 0,
                NONE, 0, STORE, 0, JUMP, 4, BAD, 0, PUSH, 0, STORE, 0, JUMP, 4);
        due("the least before those that would mend it", three::verify, 1004);
        dueAll(three, 0, 5, NOTHING);
        FrameVerifier among = plain(JUMP, 9, LOAD, 0, BAD, 0, PUSH, 0, STORE, 0, JUMP, 1, NONE, 0, STORE, 0,
                JUMP, 1, PUSH, 0, ZERO, 6, PUSH, 0, ZERO, 3, JUMP, 12, BAD, 0);
        due("the least of those that wait", among::verify, 1001);
        dueTypes(among, 0, 2, REFERENCE, 0, 0, 0, 0, 0, REFERENCE);
    }

    private static void unfitGoesNowhere() {
        FrameVerifier x = plain(JUMP, 2, RETURN, 0, ADD, 0, RETURN, 0);
        due("verify", x::verify, 1002);
        dueTypes(x, 0, 2);
        dueAll(x, 0, 3, NOTHING);
        FrameVerifier last = plain(PUSH, 0, JUMP, 3, RETURN, 0, ZERO, 2);
        due("an unfit ZERO goes to n no more than behind", last::verify, 1003);
        dueAll(last, 0, 2, NOTHING);
        FrameVerifier far = plain(PUSH, 0, ZERO, 9, PUSH, 1, RETURN, 0);
        due("nor behind itself", far::verify, 1001);
        dueAll(far, 0, 2, NOTHING);
    }

    /** Every op above a reference and an int, which stay as they are. */
    private static void whatComesOfEach() {
        String[] gives = {"i", "i", "i", "i", "i", "i", "", "", "", "r", "", "r", "i", "", "i", "ii", "ri", "",
            null, null};
        for (int op = 0; op < CALL; op++) {
            String takes = op == EXCHANGE ? "ir" : TAKES[op].replace('a', 'i');
            FrameVerifier x = withStack("ri".concat(takes), op, 0);
            dueStack("op " + op, x, "ri".concat(gives[op]));
            due("local 0 after op " + op, () -> x.type(0, x.about(7) - 1, 0), INT);
            due("local 1 after op " + op, () -> x.type(0, x.about(7) - 1, 1), EMPTY);
        }
    }

    private static void whatComesOfCall() {
        for (int parameters = 0; parameters <= 3; parameters++) {
            for (int kinds : new int[] {0, 8}) {
                FrameVerifier x = withStack("riii", CALL, 2);
                x.routine(2, 0, parameters, kinds);
                dueStack("CALL with " + parameters, x,
                        "riii".substring(0, 4 - parameters).concat(kinds == 0 ? "i" : "r"));
            }
        }
    }

    /** The stack at the last address. */
    private static void dueStack(String what, FrameVerifier x, String kinds) {
        int address = x.about(7) - 1;
        for (int i = 0; i < 6; i++) {
            int slot = 6 + i;
            int want = i >= kinds.length() ? NOTHING : kinds.charAt(i) == 'i' ? INT : REFERENCE;
            due(what + ", slot " + slot, () -> x.type(0, address, slot), want);
        }
    }

    private static void whereItGoesOn() {
        FrameVerifier x = plain(JUMP, 3, BAD, 0, RETURN, 0, NONE, 0, MISSING, 7, PUSH, 1, JUMP, 2, PUSH, 2,
                JUMP, 2);
        due("verify", x::verify, 0);
        dueAll(x, 0, 1, NOTHING);
        dueTypes(x, 0, 2, 0, 0, 0, 0, 0, 0, INT);
        dueTypes(x, 0, 5);
        dueTypes(x, 0, 7);
        FrameVerifier end = plain(PUSH, 1, RETURN, 0, BAD, 0);
        due("RETURN goes nowhere", end::verify, 0);
        dueAll(end, 0, 2, NOTHING);
    }

    private static void whatHasMetStays() {
        FrameVerifier x = plain(PUSH, 0, STORE, 0, LOAD, 0, ZERO, 6, PUSH, 0, RETURN, 0, NONE, 0, STORE, 0,
                JUMP, 2);
        due("the LOAD that fitted once", x::verify, 1002);
        dueTypes(x, 0, 2, ANY);
        dueTypes(x, 0, 3, INT, 0, 0, 0, 0, 0, INT);
        dueTypes(x, 0, 5, INT, 0, 0, 0, 0, 0, INT);
        dueTypes(x, 0, 8, REFERENCE);
        FrameVerifier torn = plain(PUSH, 0, STORE, 1, JUMP, 3, PUSH, 0, JUMP, 2);
        due("what went on before it was torn", torn::verify, 1002);
        dueAll(torn, 0, 2, TORN);
        dueTypes(torn, 0, 3, 0, INT);
        dueTypes(torn, 0, 4, 0, INT, 0, 0, 0, 0, INT);
    }

    /** Every op at an address that comes to be torn, with all that it needs by either way. */
    private static void tornNeverFits() {
        for (int op = 0; op < OPS; op++) {
            String takes = op == CALL ? "i" : TAKES[op].replace('a', 'i');
            int size = takes.length();
            FrameVerifier x = coded(PUSH, 0, ZERO, 4 + size);
            push(x, "i".concat(takes));
            append(x, JUMP, 4 + 2 * size);
            push(x, takes);
            append(x, op, op == LOAD || op == STORE || op == CALL ? 1 : 0, PUSH, 0, RETURN, 0);
            x.routine(0, 0, 3, 0);
            x.routine(1, 0, 1, 0);
            due("op " + op, x::verify, 1004 + 2 * size);
            dueAll(x, 0, 4 + 2 * size, TORN);
        }
    }

    private static void oneOfTheseOps() {
        for (int op : new int[] {LEAST, -20, -1, 20, 21, 32, 256, MOST}) {
            dueVerify("op " + op, 1001, PUSH, 0, op, 0, RETURN, 0);
            dueTrap(started(PUSH, 0, op, 0, RETURN, 0), 1, UNFIT);
        }
        dueVerify("op 0", 0, 0, 5, RETURN, 0);
        dueVerify("op 19", 0, PUSH, 5, 19, 0);
    }

    private static boolean jumps(int op) {
        return op == JUMP || op == ZERO || op == MISSING;
    }

    /** The instruction on such a stack, with a bad one behind it, to which a jump goes too. */
    private static FrameVerifier withStack(String stack, int op, int n) {
        FrameVerifier x = new FrameVerifier();
        push(x, stack);
        append(x, op, jumps(op) ? x.about(7) + 1 : n, BAD, 0);
        x.routine(0, 0, 1, 0);
        return x;
    }

    /** Whether verify finds the instruction itself unfit, or the bad one behind it. */
    private static void dueFits(String what, FrameVerifier x, boolean fits) {
        int address = x.about(7) - 2;
        due(what, x::verify, fits ? 1001 + address : 1000 + address);
    }

    /** Likewise of an op that may be RETURN, behind which nothing comes. */
    private static void dueFits(int op, String stack, int n, boolean fits) {
        FrameVerifier x = withStack(stack, op, n);
        String what = "op " + op + " " + n + " on '" + stack + "'";
        if (op == RETURN && fits) {
            due(what, x::verify, 0);
        } else {
            dueFits(what, x, fits);
        }
    }

    private static void asManyAsThere() {
        for (int op = 0; op < OPS; op++) {
            String takes = TAKES[op];
            for (int less = 0; op != CALL && less <= takes.length(); less++) {
                dueFits(op, takes.substring(less), 0, less == 0);
            }
            if (op != CALL) {
                dueFits(op, "r".concat(takes), 0, true);
            }
        }
        for (int parameters = 0; parameters <= 3; parameters++) {
            for (int there = 0; there <= 4; there++) {
                FrameVerifier x = withStack("iiii".substring(4 - there), CALL, 2);
                x.routine(2, 0, parameters, 0);
                dueFits("CALL with " + there + " for " + parameters, x, there >= parameters);
            }
        }
    }

    private static void typesOfTaken() {
        for (int op = 0; op < OPS; op++) {
            String takes = TAKES[op];
            for (int i = 0; i < takes.length(); i++) {
                for (char kind : "ira".toCharArray()) {
                    String stack = takes.substring(0, i) + kind + takes.substring(i + 1);
                    boolean fits = takes.charAt(i) == 'a' || takes.charAt(i) == kind;
                    dueFits(op, stack, 0, fits);
                }
            }
        }
    }

    private static void typesOfPassed() {
        for (int kinds = 0; kinds < 8; kinds++) {
            for (int stack = 0; stack < 8; stack++) {
                String passed = "";
                for (int k = 0; k < 3; k++) {
                    passed += (stack >> k & 1) == 1 ? "r" : "i";
                }
                FrameVerifier x = withStack(passed, CALL, 3);
                x.routine(3, 0, 3, kinds);
                dueFits("CALL with " + passed + ", kinds " + kinds, x, kinds == stack);
            }
        }
        for (int k = 0; k < 3; k++) {
            FrameVerifier x = withStack("iii".substring(0, k) + "a" + "iii".substring(k + 1), CALL, 3);
            x.routine(3, 0, 3, 0);
            dueFits("CALL with ANY as parameter " + k, x, false);
        }
        FrameVerifier below = withStack("ai", CALL, 3);
        below.routine(3, 0, 1, 0);
        dueFits("CALL with ANY below", below, true);
    }

    private static void takeAny() {
        for (String kind : new String[] {"i", "r", "a"}) {
            int type = kind.equals("i") ? INT : kind.equals("r") ? REFERENCE : ANY;
            FrameVerifier twice = withStack(kind, TWICE, 0);
            dueTypes(twice, 0, twice.about(7) - 1, INT, 0, 0, 0, 0, 0, type, type);
            FrameVerifier upper = withStack("i".concat(kind), EXCHANGE, 0);
            dueTypes(upper, 0, upper.about(7) - 1, INT, 0, 0, 0, 0, 0, type, INT);
            FrameVerifier lower = withStack(kind.concat("r"), EXCHANGE, 0);
            dueTypes(lower, 0, lower.about(7) - 1, INT, 0, 0, 0, 0, 0, REFERENCE, type);
            FrameVerifier drop = withStack(kind, DROP, 0);
            dueTypes(drop, 0, drop.about(7) - 1, INT);
            FrameVerifier store = withStack(kind, STORE, 5);
            dueTypes(store, 0, store.about(7) - 1, INT, 0, 0, 0, 0, type);
        }
    }

    private static void loadFinds() {
        for (int type = EMPTY; type <= ANY; type++) {
            FrameVerifier x = new FrameVerifier();
            setLocal(x, type);
            append(x, LOAD, 0, BAD, 0);
            x.routine(0, 0, 0, 0);
            boolean fits = type == INT || type == REFERENCE;
            dueFits("LOAD of " + type, x, fits);
            if (fits) {
                dueTypes(x, 0, 3, type, 0, 0, 0, 0, 0, type);
            }
        }
    }

    private static void numberOfLocal() {
        for (int n : new int[] {LEAST, -2, -1, 0, 5, 6, 7, 12, MOST}) {
            boolean local = n == 0 || n == 5;
            dueFits("STORE " + n, withStack("i", STORE, n), local);
            FrameVerifier x = coded(PUSH, 1, STORE, 5, LOAD, n, BAD, 0);
            x.routine(0, 0, 1, 0);
            dueFits("LOAD " + n, x, local);
        }
        // A place of the stack is no local, though type numbers it from 6 on.
        FrameVerifier stack = withStack("ii", LOAD, 6);
        dueFits("LOAD of a place of the stack", stack, false);
    }

    private static void numberOfAddress() {
        for (int n : new int[] {LEAST, -1, 0, 1, 2, 3, 4, 99, 100, MOST}) {
            boolean there = n >= 0 && n <= 2;
            // Behind the jump comes the last instruction, 2.
            due("JUMP " + n, plain(PUSH, 0, JUMP, n, RETURN, 0)::verify,
                    !there ? 1001 : n == 0 ? 1000 : 0);
            due("ZERO " + n, plain(PUSH, 0, ZERO, n, JUMP, 2)::verify, !there ? 1001 : n == 1 ? 1001 : 0);
            due("MISSING " + n, plain(NONE, 0, MISSING, n, JUMP, 2)::verify,
                    !there ? 1001 : n == 1 ? 1001 : 0);
        }
        FrameVerifier x = plain(JUMP, 1);
        due("not there yet", x::verify, 1000);
        x.add(JUMP, 0);
        due("there now", x::verify, 0);
    }

    private static void numberOfRoutine() {
        for (int n : new int[] {LEAST, -1, 0, 1, 2, 3, 4, 5, MOST}) {
            FrameVerifier x = plain(CALL, n, RETURN, 0);
            due("CALL " + n, x::verify, n == 0 ? 0 : 1000);
            boolean told = x.routine(n, 0, 0, 0);
            due("CALL " + n + " when it is told", x::verify, told ? 0 : 1000);
        }
    }

    private static void numberNotNeeded() {
        for (int n : new int[] {LEAST, -1, 6, 100, MOST}) {
            for (int op : new int[] {PUSH, ADD, SUBTRACT, MULTIPLY, DIVIDE, NONE, NEW, GET, PUT, LENGTH,
                TWICE, EXCHANGE, DROP, RETURN}) {
                dueFits(op, TAKES[op], n, true);
            }
        }
    }

    private static void room() {
        for (int op : PUSHING) {
            for (int height = op == TWICE ? 1 : 0; height <= 6; height++) {
                FrameVerifier x = withStack("iiiiii".substring(6 - height), op, op == CALL ? 1 : 0);
                x.routine(1, 0, 0, 0);
                dueFits("op " + op + " at height " + height, x, height < 6);
            }
        }
    }

    private static void roomOfTaken() {
        int[] filling = {ADD, SUBTRACT, MULTIPLY, DIVIDE, STORE, JUMP, ZERO, MISSING, NEW, GET, PUT, LENGTH,
            EXCHANGE, DROP, RETURN};
        for (int op : filling) {
            String takes = TAKES[op].replace('a', 'i');
            String full = "iiiiii".substring(takes.length()) + takes;
            dueFits(op, full, 0, true);
        }
        for (int parameters = 0; parameters <= 3; parameters++) {
            FrameVerifier x = withStack("iiiiii", CALL, 1);
            x.routine(1, 0, parameters, 0);
            dueFits("CALL with " + parameters + " on a full stack", x, parameters > 0);
        }
    }

    private static void behind() {
        for (int op = 0; op < OPS; op++) {
            FrameVerifier x = new FrameVerifier();
            push(x, TAKES[op]);
            int address = x.about(7);
            append(x, op, 0);
            // LOAD needs a local, CALL a routine that takes nothing.
            x.routine(0, 0, op == CALL ? 0 : 1, 0);
            due("op " + op + " at the end", x::verify, op == JUMP || op == RETURN ? 0 : 1000 + address);
        }
        FrameVerifier full = new FrameVerifier();
        repeat(full, 100, PUSH, 0);
        full.routine(0, 99, 0, 0);
        due("at address 99", full::verify, 1099);
        FrameVerifier x = plain(PUSH, 1);
        due("nothing behind", x::verify, 1000);
        x.add(RETURN, 0);
        due("something behind", x::verify, 0);
    }

    private static void returns() {
        String[] stacks = {"", "i", "r", "a"};
        for (String stack : stacks) {
            for (int kinds : new int[] {0, 7, 8, 15}) {
                FrameVerifier x = new FrameVerifier();
                push(x, stack);
                append(x, RETURN, 0);
                int address = x.about(7) - 1;
                x.routine(0, 0, 0, kinds);
                boolean fits = stack.equals(kinds < 8 ? "i" : "r");
                due("RETURN on '" + stack + "', kinds " + kinds, x::verify, fits ? 0 : 1000 + address);
            }
        }
        FrameVerifier x = coded(PUSH, 0, RETURN, 0);
        x.routine(0, 0, 0, 0);
        x.routine(1, 0, 0, 8);
        due("each routine has its own result's type", x::verify, 2001);
    }

    private static void othersBelow() {
        String[] below = {"i", "r", "a", "rr", "ri", "irir", "rrrrr", "iiiii"};
        for (String others : below) {
            FrameVerifier x = new FrameVerifier();
            push(x, others.concat("i"));
            append(x, RETURN, 0);
            x.routine(0, 0, 0, 0);
            due("RETURN with " + others + " below", x::verify, 0);
            x.routine(0, 0, 0, 8);
            due("what is below does not count", x::verify, 1000 + x.about(7) - 1);
        }
    }

    private static void rightStart() {
        for (int start : new int[] {LEAST, -1, 0, 1, 2, 99, 100, MOST}) {
            FrameVerifier x = coded(JUMP, 1, JUMP, 0);
            x.routine(0, start, 0, 0);
            boolean there = start == 0 || start == 1;
            dueVerify("start " + start, there ? 0 : 1999, x);
            x.routine(0, 0, 0, 0);
            x.routine(3, start, 0, 0);
            dueVerify("of routine 3, start " + start, there ? 0 : 4999, x);
        }
        dueVerify("no instruction at all", 1999);
    }

    private static void everyOneFits() {
        dueVerify("the bad one has a state", 1001, PUSH, 1, BAD, 0, RETURN, 0);
        dueVerify("the bad one has none", 0, JUMP, 2, BAD, 0, PUSH, 1, RETURN, 0, BAD, 0);
        dueVerify("the last one", 1003, PUSH, 0, ZERO, 3, JUMP, 2, BAD, 0);
        dueVerify("the first one", 1000, BAD, 0);
    }

    private static void routineZeroIsThere() {
        FrameVerifier x = coded(PUSH, 1, RETURN, 0);
        dueVerify("no routine", 1999, x);
        for (int r = 1; r <= 3; r++) {
            x.routine(r, 0, 0, 0);
            dueVerify("routines without 0", 1999, x);
        }
        x.routine(0, 0, 0, 0);
        dueVerify("routine 0 too", 0, x);
    }

    private static void allAreRight() {
        for (int wrong = 0; wrong <= 3; wrong++) {
            FrameVerifier x = coded(PUSH, 1, RETURN, 0, DROP, 0);
            for (int r = 0; r <= 3; r++) {
                x.routine(r, r == wrong ? 2 : 0, 0, 0);
            }
            dueVerify("routine " + wrong + " is wrong", 1000 * (1 + wrong) + 2, x);
            x.routine(wrong, 0, 0, 0);
            dueVerify("all four are right", 0, x);
        }
    }

    private static void newMakesUnverified() {
        FrameVerifier x = plain(PUSH, 1, RETURN, 0);
        due("not before it was verified", x::isVerified, false);
        dueVerify("right", 0, x);
        x.add(BAD, 0);
        due("a new instruction, though it is never reached", x::isVerified, false);
        dueVerify("right again", 0, x);
        for (int r = 0; r <= 3; r++) {
            x.routine(r, 0, 0, 0);
            due("a new routine " + r + ", though right", x::isVerified, false);
            dueVerify("right again", 0, x);
        }
        due("refused", () -> x.routine(4, 0, 0, 0), false);
        due("what is refused is not new", x::isVerified, true);
        repeat(x, 97, PUSH, 0);
        dueVerify("right and full", 0, x);
        due("refused", () -> x.add(PUSH, 0), FULL);
        due("what is refused is not new", x::isVerified, true);
    }
}
