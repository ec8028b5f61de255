import java.lang.reflect.Constructor;
import java.lang.reflect.Method;
import java.lang.reflect.Modifier;
import java.util.ArrayList;
import java.util.Arrays;
import java.util.List;

/** For every promise ordinary inputs, the edges that the document names, and wrong inputs. */
public final class FrameVerifierPromises extends Checks {
    public static void main(String[] args) {
        watch();
        test("the face", FrameVerifierPromises::face);
        test("README.md, its examples", FrameVerifierPromises::examples);
        test("promise 1", FrameVerifierPromises::newObject);
        test("promise 2", FrameVerifierPromises::add);
        test("promise 3", FrameVerifierPromises::routine);
        test("promise 4, answers", FrameVerifierPromises::verifyAnswers);
        test("promise 4, numbers", FrameVerifierPromises::verifyNumbers);
        test("promise 4, stack", FrameVerifierPromises::verifyStack);
        test("promise 4, flow", FrameVerifierPromises::verifyFlow);
        test("promise 4, routines", FrameVerifierPromises::verifyRoutines);
        test("promise 5", FrameVerifierPromises::isVerified);
        test("promise 6", FrameVerifierPromises::type);
        test("promise 6, order", FrameVerifierPromises::typeOrder);
        test("promise 6, long flow", FrameVerifierPromises::longFlow);
        test("promise 7", FrameVerifierPromises::start);
        test("promise 8, ops", FrameVerifierPromises::stepOps);
        test("promise 8, traps", FrameVerifierPromises::stepTraps);
        test("promise 8, unfit", FrameVerifierPromises::stepUnfit);
        test("promise 8, limits", FrameVerifierPromises::stepLimits);
        test("promise 8, changed code", FrameVerifierPromises::stepChangedCode);
        test("promise 9", FrameVerifierPromises::steps);
        test("promise 10", FrameVerifierPromises::about);
        test("promise 11", FrameVerifierPromises::local);
        end();
    }

    private static void face() {
        List<String> found = new ArrayList<>();
        for (Method method : FrameVerifier.class.getDeclaredMethods()) {
            if (!Modifier.isPrivate(method.getModifiers()) && !method.isSynthetic()) {
                found.add(Modifier.toString(method.getModifiers()) + " " + method.getReturnType()
                        + " " + method.getName() + method.getParameterCount());
            }
        }
        found.sort(null);
        List<String> want = Arrays.asList("public boolean isVerified0", "public boolean routine4",
                "public boolean start3", "public int about1", "public int add2", "public int local1",
                "public int step0", "public int steps1", "public int type3", "public int verify0");
        due("methods", () -> found, want);
        Constructor<?>[] constructors = FrameVerifier.class.getDeclaredConstructors();
        due("constructors", () -> constructors.length, 1);
        due("public final", () -> Modifier.toString(FrameVerifier.class.getModifiers()), "public final");
    }

    private static void examples() {
        FrameVerifier x = coded(LOAD, 0, TWICE, 0, MULTIPLY, 0, RETURN, 0);
        due("routine", () -> x.routine(0, 0, 1, 0), true);
        due("verify", x::verify, 0);
        due("type", () -> x.type(0, 2, 7), INT);
        due("start", () -> x.start(12, 0, 0), true);
        due("steps", () -> x.steps(200), 4);
        due("result", () -> x.about(5), 144);
        FrameVerifier y = plain(NONE, 0, PUSH, 7, ADD, 0, RETURN, 0);
        due("verify", y::verify, 1002);
        due("type", () -> y.type(0, 2, 6), REFERENCE);
        due("routine", () -> y.routine(0, 4, 1, 0), true);
        append(y, PUSH, 100, LOAD, 0, DIVIDE, 0, RETURN, 0);
        due("verify", y::verify, 0);
        due("start", () -> y.start(0, 0, 0), true);
        due("steps", () -> y.steps(2), 2);
        due("height", () -> y.about(3), 2);
        due("step", y::step, DIVISION);
        due("a run", () -> y.about(0), 0);
    }

    private static void newObject() {
        FrameVerifier x = new FrameVerifier();
        int[] want = {0, -1, -1, -1, -1, 0, 0, 0};
        for (int what = 0; what < want.length; what++) {
            int asks = what;
            due("about(" + what + ")", () -> x.about(asks), want[what]);
        }
        due("isVerified", x::isVerified, false);
        due("verify", x::verify, 1999);
        due("start", () -> x.start(1, 2, 3), false);
        due("step", x::step, 0);
        due("steps", () -> x.steps(200), 0);
        due("local(0)", () -> x.local(0), NOTHING);
        for (int r = -1; r <= 4; r++) {
            dueAll(x, r, 0, NOTHING);
        }
        x.add(PUSH, 1);
        due("another object is not touched", () -> new FrameVerifier().about(7), 0);
    }

    private static void add() {
        FrameVerifier x = new FrameVerifier();
        int[] odd = {Integer.MIN_VALUE, -1, 20, Integer.MAX_VALUE};
        for (int i = 0; i < 98; i++) {
            int op = odd[i % 4];
            int n = odd[(i + 1) % 4];
            due("add " + i, () -> x.add(op, n), i);
            due("about(7)", () -> x.about(7), i + 1);
        }
        due("the 99th", () -> x.add(PUSH, 5), 98);
        due("the 100th", () -> x.add(RETURN, 0), 99);
        x.routine(0, 98, 0, 0);
        due("verify", x::verify, 0);
        due("the 101st", () -> x.add(PUSH, 0), "IllegalStateException");
        due("about(7)", () -> x.about(7), 100);
        due("still verified when nothing was added", x::isVerified, true);
        due("again", () -> x.add(99, 0), "IllegalStateException");
        due("runs to the last address", () -> x.start(0, 0, 0) && x.steps(9) == 2, true);
        due("result", () -> x.about(5), 5);
    }

    private static void routine() {
        FrameVerifier x = plain(PUSH, 3, RETURN, 0);
        due("verify", x::verify, 0);
        int[][] refused = {{-1, 0, 0, 0}, {4, 0, 0, 0}, {0, 1, -1, 0}, {0, 1, 4, 0}, {0, 1, 0, -1},
            {0, 1, 0, 16}, {Integer.MIN_VALUE, 0, 0, 0}, {0, 1, Integer.MAX_VALUE, 0},
            {0, 1, 0, Integer.MAX_VALUE}, {1, 99, 0, 32}};
        for (int[] of : refused) {
            due("routine" + Arrays.toString(of), () -> x.routine(of[0], of[1], of[2], of[3]), false);
            due("still verified", x::isVerified, true);
        }
        due("nothing was done", x::verify, 0);
        due("no routine 1", () -> x.type(1, 0, 0), NOTHING);
        int[] starts = {Integer.MIN_VALUE, -1, 2, 100, Integer.MAX_VALUE};
        for (int r = 0; r < 4; r++) {
            for (int at : starts) {
                int who = r;
                due("routine(" + r + ", " + at + ")", () -> x.routine(who, at, 0, 0), true);
                due("verify", x::verify, 1000 * (1 + r) + 999);
            }
            x.routine(r, 0, 0, 0);
        }
        for (int kinds = 0; kinds < 16; kinds++) {
            for (int parameters = 0; parameters < 4; parameters++) {
                kindsOf(parameters, kinds);
            }
        }
    }

    private static void kindsOf(int parameters, int kinds) {
        FrameVerifier x = coded(NONE, 0, RETURN, 0);
        due("routine(2, 0, " + parameters + ", " + kinds + ")", () -> x.routine(2, 0, parameters, kinds), true);
        int[] types = new int[6];
        for (int k = 0; k < parameters; k++) {
            types[k] = (kinds >> k & 1) == 1 ? REFERENCE : INT;
        }
        dueTypes(x, 2, 0, types);
        x.routine(0, 0, 0, 8);
        due("the result's kind, of " + kinds, x::verify, kinds >= 8 ? 0 : 3001);
    }

    private static void verifyAnswers() {
        FrameVerifier x = coded(PUSH, 1, RETURN, 0, ADD, 0, RETURN, 0);
        due("no routine", x::verify, 1999);
        x.routine(1, 2, 0, 0);
        due("routine 0 isn't there, 1 is wrong", x::verify, 1999);
        x.routine(0, 0, 0, 0);
        due("routine 1 is wrong", x::verify, 2002);
        due("not verified", x::isVerified, false);
        x.routine(3, -7, 0, 0);
        due("the least wrong routine", x::verify, 2002);
        x.routine(1, 0, 0, 0);
        due("routine 3 has no start", x::verify, 4999);
        x.routine(3, 4, 0, 0);
        due("a start behind the code", x::verify, 4999);
        x.routine(3, 3, 0, 0);
        due("RETURN of nothing", x::verify, 4003);
        x.routine(3, 0, 0, 8);
        due("RETURN of another type", x::verify, 4001);
        x.routine(3, 0, 3, 7);
        due("all right", x::verify, 0);
        due("verified", x::isVerified, true);
        due("again", x::verify, 0);
        dueVerify("the least of two wrong ones", 1002,
                PUSH, 0, ZERO, 4, ADD, 0, RETURN, 0, ADD, 0, RETURN, 0);
        dueVerify("a wrong one that is never reached", 0, PUSH, 0, RETURN, 0, 77, 0);
    }

    private static void verifyNumbers() {
        for (int n : new int[] {Integer.MIN_VALUE, -1, 6, Integer.MAX_VALUE}) {
            dueVerify("STORE " + n, 1001, PUSH, 0, STORE, n, PUSH, 0, RETURN, 0);
            dueVerify("LOAD " + n, 1000, LOAD, n, RETURN, 0);
        }
        dueVerify("STORE and LOAD 5", 0, PUSH, 0, STORE, 5, LOAD, 5, RETURN, 0);
        dueVerify("LOAD of EMPTY", 1002, PUSH, 0, STORE, 5, LOAD, 4, RETURN, 0);
        for (int n : new int[] {Integer.MIN_VALUE, -1, 4, 100}) {
            dueVerify("JUMP " + n, 1000, JUMP, n, PUSH, 0, PUSH, 0, RETURN, 0);
            dueVerify("ZERO " + n, 1001, PUSH, 0, ZERO, n, PUSH, 0, RETURN, 0);
            dueVerify("MISSING " + n, 1001, NONE, 0, MISSING, n, PUSH, 0, RETURN, 0);
            dueVerify("CALL " + n, 1000, CALL, n, PUSH, 0, PUSH, 0, RETURN, 0);
        }
        dueVerify("CALL of a routine that isn't there", 1000, CALL, 3, RETURN, 0);
        dueVerify("JUMP to the last", 0, PUSH, 0, JUMP, 2, RETURN, 0);
        dueVerify("JUMP at the end", 0, JUMP, 0);
        dueVerify("PUSH at the end", 1000, PUSH, 0);
        dueVerify("ZERO at the end", 1001, PUSH, 0, ZERO, 0);
        dueVerify("MISSING at the end", 1001, NONE, 0, MISSING, 0);
        dueVerify("CALL at the end", 1000, CALL, 0);
        dueVerify("no instruction", 1999);
        for (int op : new int[] {Integer.MIN_VALUE, -1, 20, Integer.MAX_VALUE}) {
            dueVerify("op " + op, 1001, PUSH, 0, op, 0, RETURN, 0);
        }
        dueVerify("n of others is free", 0, PUSH, -9, TWICE, 99, ADD, -5, RETURN, 1234);
    }

    /** Every op with what it takes (bottom first), tried on all stacks of up to three values. */
    private static void verifyStack() {
        String[] takes = {"", "ii", "ii", "ii", "ii", null, "a", "", "i", "", "r", "i", "ri", "rii",
            "r", "a", "aa", "a", null, "i"};
        String[] stacks = {"", "i", "r", "ii", "ir", "ri", "rr", "iii", "iir", "iri", "irr", "rii",
            "rir", "rri", "rrr"};
        for (int op = 0; op < takes.length; op++) {
            for (String stack : stacks) {
                if (takes[op] != null) {
                    tryOn(op, takes[op], stack);
                }
            }
        }
        for (int height = 5; height <= 6; height++) {
            int full = height == 6 ? 1006 : 0;
            for (int op : new int[] {PUSH, NONE, LOAD, TWICE, CALL}) {
                FrameVerifier x = new FrameVerifier();
                fill(x, height);
                append(x, op, 0, DROP, 0, PUSH, 0, JUMP, height + 1);
                x.routine(0, 0, op == CALL ? 0 : 1, 0);
                int least = x.verify();
                due("op " + op + " at height " + height, () -> least == 1006, full == 1006);
            }
        }
        FrameVerifier y = new FrameVerifier();
        fill(y, 6);
        append(y, EXCHANGE, 0, LOAD, 9);
        y.routine(0, 0, 0, 0);
        due("EXCHANGE with a full stack", y::verify, 1007);
        FrameVerifier z = new FrameVerifier();
        fill(z, 6);
        append(z, CALL, 1, ADD, 0, RETURN, 0);
        z.routine(0, 0, 0, 0);
        z.routine(1, 8, 1, 0);
        due("CALL that takes one with a full stack", z::verify, 2008);
        due("what comes of it", () -> z.type(0, 7, 11), INT);
    }

    private static void fill(FrameVerifier x, int height) {
        for (int i = 0; i < height; i++) {
            x.add(PUSH, i);
        }
    }

    private static void tryOn(int op, String takes, String stack) {
        FrameVerifier x = new FrameVerifier();
        for (char kind : stack.toCharArray()) {
            x.add(kind == 'i' ? PUSH : NONE, 0);
        }
        int address = stack.length();
        append(x, op, op == JUMP || op == ZERO || op == MISSING ? address + 1 : 0, 55, 0);
        x.routine(0, 0, 0, 0);
        boolean fits = stack.length() >= takes.length();
        for (int i = 1; fits && i <= takes.length(); i++) {
            char wanted = takes.charAt(takes.length() - i);
            fits = wanted == 'a' || wanted == stack.charAt(stack.length() - i);
        }
        int want = !fits ? 1000 + address : op == RETURN ? 0 : 1001 + address;
        due("op " + op + " on " + stack, x::verify, want);
    }

    private static void verifyFlow() {
        dueVerify("a loop that grows the stack is torn", 1000, PUSH, 1, JUMP, 0);
        dueVerify("branches of one height", 0,
                PUSH, 1, ZERO, 4, PUSH, 5, RETURN, 0, PUSH, 6, RETURN, 0);
        dueVerify("branches of different heights", 1004,
                PUSH, 1, PUSH, 2, ZERO, 4, DROP, 0, PUSH, 0, RETURN, 0);
        dueVerify("ANY on the stack may be dropped", 0,
                PUSH, 1, ZERO, 4, NONE, 0, JUMP, 5, PUSH, 6, DROP, 0, PUSH, 1, RETURN, 0);
        dueVerify("ANY may be twice and exchanged and stored", 0, PUSH, 1, ZERO, 4, NONE, 0, JUMP, 5,
                PUSH, 6, TWICE, 0, EXCHANGE, 0, STORE, 0, DROP, 0, PUSH, 1, RETURN, 0);
        for (int op : new int[] {ADD, ZERO, MISSING, NEW, LENGTH, RETURN}) {
            dueVerify("ANY is not for op " + op, 1006, PUSH, 1, ZERO, 4, NONE, 0, JUMP, 5,
                    PUSH, 6, TWICE, 0, op, 5, PUSH, 1, RETURN, 0);
        }
        dueVerify("LOAD of ANY", 1005,
                PUSH, 1, ZERO, 5, PUSH, 2, STORE, 0, JUMP, 5, LOAD, 0, RETURN, 0);
        dueVerify("LOAD of what both branches stored", 0, PUSH, 1, ZERO, 5, PUSH, 2, STORE, 0,
                JUMP, 7, PUSH, 3, STORE, 0, LOAD, 0, RETURN, 0);
    }

    private static void verifyRoutines() {
        FrameVerifier x = coded(NONE, 0, PUSH, 1, CALL, 1, RETURN, 0, LOAD, 1, RETURN, 0);
        x.routine(0, 0, 0, 0);
        x.routine(1, 4, 2, 1);
        due("the upper one is the last parameter", x::verify, 0);
        x.routine(1, 4, 2, 2);
        due("the other order", x::verify, 1002);
        x.routine(1, 4, 3, 1);
        due("too few", x::verify, 1002);
        x.routine(1, 4, 2, 9);
        due("a result of another type", x::verify, 1003);
        x.routine(1, 77, 2, 1);
        due("a routine without start can be called", x::verify, 2999);
        x.routine(1, 4, 2, 3);
        due("both", x::verify, 1002);
        x.routine(0, 2, 0, 0);
        due("nothing to pass", x::verify, 1002);
        dueVerify("RETURN with others below", 0, NONE, 0, PUSH, 1, PUSH, 1, RETURN, 0);
        dueVerify("a routine that calls itself", 0, CALL, 0, RETURN, 0);
    }

    private static void isVerified() {
        FrameVerifier x = plain(PUSH, 1, RETURN, 0);
        due("before verify", x::isVerified, false);
        x.verify();
        due("after verify", x::isVerified, true);
        x.type(0, 0, 0);
        x.start(0, 0, 0);
        x.steps(5);
        due("after a run", x::isVerified, true);
        x.add(PUSH, 1);
        due("after add", x::isVerified, false);
        x.type(0, 0, 0);
        x.start(0, 0, 0);
        due("not by itself", x::isVerified, false);
        x.verify();
        x.routine(0, 0, 0, 0);
        due("after the same routine", x::isVerified, false);
        x.verify();
        x.routine(2, 0, 0, 8);
        due("after another routine", x::isVerified, false);
        due("verify", x::verify, 3001);
        due("after a verify that failed", x::isVerified, false);
    }

    private static void type() {
        FrameVerifier x = coded(LOAD, 1, PUSH, 7, STORE, 4, STORE, 1, PUSH, 3, NEW, 0, PUSH, 1, 99, 0);
        x.routine(3, 0, 2, 2);
        dueTypes(x, 3, 0, INT, REFERENCE);
        dueTypes(x, 3, 1, INT, REFERENCE, 0, 0, 0, 0, REFERENCE);
        dueTypes(x, 3, 2, INT, REFERENCE, 0, 0, 0, 0, REFERENCE, INT);
        dueTypes(x, 3, 3, INT, REFERENCE, 0, 0, INT, 0, REFERENCE);
        dueTypes(x, 3, 4, INT, REFERENCE, 0, 0, INT, 0);
        dueTypes(x, 3, 6, INT, REFERENCE, 0, 0, INT, 0, REFERENCE);
        dueTypes(x, 3, 7, INT, REFERENCE, 0, 0, INT, 0, REFERENCE, INT);
        due("not verified", x::isVerified, false);
        int[][] none = {{0, 0, 0}, {-1, 0, 0}, {4, 0, 0}, {3, -1, 0}, {3, 8, 0}, {3, 100, 0}, {3, 0, -1},
            {3, 0, 12}, {Integer.MIN_VALUE, 0, 0}, {3, Integer.MAX_VALUE, 0}, {3, 0, Integer.MAX_VALUE},
            {3, 0, Integer.MIN_VALUE}};
        for (int[] of : none) {
            due("type" + Arrays.toString(of), () -> x.type(of[0], of[1], of[2]), NOTHING);
        }
        x.routine(3, 3, 1, 0);
        dueAll(x, 3, 0, NOTHING);
        dueTypes(x, 3, 3, INT);
        dueAll(x, 3, 4, NOTHING);
        x.routine(3, 88, 1, 0);
        dueAll(x, 3, 0, NOTHING);
        x.routine(2, 4, 0, 0);
        dueTypes(x, 2, 5, 0, 0, 0, 0, 0, 0, INT);
        dueAll(x, 3, 5, NOTHING);
        FrameVerifier y = plain(PUSH, 1, JUMP, 0);
        dueAll(y, 0, 0, TORN);
        due("no such slot though torn", () -> y.type(0, 0, 12), NOTHING);
        dueTypes(y, 0, 1, 0, 0, 0, 0, 0, 0, INT);
        FrameVerifier z = plain(PUSH, 1);
        dueTypes(z, 0, 0);
        dueAll(z, 0, 1, NOTHING);
        z.add(99, 0);
        dueTypes(z, 0, 1, 0, 0, 0, 0, 0, 0, INT);
        exchangeTypes();
    }

    private static void exchangeTypes() {
        FrameVerifier x = plain(PUSH, 1, NONE, 0, EXCHANGE, 0, TWICE, 0, GET, 0, 99, 0);
        dueTypes(x, 0, 2, 0, 0, 0, 0, 0, 0, INT, REFERENCE);
        dueTypes(x, 0, 3, 0, 0, 0, 0, 0, 0, REFERENCE, INT);
        dueTypes(x, 0, 4, 0, 0, 0, 0, 0, 0, REFERENCE, INT, INT);
        dueAll(x, 0, 5, NOTHING);
        FrameVerifier y = coded(PUSH, 1, ZERO, 4, NONE, 0, JUMP, 5, PUSH, 6, TWICE, 0, STORE, 0, 99, 0);
        y.routine(0, 0, 1, 0);
        dueTypes(y, 0, 5, INT, 0, 0, 0, 0, 0, ANY);
        dueTypes(y, 0, 6, INT, 0, 0, 0, 0, 0, ANY, ANY);
        dueTypes(y, 0, 7, ANY, 0, 0, 0, 0, 0, ANY);
    }

    /** States that met stay, whatever comes later; the least that waits goes first. */
    private static void typeOrder() {
        // 2 fits when it is first taken, so 3 has a state, though 2 doesn't fit ANY later.
        FrameVerifier x = coded(PUSH, 0, STORE, 0, LOAD, 0, ZERO, 6, PUSH, 0, RETURN, 0,
                NONE, 0, STORE, 0, JUMP, 2);
        x.routine(0, 0, 0, 0);
        due("the loop that spoils its local", x::verify, 1002);
        dueTypes(x, 0, 2, ANY);
        dueTypes(x, 0, 3, INT, 0, 0, 0, 0, 0, INT);
        dueTypes(x, 0, 8, REFERENCE);
        // The branch at 2 is taken up to 5 before the one at 6, so 5 sees the reference alone.
        FrameVerifier y = coded(PUSH, 0, ZERO, 6, NONE, 0, STORE, 0, LOAD, 0, RETURN, 0,
                PUSH, 0, STORE, 0, JUMP, 4);
        y.routine(0, 0, 0, 0);
        due("the lower branch is first", y::verify, 1004);
        dueTypes(y, 0, 4, ANY);
        dueTypes(y, 0, 5, REFERENCE, 0, 0, 0, 0, 0, REFERENCE);
        // 7 and 1 wait at once: 1 goes first, so 4 sees a reference, not the int from 7.
        FrameVerifier z = coded(JUMP, 5, NONE, 0, STORE, 0, LOAD, 0, RETURN, 0,
                PUSH, 0, ZERO, 1, PUSH, 4, STORE, 0, JUMP, 3);
        z.routine(0, 0, 0, 0);
        due("the least first", z::verify, 1003);
        dueTypes(z, 0, 4, REFERENCE, 0, 0, 0, 0, 0, REFERENCE);
        // Both branches come before 7, where they meet: LOAD never fits there, and 8 has no state.
        FrameVerifier late = coded(PUSH, 0, ZERO, 5, NONE, 0, STORE, 0, JUMP, 7, PUSH, 0, STORE, 0,
                LOAD, 0, RETURN, 0);
        late.routine(0, 0, 0, 0);
        due("branches that meet behind both", late::verify, 1007);
        dueTypes(late, 0, 7, ANY);
        dueAll(late, 0, 8, NOTHING);
        tornStays();
    }

    private static void tornStays() {
        FrameVerifier x = plain(PUSH, 0, ZERO, 3, PUSH, 1, PUSH, 2, RETURN, 0);
        due("torn", x::verify, 1003);
        dueAll(x, 0, 3, TORN);
        dueAll(x, 0, 4, NOTHING);
        x.add(JUMP, 3);
        dueAll(x, 0, 3, TORN);
        x.routine(0, 3, 0, 0);
        due("another start mends it", x::verify, 0);
        dueTypes(x, 0, 3);
        // Stacks of all heights come to 19, one after the other.
        FrameVerifier y = new FrameVerifier();
        for (int height = 0; height < 6; height++) {
            append(y, PUSH, 0, ZERO, 19, PUSH, height);
        }
        append(y, JUMP, 19, 99, 0);
        y.routine(0, 0, 0, 0);
        due("heights 0 to 6", y::verify, 1019);
        dueAll(y, 0, 19, TORN);
    }

    /** A loop over nearly all of 100 instructions, gone through again for the local it spoils. */
    private static void longFlow() {
        FrameVerifier y = new FrameVerifier();
        for (int i = 0; i < 94; i += 2) {
            append(y, PUSH, i, DROP, 0);
        }
        append(y, NONE, 0, STORE, 1, PUSH, 1, ZERO, 0, JUMP, 0, PUSH, 1);
        y.routine(0, 0, 3, 0);
        due("the whole loop", y::verify, 0);
        for (int i = 0; i < 94; i += 4) {
            dueTypes(y, 0, i, INT, ANY, INT);
        }
        dueTypes(y, 0, 95, INT, ANY, INT, 0, 0, 0, REFERENCE);
        dueTypes(y, 0, 96, INT, REFERENCE, INT);
        dueAll(y, 0, 99, NOTHING);
    }

    private static void start() {
        FrameVerifier x = coded(LOAD, 0, RETURN, 0);
        due("without routine 0", () -> x.start(1, 2, 3), false);
        x.routine(1, 0, 1, 0);
        due("with routine 1 alone", () -> x.start(1, 2, 3), false);
        due("nothing runs", () -> x.about(0), 0);
        x.routine(0, 0, 3, 2);
        due("without verify", () -> x.start(-5, 6, 7), true);
        due("runs", () -> x.about(0), 1);
        due("one frame", () -> x.about(2), 1);
        due("local 0", () -> x.local(0), -5);
        due("a reference is to none", () -> x.local(1), 0);
        due("local 2", () -> x.local(2), 7);
        due("local 3", () -> x.local(3), NOTHING);
        x.step();
        due("in place of one that runs", () -> x.start(8, 0, 9), true);
        due("address", () -> x.about(1), 0);
        due("height", () -> x.about(3), 0);
        due("local 0", () -> x.local(0), 8);
        x.routine(0, 0, 2, 0);
        x.start(1, 2, 3);
        due("as many as there are", () -> x.local(1) * 10 + x.local(2), 19);
        x.routine(0, 0, 0, 0);
        x.start(1, 2, 3);
        due("none", () -> x.local(0), NOTHING);
        FrameVerifier y = plain(PUSH, 12, NEW, 0, STORE, 3, PUSH, 12, NEW, 0, PUSH, 0, RETURN, 0);
        for (int i = 0; i < 3; i++) {
            due("start", () -> y.start(0, 0, 0), true);
            due("elements begin anew", () -> y.about(6), 0);
            due("locals begin anew", () -> y.local(3), NOTHING);
            due("steps", () -> y.steps(5), 5);
            due("elements", () -> y.about(6), 24);
        }
        y.routine(0, -4, 0, 0);
        due("a start that is no instruction", () -> y.start(0, 0, 0), true);
        due("its address", () -> y.about(1), -4);
        dueTrap(y, 0, "UnsupportedOperationException");
    }

    private static void stepOps() {
        int least = Integer.MIN_VALUE;
        int most = Integer.MAX_VALUE;
        dueResult("ADD wraps", least, PUSH, most, PUSH, 1, ADD, 0, RETURN, 0);
        dueResult("SUBTRACT", -3, PUSH, 4, PUSH, 7, SUBTRACT, 0, RETURN, 0);
        dueResult("SUBTRACT wraps", most, PUSH, least, PUSH, 1, SUBTRACT, 0, RETURN, 0);
        dueResult("MULTIPLY wraps", -2, PUSH, most, PUSH, 2, MULTIPLY, 0, RETURN, 0);
        dueResult("DIVIDE", -2, PUSH, -7, PUSH, 3, DIVIDE, 0, RETURN, 0);
        dueResult("DIVIDE the lower one", 0, PUSH, 3, PUSH, -7, DIVIDE, 0, RETURN, 0);
        dueResult("DIVIDE wraps", least, PUSH, least, PUSH, -1, DIVIDE, 0, RETURN, 0);
        dueResult("STORE and LOAD", 9, PUSH, 9, STORE, 5, PUSH, 1, LOAD, 5, RETURN, 0);
        dueResult("JUMP", 2, JUMP, 2, RETURN, 0, PUSH, 2, RETURN, 0);
        dueResult("ZERO of 0", 2, PUSH, 0, ZERO, 4, PUSH, 1, RETURN, 0, PUSH, 2, RETURN, 0);
        dueResult("ZERO of 1", 1, PUSH, 1, ZERO, 4, PUSH, 1, RETURN, 0, PUSH, 2, RETURN, 0);
        dueResult("MISSING of none", 2, NONE, 0, MISSING, 4, PUSH, 1, RETURN, 0, PUSH, 2, RETURN, 0);
        dueResult("MISSING of an array", 1,
                PUSH, 0, NEW, 0, MISSING, 5, PUSH, 1, RETURN, 0, PUSH, 2, RETURN, 0);
        dueResult("EXCHANGE", 3, PUSH, 4, PUSH, 7, EXCHANGE, 0, SUBTRACT, 0, RETURN, 0);
        dueResult("TWICE", 16, PUSH, 4, TWICE, 0, MULTIPLY, 0, RETURN, 0);
        dueResult("DROP", 4, PUSH, 4, PUSH, 5, DROP, 0, RETURN, 0);
        dueResult("RETURN leaves what is below", 5, PUSH, 4, PUSH, 5, RETURN, 0);
        dueResult("LENGTH", 12, PUSH, 12, NEW, 0, LENGTH, 0, RETURN, 0);
        dueResult("LENGTH 0", 0, PUSH, 0, NEW, 0, LENGTH, 0, RETURN, 0);
        dueResult("GET of a new array", 0, PUSH, 5, NEW, 0, PUSH, 4, GET, 0, RETURN, 0);
        dueResult("PUT and GET through two references", 42, PUSH, 2, NEW, 0, TWICE, 0, STORE, 0,
                PUSH, 1, PUSH, 42, PUT, 0, LOAD, 0, PUSH, 1, GET, 0, RETURN, 0);
        dueResult("arrays are apart", 7, PUSH, 2, NEW, 0, STORE, 0, PUSH, 2, NEW, 0, STORE, 1,
                LOAD, 0, PUSH, 1, PUSH, 7, PUT, 0, LOAD, 1, PUSH, 0, PUSH, 9, PUT, 0,
                LOAD, 0, PUSH, 1, GET, 0, RETURN, 0);
        FrameVerifier x = coded(NONE, 0, RETURN, 0, PUSH, 1, NEW, 0, RETURN, 0);
        x.routine(0, 2, 0, 8);
        due("an array as result", () -> x.start(0, 0, 0) && x.steps(3) == 3 && x.about(5) == 1, true);
        x.routine(0, 0, 0, 8);
        due("none as result", () -> x.start(0, 0, 0) && x.steps(3) == 2 && x.about(5) == 0, true);
        calls();
        zeroedAnew();
    }

    private static void calls() {
        FrameVerifier x = coded(PUSH, 100, PUSH, 20, PUSH, 3, CALL, 1, ADD, 0, RETURN, 0,
                LOAD, 0, LOAD, 1, SUBTRACT, 0, STORE, 5, PUSH, 77, LOAD, 5, RETURN, 0);
        x.routine(0, 0, 0, 0);
        x.routine(1, 6, 2, 0);
        due("verify", x::verify, 0);
        x.start(0, 0, 0);
        x.steps(4);
        due("frames", () -> x.about(2), 2);
        due("address", () -> x.about(1), 6);
        due("height", () -> x.about(3), 0);
        due("top", () -> x.about(4), NOTHING);
        due("parameters", () -> x.local(0) * 10 + x.local(1), 203);
        due("others are empty", () -> x.local(5), NOTHING);
        due("steps", () -> x.steps(7), 7);
        due("back", () -> x.about(2), 1);
        due("address", () -> x.about(1), 4);
        due("height", () -> x.about(3), 2);
        due("result of the call", () -> x.about(4), 17);
        due("no result of a run yet", () -> x.about(5), 0);
        due("step", x::step, 1);
        due("the last step", x::step, 0);
        due("result", () -> x.about(5), 117);
        due("step when none runs", x::step, 0);
        FrameVerifier y = coded(PUSH, 2, NEW, 0, TWICE, 0, CALL, 2, DROP, 0, PUSH, 1, GET, 0, RETURN, 0,
                PUSH, 1, STORE, 5, LOAD, 0, LOAD, 5, PUSH, 6, PUT, 0, NONE, 0, RETURN, 0);
        y.routine(0, 0, 0, 0);
        y.routine(2, 8, 1, 9);
        due("verify", y::verify, 0);
        y.start(0, 0, 0);
        due("an array is passed by reference", () -> y.steps(99) == 16 ? y.about(5) : -9, 6);
        FrameVerifier z = coded(CALL, 1, DROP, 0, CALL, 1, RETURN, 0, PUSH, 3, STORE, 4, PUSH, 5, RETURN, 0);
        z.routine(0, 0, 0, 0);
        z.routine(1, 4, 0, 0);
        z.start(0, 0, 0);
        z.steps(7);
        due("a frame used again has empty locals", () -> z.local(4), NOTHING);
        due("and an empty stack", () -> z.about(2) * 10 + z.about(3), 20);
    }

    private static void zeroedAnew() {
        FrameVerifier x = coded(PUSH, 3, NEW, 0, TWICE, 0, PUSH, 2, GET, 0, EXCHANGE, 0,
                PUSH, 2, PUSH, 8, PUT, 0, RETURN, 0);
        x.routine(0, 0, 0, 0);
        for (int i = 0; i < 2; i++) {
            x.start(0, 0, 0);
            due("steps", () -> x.steps(20), 10);
            due("zeros in every run", () -> x.about(5), 0);
        }
    }

    private static void stepTraps() {
        dueTrap(started(PUSH, 1, PUSH, 0, DIVIDE, 0, RETURN, 0), 2, "ArithmeticException");
        dueTrap(started(NONE, 0, LENGTH, 0, RETURN, 0), 1, "NoSuchElementException");
        dueTrap(started(NONE, 0, PUSH, -1, GET, 0, RETURN, 0), 2, "NoSuchElementException");
        dueTrap(started(NONE, 0, PUSH, 0, PUSH, 0, PUT, 0, PUSH, 0, RETURN, 0), 3, "NoSuchElementException");
        for (int i : new int[] {Integer.MIN_VALUE, -1, 3, 4, Integer.MAX_VALUE}) {
            dueTrap(started(PUSH, 3, NEW, 0, PUSH, i, GET, 0, RETURN, 0), 3, "IndexOutOfBoundsException");
            dueTrap(started(PUSH, 3, NEW, 0, PUSH, i, PUSH, 0, PUT, 0, PUSH, 0, RETURN, 0), 4,
                    "IndexOutOfBoundsException");
        }
        dueTrap(started(PUSH, 0, NEW, 0, PUSH, 0, GET, 0, RETURN, 0), 3, "IndexOutOfBoundsException");
        for (int length : new int[] {Integer.MIN_VALUE, -1, 13, Integer.MAX_VALUE}) {
            dueTrap(started(PUSH, length, NEW, 0, LENGTH, 0, RETURN, 0), 1, "IllegalStateException");
        }
    }

    private static void stepUnfit() {
        String unfit = "UnsupportedOperationException";
        dueTrap(started(), 0, unfit);
        dueTrap(started(20, 0, RETURN, 0), 0, unfit);
        dueTrap(started(-1, 0, RETURN, 0), 0, unfit);
        dueTrap(started(PUSH, 0), 0, unfit);
        dueTrap(started(PUSH, 0, ADD, 0, RETURN, 0), 1, unfit);
        dueTrap(started(PUSH, 0, NONE, 0, DIVIDE, 0, RETURN, 0), 2, unfit);
        dueTrap(started(NONE, 0, PUSH, 0, DIVIDE, 0, RETURN, 0), 2, unfit);
        dueTrap(started(LOAD, 0, RETURN, 0), 0, unfit);
        dueTrap(started(LOAD, 6, RETURN, 0), 0, unfit);
        dueTrap(started(PUSH, 0, STORE, -1, RETURN, 0), 1, unfit);
        dueTrap(started(JUMP, 1), 0, unfit);
        dueTrap(started(PUSH, 1, ZERO, 9, PUSH, 0, RETURN, 0), 1, unfit);
        dueTrap(started(PUSH, 0, ZERO, 0), 1, unfit);
        dueTrap(started(NONE, 0, ZERO, 0, RETURN, 0), 1, unfit);
        dueTrap(started(PUSH, 0, MISSING, 0, RETURN, 0), 1, unfit);
        dueTrap(started(NONE, 0, NEW, 0, RETURN, 0), 1, unfit);
        dueTrap(started(PUSH, 1, PUSH, 0, GET, 0, RETURN, 0), 2, unfit);
        dueTrap(started(NONE, 0, NONE, 0, PUSH, 0, PUT, 0, RETURN, 0), 3, unfit);
        dueTrap(started(PUSH, 0, LENGTH, 0, RETURN, 0), 1, unfit);
        dueTrap(started(TWICE, 0, RETURN, 0), 0, unfit);
        dueTrap(started(PUSH, 0, EXCHANGE, 0, RETURN, 0), 1, unfit);
        dueTrap(started(DROP, 0, RETURN, 0), 0, unfit);
        dueTrap(started(CALL, 1, RETURN, 0), 0, unfit);
        dueTrap(started(CALL, -1, RETURN, 0), 0, unfit);
        dueTrap(started(CALL, 4, RETURN, 0), 0, unfit);
        dueTrap(started(RETURN, 0), 0, unfit);
        dueTrap(started(NONE, 0, RETURN, 0), 1, unfit);
        dueTrap(started(PUSH, 0, JUMP, 0), 12, unfit);
        dueTrap(started(PUSH, 0, TWICE, 0, JUMP, 1), 11, unfit);
        FrameVerifier x = coded(PUSH, 1, CALL, 1, RETURN, 0);
        x.routine(0, 0, 0, 0);
        x.routine(1, 70, 1, 1);
        x.start(0, 0, 0);
        dueTrap(x, 1, unfit);
        x.routine(1, 70, 1, 0);
        x.start(0, 0, 0);
        dueTrap(x, 2, unfit);
        FrameVerifier y = coded(PUSH, 1, ZERO, 3, NONE, 0, PUSH, 7, RETURN, 0);
        y.routine(0, 0, 0, 0);
        due("what is torn may run", () -> y.verify() == 1003 && y.start(0, 0, 0) ? y.steps(9) : -9, 5);
    }

    private static void stepLimits() {
        FrameVerifier x = coded(LOAD, 0, ZERO, 7, LOAD, 0, PUSH, 1, SUBTRACT, 0, CALL, 0, RETURN, 0,
                PUSH, 5, RETURN, 0);
        x.routine(0, 0, 1, 0);
        due("verify", x::verify, 0);
        x.start(7, 0, 0);
        due("seven calls inside one another", () -> x.steps(200), 7 * 6 + 4 + 7);
        due("result", () -> x.about(5), 5);
        x.start(8, 0, 0);
        due("up to the eighth call", () -> x.steps(7 * 6 + 5), 47);
        due("frames", () -> x.about(2), 8);
        dueTrap(x, 0, "IllegalStateException");
        FrameVerifier y = plain(PUSH, 12, NEW, 0, DROP, 0, PUSH, 12, NEW, 0, DROP, 0, PUSH, 6, NEW, 0,
                DROP, 0, PUSH, 0, NEW, 0, DROP, 0, PUSH, 1, NEW, 0, RETURN, 0);
        y.start(0, 0, 0);
        due("30 elements", () -> y.steps(13), 13);
        due("elements", () -> y.about(6), 30);
        dueTrap(y, 0, "IllegalStateException");
        due("elements stay", () -> y.about(6), 30);
        FrameVerifier z = plain(PUSH, 12, NEW, 0, PUSH, 11, NEW, 0, PUSH, 8, NEW, 0, RETURN, 0);
        z.start(0, 0, 0);
        dueTrap(z, 5, "IllegalStateException");
        FrameVerifier many = plain(PUSH, 0, NEW, 0, DROP, 0, JUMP, 0);
        many.start(0, 0, 0);
        for (int i = 0; i < 100; i++) {
            due("arrays of no elements", () -> many.steps(200), 200);
        }
        FrameVerifier order = plain(NONE, 0, PUSH, 99, GET, 0);
        order.start(0, 0, 0);
        dueTrap(order, 2, "UnsupportedOperationException");
    }

    private static void stepChangedCode() {
        FrameVerifier x = coded(PUSH, 1, RETURN, 0, NONE, 0, RETURN, 0);
        x.routine(0, 0, 0, 0);
        due("verify", x::verify, 0);
        x.start(0, 0, 0);
        x.step();
        x.routine(0, 2, 0, 8);
        due("verify", x::verify, 0);
        due("address stays", () -> x.about(1), 1);
        dueTrap(x, 0, "UnsupportedOperationException");
        FrameVerifier y = coded(PUSH, 1, JUMP, 2);
        y.routine(0, 0, 0, 0);
        y.start(0, 0, 0);
        y.step();
        y.add(RETURN, 0);
        due("an instruction added in a run is there", () -> y.steps(5), 2);
        FrameVerifier z = coded(PUSH, 1, CALL, 1, RETURN, 0);
        z.routine(0, 0, 0, 0);
        z.start(0, 0, 0);
        z.step();
        z.routine(1, 2, 1, 0);
        due("a routine told in a run is not right here but there", z::step, 1);
        due("frames", () -> z.about(2), 2);
        dueTrap(z, 0, "UnsupportedOperationException");
    }

    private static void steps() {
        FrameVerifier x = started(PUSH, 1, DROP, 0, JUMP, 0);
        for (int n : new int[] {Integer.MIN_VALUE, -1, 0, 201, Integer.MAX_VALUE}) {
            due("steps(" + n + ")", () -> x.steps(n), "IllegalArgumentException");
            due("still runs", () -> x.about(0) * 10 + x.about(1), 10);
            due("when none runs", () -> new FrameVerifier().steps(n), "IllegalArgumentException");
        }
        due("steps(1)", () -> x.steps(1), 1);
        due("address", () -> x.about(1), 1);
        due("steps(200)", () -> x.steps(200), 200);
        due("address", () -> x.about(1), 0);
        FrameVerifier y = started(PUSH, 1, DROP, 0, PUSH, 4, RETURN, 0);
        due("one short of the end", () -> y.steps(3), 3);
        due("runs", () -> y.about(0), 1);
        due("the last", () -> y.steps(3), 1);
        due("none", () -> y.steps(3), 0);
        FrameVerifier z = started(PUSH, 7, STORE, 0, PUSH, 1, PUSH, 0, DIVIDE, 0, RETURN, 0);
        due("just before the trap", () -> z.steps(4), 4);
        due("height", () -> z.about(3), 2);
        due("the trap", () -> z.steps(1), "ArithmeticException");
        due("runs", () -> z.about(0), 0);
        z.start(0, 0, 0);
        due("the trap on the way", () -> z.steps(200), "ArithmeticException");
        due("then none", () -> z.steps(200), 0);
        String[] names = {"UnsupportedOperationException", "NoSuchElementException",
            "IndexOutOfBoundsException", "IllegalStateException"};
        FrameVerifier[] trapped = {started(ADD, 0), started(NONE, 0, LENGTH, 0, RETURN, 0),
            started(PUSH, 0, NEW, 0, PUSH, 0, GET, 0, RETURN, 0), started(CALL, 0, RETURN, 0)};
        for (int i = 0; i < names.length; i++) {
            FrameVerifier of = trapped[i];
            due("what a step throws", () -> of.steps(100), names[i]);
            due("runs", () -> of.about(0), 0);
        }
    }

    private static void about() {
        FrameVerifier x = coded(PUSH, -8, NONE, 0, PUSH, 4, NEW, 0, DROP, 0, DROP, 0, RETURN, 0);
        x.routine(0, 0, 0, 0);
        x.start(0, 0, 0);
        int[][] want = {{1, 0, 1, 0, -1, 0, 0, 7}, {1, 1, 1, 1, -8, 0, 0, 7}, {1, 2, 1, 2, 0, 0, 0, 7},
            {1, 3, 1, 3, 4, 0, 0, 7}, {1, 4, 1, 3, 1, 0, 4, 7}, {1, 5, 1, 2, 0, 0, 4, 7},
            {1, 6, 1, 1, -8, 0, 4, 7}, {0, -1, -1, -1, -1, -8, 4, 7}};
        for (int i = 0; i < want.length; i++) {
            for (int what = 0; what < 8; what++) {
                int asks = what;
                due("about(" + what + ") after " + i, () -> x.about(asks), want[i][what]);
            }
            for (int what : new int[] {Integer.MIN_VALUE, -1, 8, Integer.MAX_VALUE}) {
                due("about(" + what + ")", () -> x.about(what), NOTHING);
            }
            x.step();
        }
        x.start(0, 0, 0);
        due("the result of the run before", () -> x.about(5), -8);
        due("elements since the start", () -> x.about(6), 0);
        x.routine(0, 4, 0, 0);
        x.start(0, 0, 0);
        due("a trap", x::step, "UnsupportedOperationException");
        due("the result of the last RETURN stays", () -> x.about(5), -8);
    }

    private static void local() {
        FrameVerifier x = coded(PUSH, 2, NEW, 0, STORE, 2, NONE, 0, STORE, 3, PUSH, -6, STORE, 5,
                NONE, 0, STORE, 5, PUSH, 0, RETURN, 0);
        x.routine(0, 0, 1, 0);
        due("before a run", () -> x.local(0), NOTHING);
        x.start(11, 0, 0);
        x.steps(7);
        int[] want = {11, -1, 1, 0, -1, -6};
        for (int i = 0; i < want.length; i++) {
            int asks = i;
            due("local(" + i + ")", () -> x.local(asks), want[i]);
        }
        x.steps(2);
        due("local(5)", () -> x.local(5), 0);
        for (int i : new int[] {Integer.MIN_VALUE, -1, 6, 7, 11, 12, Integer.MAX_VALUE}) {
            due("local(" + i + ")", () -> x.local(i), NOTHING);
        }
        x.steps(2);
        due("after the run", () -> x.local(0), NOTHING);
        FrameVerifier y = coded(LOAD, 0, CALL, 1, STORE, 0, JUMP, 0, PUSH, 9, STORE, 0, LOAD, 0, RETURN, 0);
        y.routine(0, 0, 1, 0);
        y.routine(1, 4, 1, 0);
        y.start(3, 0, 0);
        y.steps(4);
        due("of the top frame", () -> y.local(0), 9);
        y.steps(2);
        due("the caller's is its own", () -> y.local(0), 3);
        y.step();
        due("what was stored", () -> y.local(0), 9);
    }
}
