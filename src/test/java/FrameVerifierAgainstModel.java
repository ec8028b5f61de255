import java.util.ArrayList;
import java.util.Arrays;
import java.util.List;
import java.util.NoSuchElementException;
import java.util.Random;
import java.util.TreeSet;

/**
 * Many runs of calls, the same ones each time, on the program and on a plain model that was
 * written apart from it, with an object for every value and every state.
 */
public final class FrameVerifierAgainstModel {
    private static final int RUNS = 6000;
    private static final int CALLS = 512;
    private static final int SHOWN = 20;

    private static int wrong = 0;
    private static long asked = 0;

    private FrameVerifierAgainstModel() {
    }

    public static void main(String[] args) {
        for (int run = 0; run < RUNS && wrong < SHOWN; run++) {
            play(run);
        }
        System.out.println(asked + " answers, " + wrong + " not as the model's");
        if (wrong != 0) {
            System.exit(1);
        }
    }

    private interface Ask {
        long answer();
    }

    private static String told(Ask ask) {
        try {
            return String.valueOf(ask.answer());
        } catch (RuntimeException e) {
            return e.getClass().getName();
        }
    }

    private static boolean same(int run, List<String> calls, Ask program, Ask model) {
        asked++;
        String got = told(program);
        String want = told(model);
        if (!got.equals(want)) {
            wrong++;
            System.out.println("run " + run + ": " + calls + " answered " + got + ", the model says " + want);
        }
        return got.equals(want);
    }

    private static void play(int run) {
        Random random = new Random(run);
        FrameVerifier x = new FrameVerifier();
        Model m = new Model();
        List<String> calls = new ArrayList<>();
        int length = run % 5 == 0 ? 105 : 3 + random.nextInt(30);
        if (run % 3 == 0) {
            for (int r = 0; r < 1 + random.nextInt(4); r++) {
                oneRoutine(run, random, length, calls, x, m);
            }
            for (int i = 0; i < length; i++) {
                oneAdd(run, random, length, calls, x, m);
            }
        } else {
            length = likelyCode(run, random, calls, x, m);
        }
        while (calls.size() < CALLS) {
            if (!oneCall(run, random, length, calls, x, m)) {
                return;
            }
        }
    }

    /** Four routines whose instructions mostly fit what the ones before them leave. */
    private static int likelyCode(int run, Random random, List<String> calls, FrameVerifier x, Model m) {
        int each = 4 + random.nextInt(21);
        for (int r = 3; r >= 0; r--) {
            int parameters = random.nextInt(4);
            int kinds = random.nextInt(random.nextInt(3) == 0 ? 16 : 8);
            int start = (3 - r) * each;
            int who = r;
            calls.add("routine(" + r + ", " + start + ", " + parameters + ", " + kinds + ")");
            same(run, calls, () -> x.routine(who, start, parameters, kinds) ? 1 : 0,
                    () -> m.routine(who, start, parameters, kinds) ? 1 : 0);
            likelyRoutine(run, random, r, each, calls, x, m);
        }
        return 4 * each;
    }

    private static void likelyRoutine(int run, Random random, int r, int each, List<String> calls,
            FrameVerifier x, Model m) {
        State state = m.firstState(r);
        int first = m.code.size();
        List<Integer> heights = new ArrayList<>();
        for (int i = 0; i < each; i++) {
            heights.add(state.stack.size());
            int[] chosen = i >= each - 2 ? ending(i - each + 2, m.routines[r].kind(3), state) : null;
            for (int tries = 0; chosen == null; tries++) {
                chosen = tries > 200 ? new int[] {0, 1} : likely(random, r, first, heights, each, state, m);
            }
            State after = state.copy();
            try {
                m.change(r, chosen[0], chosen[1], after);
                state = after;
            } catch (IndexOutOfBoundsException | IllegalArgumentException e) {
                // The state before it serves the next one as well as any.
            }
            int op = chosen[0];
            int n = chosen[1];
            calls.add("add(" + op + ", " + n + ")");
            same(run, calls, () -> x.add(op, n), () -> m.add(op, n));
        }
    }

    private static int[] ending(int last, int kind, State state) {
        if (last == 1) {
            return new int[] {19, 0};
        }
        return new int[] {state.stack.size() == 6 ? 16 : kind == 2 ? 9 : 0, 3};
    }

    /** An op and a number that fit, or null when what was drawn doesn't. */
    private static int[] likely(Random random, int r, int first, List<Integer> heights, int each,
            State state, Model m) {
        int op = random.nextInt(3) == 0 ? new int[] {7, 8, 8, 10, 6}[random.nextInt(5)] : random.nextInt(20);
        int n = numberFor(op, random, each);
        State after = state.copy();
        if ((op == 7 || op == 19) && random.nextInt(3) > 0 || op == 18 && !m.told(n)
                || op == 6 && (n < 0 || n > 5) || op == 5 && (n < 0 || n > 5)) {
            return null;
        }
        try {
            m.change(r, op, n, after);
        } catch (IndexOutOfBoundsException | IllegalArgumentException e) {
            return null;
        }
        if (op == 7 || op == 8 || op == 10) {
            int to = random.nextInt(each);
            boolean alike = to < heights.size() && heights.get(to) == after.stack.size()
                    || to >= heights.size() && after.stack.size() < 2;
            return alike || random.nextInt(40) == 0 ? new int[] {op, first + to} : null;
        }
        return after.stack.size() > 6 ? null : new int[] {op, n};
    }

    private static boolean oneAdd(int run, Random random, int length, List<String> calls,
            FrameVerifier x, Model m) {
        int op = random.nextInt(60) == 0 ? random.nextInt(30) - 5 : likelyOp(random);
        int n = numberFor(op, random, length);
        calls.add("add(" + op + ", " + n + ")");
        return same(run, calls, () -> x.add(op, n), () -> m.add(op, n));
    }

    private static int likelyOp(Random random) {
        int[] common = {0, 0, 0, 0, 5, 5, 6, 6, 9, 9, 11, 15, 17, 18, 19};
        return random.nextInt(3) > 0 ? common[random.nextInt(common.length)] : random.nextInt(20);
    }

    private static int numberFor(int op, Random random, int length) {
        if (random.nextInt(50) == 0) {
            return random.nextInt(110) - 5;
        }
        switch (op) {
            case 5: case 6: return random.nextInt(3) > 0 ? random.nextInt(2) : random.nextInt(6);
            case 7: case 8: case 10: return random.nextInt(length);
            case 18: return random.nextInt(random.nextInt(8) == 0 ? 4 : 2);
            default: return random.nextInt(8) == 0 ? random.nextInt() : random.nextInt(14) - 1;
        }
    }

    private static boolean oneRoutine(int run, Random random, int length, List<String> calls,
            FrameVerifier x, Model m) {
        boolean odd = random.nextInt(25) == 0;
        int r = odd ? random.nextInt(7) - 1 : random.nextInt(random.nextBoolean() ? 1 : 4);
        int start = random.nextInt(30) == 0 ? random.nextInt(120) - 10 : random.nextInt(length);
        int parameters = odd ? random.nextInt(7) - 1 : random.nextInt(4);
        int kinds = odd ? random.nextInt(20) - 2 : random.nextInt(random.nextBoolean() ? 8 : 16);
        calls.add("routine(" + r + ", " + start + ", " + parameters + ", " + kinds + ")");
        return same(run, calls, () -> x.routine(r, start, parameters, kinds) ? 1 : 0,
                () -> m.routine(r, start, parameters, kinds) ? 1 : 0);
    }

    private static boolean oneCall(int run, Random random, int length, List<String> calls,
            FrameVerifier x, Model m) {
        int a = random.nextInt(random.nextInt(4) == 0 ? 7 : 4) - (random.nextInt(9) == 0 ? 1 : 0);
        int b = m.told(a) && random.nextInt(4) > 0 ? m.routines[a].start + random.nextInt(16)
                : random.nextInt(length + 2) - (random.nextInt(20) == 0 ? 3 : 0);
        int c = random.nextInt(14) - (random.nextInt(20) == 0 ? 3 : 0);
        switch (random.nextInt(30)) {
            case 0:
                return random.nextInt(4) > 0 || oneAdd(run, random, length, calls, x, m);
            case 1:
                return random.nextInt(4) > 0 || oneRoutine(run, random, length, calls, x, m);
            case 2: case 3:
                calls.add("verify()");
                return same(run, calls, x::verify, m::verify);
            case 4:
                calls.add("isVerified()");
                return same(run, calls, () -> x.isVerified() ? 1 : 0, () -> m.verified ? 1 : 0);
            case 5:
                calls.add("start(" + a + ", " + b + ", " + c + ")");
                return same(run, calls, () -> x.start(a, b, c) ? 1 : 0, () -> m.start(a, b, c) ? 1 : 0);
            case 6: case 7: case 8: case 9: case 10: case 11:
                calls.add("step()");
                return same(run, calls, x::step, m::step);
            case 12: case 13:
                int n = random.nextInt(10) == 0 ? random.nextInt(210) - 5 : 1 + random.nextInt(9);
                calls.add("steps(" + n + ")");
                return same(run, calls, () -> x.steps(n), () -> m.steps(n));
            case 14: case 15: case 16:
                int what = random.nextInt(10) - 1;
                calls.add("about(" + what + ")");
                return same(run, calls, () -> x.about(what), () -> m.about(what));
            case 17: case 18:
                int i = random.nextInt(9) - 1;
                calls.add("local(" + i + ")");
                return same(run, calls, () -> x.local(i), () -> m.local(i));
            default:
                calls.add("type(" + a + ", " + b + ", " + c + ")");
                return same(run, calls, () -> x.type(a, b, c), () -> m.type(a, b, c));
        }
    }

    private static final class Routine {
        int start;
        int parameters;
        int kinds;

        int kind(int bit) {
            return (kinds & (1 << bit)) != 0 ? 2 : 1;
        }
    }

    /** Types of locals and stack; torn ones have no stack. */
    private static final class State {
        int[] locals = new int[6];
        List<Integer> stack = new ArrayList<>();
        boolean torn;

        State copy() {
            State other = new State();
            other.locals = locals.clone();
            other.stack = new ArrayList<>(stack);
            other.torn = torn;
            return other;
        }

        boolean equalTo(State other) {
            return torn == other.torn && Arrays.equals(locals, other.locals) && stack.equals(other.stack);
        }

        State meet(State other) {
            State both = copy();
            if (torn || stack.size() != other.stack.size()) {
                both = new State();
                both.torn = true;
                return both;
            }
            for (int i = 0; i < 6; i++) {
                both.locals[i] = locals[i] == other.locals[i] ? locals[i] : 3;
            }
            for (int i = 0; i < stack.size(); i++) {
                both.stack.set(i, stack.get(i).equals(other.stack.get(i)) ? stack.get(i) : 3);
            }
            return both;
        }

        int pop() {
            return stack.remove(stack.size() - 1);
        }
    }

    /** An int, or a reference to elements or to none. */
    private static final class Value {
        boolean reference;
        int number;
        int[] elements;

        static Value of(int number) {
            Value value = new Value();
            value.number = number;
            return value;
        }

        static Value to(int[] elements) {
            Value value = new Value();
            value.reference = true;
            value.elements = elements;
            return value;
        }

        int shown() {
            return reference ? (elements == null ? 0 : 1) : number;
        }
    }

    private static final class Call {
        int routine;
        int address;
        Value[] locals = new Value[6];
        List<Value> stack = new ArrayList<>();

        State types() {
            State state = new State();
            for (int i = 0; i < 6; i++) {
                state.locals[i] = locals[i] == null ? 0 : locals[i].reference ? 2 : 1;
            }
            for (Value value : stack) {
                state.stack.add(value.reference ? 2 : 1);
            }
            return state;
        }

        Value below(int depth) {
            return stack.get(stack.size() - 1 - depth);
        }

        Value pop() {
            return stack.remove(stack.size() - 1);
        }
    }

    private static final class Model {
        final List<int[]> code = new ArrayList<>();
        final Routine[] routines = new Routine[4];
        final List<Call> calls = new ArrayList<>();
        boolean verified;
        int result;
        int used;

        int add(int op, int n) {
            if (code.size() == 100) {
                throw new IllegalStateException();
            }
            verified = false;
            code.add(new int[] {op, n});
            return code.size() - 1;
        }

        boolean routine(int r, int start, int parameters, int kinds) {
            if (r < 0 || r > 3 || parameters < 0 || parameters > 3 || kinds < 0 || kinds > 15) {
                return false;
            }
            verified = false;
            routines[r] = new Routine();
            routines[r].start = start;
            routines[r].parameters = parameters;
            routines[r].kinds = kinds;
            return true;
        }

        boolean there(int address) {
            return 0 <= address && address < code.size();
        }

        boolean told(int r) {
            return 0 <= r && r < 4 && routines[r] != null;
        }

        /** The state behind the instruction, or null when it doesn't fit. */
        State behind(int r, int address, State before) {
            if (before == null || before.torn || !there(address)) {
                return null;
            }
            int op = code.get(address)[0];
            int n = code.get(address)[1];
            if (op < 0 || op > 19 || (op != 7 && op != 19 && !there(address + 1))) {
                return null;
            }
            boolean names = op == 5 || op == 6 ? n >= 0 && n <= 5
                    : op == 7 || op == 8 || op == 10 ? there(n) : op != 18 || told(n);
            if (!names) {
                return null;
            }
            State s = before.copy();
            try {
                change(r, op, n, s);
            } catch (IndexOutOfBoundsException | IllegalArgumentException e) {
                return null;
            }
            return s.stack.size() > 6 ? null : s;
        }

        void take(State s, int type) {
            if (s.pop() != type) {
                throw new IllegalArgumentException();
            }
        }

        void change(int r, int op, int n, State s) {
            switch (op) {
                case 0: s.stack.add(1); break;
                case 1: case 2: case 3: case 4: take(s, 1); take(s, 1); s.stack.add(1); break;
                case 5:
                    if (s.locals[n] != 1 && s.locals[n] != 2) {
                        throw new IllegalArgumentException();
                    }
                    s.stack.add(s.locals[n]);
                    break;
                case 6: s.locals[n] = s.pop(); break;
                case 7: break;
                case 8: take(s, 1); break;
                case 9: s.stack.add(2); break;
                case 10: take(s, 2); break;
                case 11: take(s, 1); s.stack.add(2); break;
                case 12: take(s, 1); take(s, 2); s.stack.add(1); break;
                case 13: take(s, 1); take(s, 1); take(s, 2); break;
                case 14: take(s, 2); s.stack.add(1); break;
                case 15: int top = s.pop(); s.stack.add(top); s.stack.add(top); break;
                case 16: int upper = s.pop(); int lower = s.pop(); s.stack.add(upper); s.stack.add(lower); break;
                case 17: s.pop(); break;
                case 18:
                    for (int k = routines[n].parameters - 1; k >= 0; k--) {
                        take(s, routines[n].kind(k));
                    }
                    s.stack.add(routines[n].kind(3));
                    break;
                default: take(s, routines[r].kind(3));
            }
        }

        State firstState(int r) {
            State first = new State();
            for (int k = 0; k < routines[r].parameters; k++) {
                first.locals[k] = routines[r].kind(k);
            }
            return first;
        }

        State[] flow(int r) {
            State[] states = new State[code.size()];
            TreeSet<Integer> waiting = new TreeSet<>();
            if (there(routines[r].start)) {
                states[routines[r].start] = firstState(r);
                waiting.add(routines[r].start);
            }
            while (!waiting.isEmpty()) {
                int address = waiting.pollFirst();
                State after = behind(r, address, states[address]);
                if (after != null) {
                    int op = code.get(address)[0];
                    List<Integer> next = new ArrayList<>();
                    if (op == 7 || op == 8 || op == 10) {
                        next.add(code.get(address)[1]);
                    }
                    if (op != 7 && op != 19) {
                        next.add(address + 1);
                    }
                    for (int to : next) {
                        State met = states[to] == null ? after : states[to].meet(after);
                        if (states[to] == null || !met.equalTo(states[to])) {
                            states[to] = met;
                            waiting.add(to);
                        }
                    }
                }
            }
            return states;
        }

        int verify() {
            verified = false;
            if (routines[0] == null) {
                return 1999;
            }
            for (int r = 0; r < 4; r++) {
                if (routines[r] != null) {
                    if (!there(routines[r].start)) {
                        return 1000 * r + 1999;
                    }
                    State[] states = flow(r);
                    for (int address = 0; address < states.length; address++) {
                        if (states[address] != null && behind(r, address, states[address]) == null) {
                            return 1000 * r + 1000 + address;
                        }
                    }
                }
            }
            verified = true;
            return 0;
        }

        int type(int r, int address, int slot) {
            if (!told(r) || !there(address) || slot < 0 || slot > 11) {
                return -1;
            }
            State state = flow(r)[address];
            if (state == null) {
                return -1;
            }
            if (state.torn) {
                return -2;
            }
            if (slot < 6) {
                return state.locals[slot];
            }
            return slot - 6 < state.stack.size() ? state.stack.get(slot - 6) : -1;
        }

        boolean start(int x, int y, int z) {
            if (routines[0] == null) {
                return false;
            }
            calls.clear();
            used = 0;
            Call call = new Call();
            call.address = routines[0].start;
            int[] given = {x, y, z};
            for (int k = 0; k < routines[0].parameters; k++) {
                call.locals[k] = routines[0].kind(k) == 2 ? Value.to(null) : Value.of(given[k]);
            }
            calls.add(call);
            return true;
        }

        int step() {
            if (!calls.isEmpty()) {
                List<Call> open = new ArrayList<>(calls);
                calls.clear();
                if (advance(open)) {
                    calls.addAll(open);
                }
            }
            return calls.isEmpty() ? 0 : 1;
        }

        int steps(int n) {
            if (n < 1 || n > 200) {
                throw new IllegalArgumentException();
            }
            int done = 0;
            for (; done < n && !calls.isEmpty(); done++) {
                step();
            }
            return done;
        }

        boolean advance(List<Call> open) {
            Call c = open.get(open.size() - 1);
            if (behind(c.routine, c.address, c.types()) == null) {
                throw new UnsupportedOperationException();
            }
            int op = code.get(c.address)[0];
            int n = code.get(c.address)[1];
            c.address++;
            switch (op) {
                case 0: c.stack.add(Value.of(n)); break;
                case 1: c.stack.add(Value.of(c.pop().number + c.pop().number)); break;
                case 2: c.stack.add(Value.of(-c.pop().number + c.pop().number)); break;
                case 3: c.stack.add(Value.of(c.pop().number * c.pop().number)); break;
                case 4: divide(c); break;
                case 5: c.stack.add(c.locals[n]); break;
                case 6: c.locals[n] = c.pop(); break;
                case 7: c.address = n; break;
                case 8: if (c.pop().number == 0) { c.address = n; } break;
                case 9: c.stack.add(Value.to(null)); break;
                case 10: if (c.pop().elements == null) { c.address = n; } break;
                case 11: make(c); break;
                case 12: int i = c.pop().number; c.stack.add(Value.of(array(c.pop(), i)[i])); break;
                case 13: int v = c.pop().number; int j = c.pop().number; array(c.pop(), j)[j] = v; break;
                case 14: Value of = c.pop(); c.stack.add(Value.of(arrayOf(of).length)); break;
                case 15: c.stack.add(c.below(0)); break;
                case 16: c.stack.add(c.stack.remove(c.stack.size() - 2)); break;
                case 17: c.pop(); break;
                case 18: enter(open, c, n); break;
                default: return leave(open, c);
            }
            return true;
        }

        void divide(Call c) {
            long upper = c.pop().number;
            long lower = c.pop().number;
            if (upper == 0) {
                throw new ArithmeticException();
            }
            c.stack.add(Value.of((int) (lower / upper)));
        }

        void make(Call c) {
            int length = c.pop().number;
            if (length < 0 || length > 12 || used + length > 30) {
                throw new IllegalStateException();
            }
            used += length;
            c.stack.add(Value.to(new int[length]));
        }

        int[] arrayOf(Value value) {
            if (value.elements == null) {
                throw new NoSuchElementException();
            }
            return value.elements;
        }

        int[] array(Value value, int i) {
            int[] elements = arrayOf(value);
            if (i < 0 || i >= elements.length) {
                throw new IndexOutOfBoundsException();
            }
            return elements;
        }

        void enter(List<Call> open, Call c, int n) {
            if (open.size() - 1 == 7) {
                throw new IllegalStateException();
            }
            Call inner = new Call();
            inner.routine = n;
            inner.address = routines[n].start;
            for (int k = routines[n].parameters - 1; k >= 0; k--) {
                inner.locals[k] = c.pop();
            }
            open.add(inner);
        }

        boolean leave(List<Call> open, Call c) {
            Value value = c.pop();
            open.remove(open.size() - 1);
            if (open.isEmpty()) {
                result = value.shown();
                return false;
            }
            open.get(open.size() - 1).stack.add(value);
            return true;
        }

        int about(int what) {
            Call c = calls.isEmpty() ? null : calls.get(calls.size() - 1);
            switch (what) {
                case 0: return c == null ? 0 : 1;
                case 1: return c == null ? -1 : c.address;
                case 2: return c == null ? -1 : calls.size();
                case 3: return c == null ? -1 : c.stack.size();
                case 4: return c == null || c.stack.isEmpty() ? -1 : c.below(0).shown();
                case 5: return result;
                case 6: return used;
                case 7: return code.size();
                default: return -1;
            }
        }

        int local(int i) {
            if (calls.isEmpty() || i < 0 || i > 5 || calls.get(calls.size() - 1).locals[i] == null) {
                return -1;
            }
            return calls.get(calls.size() - 1).locals[i].shown();
        }
    }
}
