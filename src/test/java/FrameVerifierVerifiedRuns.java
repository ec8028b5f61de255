import java.util.ArrayList;
import java.util.Arrays;
import java.util.List;
import java.util.Random;

/**
 * The document's first sentence: runs of verified code go wrong only by numbers, and find at every
 * address the types that were worked out for it. The codes are drawn, always the same ones.
 */
public final class FrameVerifierVerifiedRuns extends Checks {
    private static final int WANTED = 8000;
    private static final int MOST_DRAWN = 200_000;
    private static final int MOST_STEPS = 35;
    private static final int ROUTINES = 4;
    private static final List<String> NUMBERS_FAULTS = Arrays.asList(DIVISION, MISSES, OUTSIDE, FULL);

    /** How often a run ended in each of these ways, so that none is left out unseen. */
    private static int returned = 0;
    private static final int[] trapped = new int[NUMBERS_FAULTS.size()];
    private static int called = 0;
    private static int turnedAny = 0;

    private FrameVerifierVerifiedRuns() {
    }

    public static void main(String[] args) {
        watch();
        test("what was verified goes wrong only by numbers", FrameVerifierVerifiedRuns::verifiedRuns);
        test("every way to end was seen", FrameVerifierVerifiedRuns::seen);
        end();
    }

    private static void verifiedRuns() {
        int verified = 0;
        for (int seed = 0; seed < MOST_DRAWN && verified < WANTED; seed++) {
            Drawn drawn = new Drawn(new Random(seed));
            FrameVerifier x = drawn.made();
            if (x.verify() == 0) {
                verified++;
                part = "code " + seed;
                follow(drawn, x, new Random(seed));
            }
        }
        int found = verified;
        due("codes that verify", () -> found, WANTED);
    }

    private static void seen() {
        due("runs that returned", () -> returned > 100, true);
        due("calls", () -> called > 100, true);
        due("places of type ANY", () -> turnedAny > 100, true);
        for (int i = 0; i < trapped.length; i++) {
            int times = trapped[i];
            due("runs that ended by " + NUMBERS_FAULTS.get(i), () -> times > 20, true);
        }
    }

    /** One run, step by step; which routine a frame is of is told by the calls that were made. */
    private static void follow(Drawn drawn, FrameVerifier x, Random random) {
        List<Integer> owners = new ArrayList<>();
        owners.add(0);
        x.start(drawn.value(random), drawn.value(random), drawn.value(random));
        for (int i = 0; i < MOST_STEPS && x.about(0) == 1; i++) {
            int at = x.about(1);
            int top = owners.size() - 1;
            due("frames", () -> x.about(2), owners.size());
            dueAsWorkedOut(x, at, drawn.types(owners.get(top), at));
            if (!stepIsRight(x)) {
                return;
            }
            if (drawn.op(at) == CALL) {
                called++;
                owners.add(drawn.number(at));
            } else if (drawn.op(at) == RETURN) {
                owners.remove(top);
            }
        }
        returned += owners.isEmpty() ? 1 : 0;
        due("goes on", () -> x.about(0), owners.isEmpty() ? 0 : 1);
    }

    /** Whether the run may be followed on; a step that throws must throw one of the four. */
    private static boolean stepIsRight(FrameVerifier x) {
        try {
            x.step();
            return true;
        } catch (RuntimeException e) {
            int fault = NUMBERS_FAULTS.indexOf(e.getClass().getSimpleName());
            due("a fault by numbers, and not " + e, () -> fault >= 0, true);
            if (fault >= 0) {
                trapped[fault]++;
            }
            return false;
        }
    }

    private static void dueAsWorkedOut(FrameVerifier x, int at, int[] types) {
        int height = 0;
        for (int slot = 0; slot < types.length; slot++) {
            height += slot >= 6 && types[slot] != NOTHING ? 1 : 0;
            turnedAny += types[slot] == ANY ? 1 : 0;
        }
        due("height at " + at, () -> x.about(3), height);
        for (int i = 0; i < 6; i++) {
            dueOfType("local " + i + " at " + at, types[i], x.local(i));
        }
        if (height > 0) {
            dueOfType("top at " + at, types[5 + height], x.about(4));
        }
    }

    /** An INT shows any number, but an empty place only -1, and a reference 0 or 1. */
    private static void dueOfType(String what, int type, int shown) {
        boolean can = type == EMPTY ? shown == -1
                : type == REFERENCE ? shown == 0 || shown == 1 : type == INT || type == ANY;
        due(what + " of type " + type + " shows " + shown, () -> can, true);
    }

    /** A code of four routines whose instructions mostly fit what the ones before them leave. */
    private static final class Drawn {
        private final Random random;
        private final List<int[]> instructions = new ArrayList<>();
        private final int[][] routines = new int[ROUTINES][];
        private final int[][][] known = new int[ROUTINES][100][];
        private int[] locals;
        private List<Integer> stack;
        private List<Integer> heights;
        private int first;

        Drawn(Random random) {
            this.random = random;
            for (int r = 0; r < ROUTINES; r++) {
                routines[r] = new int[] {0, random.nextInt(4), random.nextInt(16)};
            }
            for (int r = 0; r < ROUTINES; r++) {
                drawRoutine(r);
            }
        }

        int op(int address) {
            return instructions.get(address)[0];
        }

        int number(int address) {
            return instructions.get(address)[1];
        }

        int value(Random from) {
            return from.nextInt(4) == 0 ? from.nextInt(20) - 4 : from.nextInt(4);
        }

        FrameVerifier made() {
            FrameVerifier x = new FrameVerifier();
            for (int[] instruction : instructions) {
                x.add(instruction[0], instruction[1]);
            }
            for (int r = 0; r < ROUTINES; r++) {
                x.routine(r, routines[r][0], routines[r][1], routines[r][2]);
            }
            return x;
        }

        /** By slot; asked of an object of its own, as none is asked more than 512 times. */
        int[] types(int r, int address) {
            if (known[r][address] == null) {
                FrameVerifier x = made();
                known[r][address] = new int[12];
                for (int slot = 0; slot < 12; slot++) {
                    known[r][address][slot] = x.type(r, address, slot);
                }
            }
            return known[r][address];
        }

        private void drawRoutine(int r) {
            first = instructions.size();
            routines[r][0] = first;
            locals = new int[6];
            for (int k = 0; k < routines[r][1]; k++) {
                locals[k] = kind(r, k);
            }
            stack = new ArrayList<>();
            heights = new ArrayList<>();
            int length = 3 + random.nextInt(12);
            for (int i = 0; i < length; i++) {
                int tries = 0;
                while (tries < 60 && !tried(anOp())) {
                    tries++;
                }
            }
            if (stack.size() == 6) {
                put(DROP, 0);
            }
            put(kind(r, 3) == REFERENCE ? NONE : PUSH, 5);
            put(RETURN, 0);
        }

        /** Ops that ask for much of what is there would be drawn in vain too often. */
        private int anOp() {
            int[] rare = {NEW, GET, PUT, DIVIDE};
            return random.nextInt(3) == 0 ? rare[random.nextInt(rare.length)] : random.nextInt(OPS);
        }

        private int kind(int r, int bit) {
            return (routines[r][2] >> bit & 1) == 1 ? REFERENCE : INT;
        }

        private void put(int op, int n) {
            heights.add(stack.size());
            instructions.add(new int[] {op, n});
        }

        /** Puts the op if it fits what is left by those before it. */
        private boolean tried(int op) {
            String takes = new String[] {"", "ii", "ii", "ii", "ii", "", "a", "", "i", "", "r", "i", "ri",
                "rii", "r", "a", "aa", "a", "", "a"}[op];
            int n = numberFor(op);
            if (op == CALL) {
                takes = taking(n);
            }
            if (op == RETURN || op == JUMP && random.nextInt(4) > 0 || !holds(takes)
                    || op == LOAD && locals[n] == EMPTY) {
                return false;
            }
            boolean pushes = op == PUSH || op == LOAD || op == NONE || op == TWICE
                    || op == CALL && takes.isEmpty();
            if (pushes && stack.size() == 6) {
                return false;
            }
            put(op, n);
            change(op, n, takes.length());
            return true;
        }

        private String taking(int r) {
            StringBuilder takes = new StringBuilder();
            for (int k = 0; k < routines[r][1]; k++) {
                takes.append(kind(r, k) == REFERENCE ? 'r' : 'i');
            }
            return takes.toString();
        }

        private boolean holds(String takes) {
            int below = stack.size() - takes.length();
            for (int i = 0; i < takes.length(); i++) {
                char kind = takes.charAt(i);
                if (below < 0 || kind == 'i' && stack.get(below + i) != INT
                        || kind == 'r' && stack.get(below + i) != REFERENCE) {
                    return false;
                }
            }
            return true;
        }

        private int numberFor(int op) {
            switch (op) {
                case LOAD:
                case STORE:
                    return random.nextInt(6);
                case JUMP:
                case ZERO:
                case MISSING:
                    return target(op);
                case CALL:
                    return random.nextInt(ROUTINES);
                default:
                    return value(random);
            }
        }

        /** A place behind, or one before where the stack is as high as it will be after the jump. */
        private int target(int op) {
            int height = stack.size() - (op == JUMP ? 0 : 1);
            int before = random.nextInt(heights.size() + 1);
            if (before < heights.size() && heights.get(before) == height && random.nextBoolean()) {
                return first + before;
            }
            return instructions.size() + 1 + random.nextInt(3);
        }

        private void change(int op, int n, int taken) {
            List<Integer> gone = new ArrayList<>();
            for (int i = 0; i < taken; i++) {
                gone.add(stack.remove(stack.size() - 1));
            }
            switch (op) {
                case LOAD:
                    stack.add(locals[n]);
                    break;
                case STORE:
                    locals[n] = gone.get(0);
                    break;
                case TWICE:
                    stack.add(gone.get(0));
                    stack.add(gone.get(0));
                    break;
                case EXCHANGE:
                    stack.add(gone.get(0));
                    stack.add(gone.get(1));
                    break;
                case NONE:
                case NEW:
                    stack.add(REFERENCE);
                    break;
                case CALL:
                    stack.add(kind(n, 3));
                    break;
                case PUSH:
                case ADD:
                case SUBTRACT:
                case MULTIPLY:
                case DIVIDE:
                case GET:
                case LENGTH:
                    stack.add(INT);
                    break;
                default:
                    break;
            }
        }
    }
}
