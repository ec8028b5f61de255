import java.util.Arrays;

/** The boundary cases that the sentences of promises 1 to 11 name. */
public final class FrameVerifierPromiseEdges extends Checks {
    private static final int[] BEYOND_ABOUT = {LEAST, -2, -1, 8, 9, 100, MOST};

    public static void main(String[] args) {
        watch();
        test("An object is used for at most 512 calls", FrameVerifierPromiseEdges::manyCalls);
        test("1: No instructions", FrameVerifierPromiseEdges::noInstructions);
        test("1: no routines", FrameVerifierPromiseEdges::noRoutines);
        test("1: nothing runs", FrameVerifierPromiseEdges::nothingRuns);
        test("1: each object is its own", FrameVerifierPromiseEdges::objectsApart);
        test("2: One more instruction: its address", FrameVerifierPromiseEdges::itsAddress);
        test("2: Throws IllegalStateException when there are 100", FrameVerifierPromiseEdges::whenThereAreHundred);
        test("2: Any op and n are taken", FrameVerifierPromiseEdges::anyOpAndNumber);
        test("3: Routine r gets start, parameters 0 .. 3, and kinds", FrameVerifierPromiseEdges::toldAnew);
        test("3: bit k is set if parameter k is a REFERENCE", FrameVerifierPromiseEdges::bits);
        test("3: bit 3 if the result is", FrameVerifierPromiseEdges::bitThree);
        test("3: false, when one is not so", FrameVerifierPromiseEdges::refusedRoutine);
        test("3: false, and nothing is done", FrameVerifierPromiseEdges::refusedDoesNothing);
        test("3: start may be any number", FrameVerifierPromiseEdges::anyStart);
        test("3: kinds 0 .. 15", FrameVerifierPromiseEdges::sixteenKinds);
        test("4: 0 if the code is verified then", FrameVerifierPromiseEdges::verifyZero);
        test("4: the least routine that is there and isn't right", FrameVerifierPromiseEdges::leastRoutine);
        test("4: or 0 when that isn't there", FrameVerifierPromiseEdges::routineZeroNotThere);
        test("4: the least address that has a state there that it doesn't fit",
                FrameVerifierPromiseEdges::leastAddress);
        test("4: 999 when the start is no instruction", FrameVerifierPromiseEdges::startIsNoInstruction);
        test("5: Whether the code is verified", FrameVerifierPromiseEdges::whetherVerified);
        test("6: slot 0 .. 5 the locals, 6 .. 11 the stack", FrameVerifierPromiseEdges::slots);
        test("6: as instructions and routines are now", FrameVerifierPromiseEdges::asTheyAreNow);
        test("6: whether verified or not", FrameVerifierPromiseEdges::typeUnverified);
        test("6: NONE (-1) when there is no such routine", FrameVerifierPromiseEdges::noSuchRoutine);
        test("6: NONE (-1) when there is no such address", FrameVerifierPromiseEdges::noSuchAddress);
        test("6: NONE (-1) when there is no such slot", FrameVerifierPromiseEdges::noSuchSlot);
        test("6: NONE (-1) when it has no state", FrameVerifierPromiseEdges::noState);
        test("6: NONE (-1) when nothing is there", FrameVerifierPromiseEdges::nothingThere);
        test("6: -2 when it is torn", FrameVerifierPromiseEdges::torn);
        test("7: Begins a run", FrameVerifierPromiseEdges::beginsRun);
        test("7: in place of one that runs", FrameVerifierPromiseEdges::inPlace);
        test("7: as many as there are", FrameVerifierPromiseEdges::asManyParameters);
        test("7: a REFERENCE is to none", FrameVerifierPromiseEdges::referenceToNone);
        test("7: False when routine 0 isn't there", FrameVerifierPromiseEdges::startRefused);
        test("8: 1 when the run goes on, 0 when it ended by that", FrameVerifierPromiseEdges::stepAnswers);
        test("8: 0 when none runs", FrameVerifierPromiseEdges::stepWhenNoneRuns);
        test("8: what it throws", FrameVerifierPromiseEdges::stepThrows);
        test("9: Up to n steps (1 .. 200)", FrameVerifierPromiseEdges::upToSteps);
        test("9: until the run ends: how many were done", FrameVerifierPromiseEdges::untilTheEnd);
        test("9: Throws IllegalArgumentException when n is not so", FrameVerifierPromiseEdges::stepsRefused);
        test("9: what a step throws", FrameVerifierPromiseEdges::stepsThrow);
        test("10: 0 whether a run goes on", FrameVerifierPromiseEdges::aboutRun);
        test("10: 1 the address of the next instruction", FrameVerifierPromiseEdges::aboutAddress);
        test("10: 2 how many frames there are", FrameVerifierPromiseEdges::aboutFrames);
        test("10: 3 the height of the top frame's stack", FrameVerifierPromiseEdges::aboutHeight);
        test("10: 4 the value on top of it", FrameVerifierPromiseEdges::aboutTop);
        test("10: 5 the result of the run that ended last by RETURN", FrameVerifierPromiseEdges::aboutResult);
        test("10: 6 elements of all arrays since the start", FrameVerifierPromiseEdges::aboutElements);
        test("10: 7 instructions", FrameVerifierPromiseEdges::aboutInstructions);
        test("10: -1 for 1 to 4 when no run goes on", FrameVerifierPromiseEdges::aboutNoRun);
        test("10: -1 for other numbers", FrameVerifierPromiseEdges::aboutOthers);
        test("10: 5 and 6 are 0 at first", FrameVerifierPromiseEdges::aboutAtFirst);
        test("11: A local of the top frame, likewise", FrameVerifierPromiseEdges::localOfTop);
        test("11: -1 when it is empty", FrameVerifierPromiseEdges::localEmpty);
        test("11: -1 when there is none such", FrameVerifierPromiseEdges::localNotThere);
        test("11: -1 when no run goes on", FrameVerifierPromiseEdges::localNoRun);
        end();
    }

    /** The program doesn't count them, but up to the 512th each has its answer. */
    private static void manyCalls() {
        FrameVerifier x = coded(LOAD, 0, PUSH, 1, ADD, 0, STORE, 0, JUMP, 0);
        x.routine(0, 0, 1, 0);
        x.start(-5, 0, 0);
        for (int i = 0; i < 504; i++) {
            due("steps", () -> x.steps(200), 200);
        }
        due("the 512th call", () -> x.local(0), 504 * 40 - 5);
    }

    private static void noInstructions() {
        FrameVerifier x = new FrameVerifier();
        due("how many", () -> x.about(7), 0);
        x.routine(0, 0, 0, 0);
        due("address 0 is not there", x::verify, 1999);
        dueAll(x, 0, 0, NOTHING);
        due("the first address", () -> x.add(JUMP, 0), 0);
    }

    private static void noRoutines() {
        for (int r = 0; r <= 3; r++) {
            FrameVerifier x = coded(CALL, r, RETURN, 0);
            dueAll(x, r, 0, NOTHING);
            due("verify", x::verify, 1999);
            due("start", () -> x.start(0, 0, 0), false);
        }
        due("isVerified", new FrameVerifier()::isVerified, false);
    }

    private static void nothingRuns() {
        FrameVerifier x = new FrameVerifier();
        dueAbout(x, 0, -1, -1, -1, -1, 0, 0, 0);
        dueLocals(x);
        due("step", x::step, 0);
        due("steps", () -> x.steps(1), 0);
        due("steps", () -> x.steps(200), 0);
    }

    private static void objectsApart() {
        FrameVerifier x = plain(PUSH, 9, NEW, 0, LENGTH, 0, RETURN, 0);
        x.verify();
        x.start(0, 0, 0);
        x.steps(3);
        FrameVerifier y = new FrameVerifier();
        dueAbout(y, 0, -1, -1, -1, -1, 0, 0, 0);
        due("verified", y::isVerified, false);
        due("routines", () -> y.start(0, 0, 0), false);
        dueAbout(x, 1, 3, 1, 1, 9, 0, 9, 4);
        due("verified", x::isVerified, true);
    }

    private static void itsAddress() {
        FrameVerifier x = new FrameVerifier();
        due("first", () -> x.add(PUSH, 5), 0);
        due("second", () -> x.add(JUMP, 2), 1);
        due("third", () -> x.add(RETURN, 0), 2);
        x.routine(0, 0, 0, 0);
        x.start(0, 0, 0);
        due("each does its own", () -> x.steps(9), 3);
        due("with its own number", () -> x.about(5), 5);
        due("in a run too", () -> x.start(0, 0, 0) ? x.add(PUSH, 1) : -1, 3);
    }

    private static void whenThereAreHundred() {
        FrameVerifier x = new FrameVerifier();
        repeat(x, 98, PUSH, 0);
        due("the 99th", () -> x.add(PUSH, 77), 98);
        due("the 100th", () -> x.add(RETURN, 0), 99);
        x.routine(0, 98, 0, 0);
        due("verify", x::verify, 0);
        x.start(0, 0, 0);
        for (int i = 0; i < 3; i++) {
            due("the 101st", () -> x.add(BAD, 0), FULL);
            due("verified as before", x::isVerified, true);
            dueAbout(x, 1, 98, 1, 0, -1, 0, 0, 100);
        }
        due("the run goes on", () -> x.steps(9), 2);
        due("nothing was written over", () -> x.about(5), 77);
    }

    private static void anyOpAndNumber() {
        int[] odd = {LEAST, -1, 0, 19, 20, 21, 100, MOST};
        FrameVerifier x = new FrameVerifier();
        for (int i = 0; i < odd.length; i++) {
            for (int j = 0; j < odd.length; j++) {
                int op = odd[i];
                int n = odd[j];
                due("add(" + op + ", " + n + ")", () -> x.add(op, n), odd.length * i + j);
            }
        }
        due("all of them", () -> x.about(7), 64);
    }

    private static void toldAnew() {
        FrameVerifier x = coded(PUSH, 1, RETURN, 0, NONE, 0, RETURN, 0);
        for (int r = 0; r <= 3; r++) {
            int who = r;
            due("told", () -> x.routine(who, 0, 0, 0), true);
            dueTypes(x, r, 0);
            due("told anew", () -> x.routine(who, 2, 3, 13), true);
            dueTypes(x, r, 2, REFERENCE, INT, REFERENCE);
            dueAll(x, r, 0, NOTHING);
        }
        due("all as told last", x::verify, 0);
        due("fewer parameters", () -> x.routine(0, 2, 1, 8), true);
        dueTypes(x, 0, 2, INT);
        dueTypes(x, 1, 2, REFERENCE, INT, REFERENCE);
    }

    private static void bits() {
        for (int k = 0; k < 3; k++) {
            FrameVerifier x = coded(PUSH, 1, RETURN, 0);
            x.routine(0, 0, 3, 1 << k);
            for (int slot = 0; slot < 6; slot++) {
                int asks = slot;
                int want = slot > 2 ? EMPTY : slot == k ? REFERENCE : INT;
                due("bit " + k + ", local " + slot, () -> x.type(0, 0, asks), want);
            }
            x.start(5, 6, 7);
            for (int i = 0; i < 3; i++) {
                int asks = i;
                due("bit " + k + ", value " + i, () -> x.local(asks), i == k ? 0 : 5 + i);
            }
        }
    }

    private static void bitThree() {
        FrameVerifier x = coded(LOAD, 0, RETURN, 0);
        x.routine(0, 0, 1, 0);
        due("an int, an int due", x::verify, 0);
        x.routine(0, 0, 1, 8);
        due("an int, a reference due", x::verify, 1001);
        x.routine(0, 0, 1, 1);
        due("a reference, an int due", x::verify, 1001);
        x.routine(0, 0, 1, 9);
        due("a reference, a reference due", x::verify, 0);
    }

    private static void refusedRoutine() {
        FrameVerifier x = coded(PUSH, 1, RETURN, 0);
        for (int r : new int[] {LEAST, -1, 0, 3, 4, MOST}) {
            due("routine " + r, () -> x.routine(r, 0, 0, 0), r == 0 || r == 3);
        }
        for (int parameters : new int[] {LEAST, -1, 0, 3, 4, MOST}) {
            due("parameters " + parameters, () -> x.routine(1, 0, parameters, 0),
                    parameters == 0 || parameters == 3);
        }
        for (int kinds : new int[] {LEAST, -1, 0, 15, 16, 31, MOST}) {
            due("kinds " + kinds, () -> x.routine(1, 0, 0, kinds), kinds == 0 || kinds == 15);
        }
        due("all of them wrong", () -> x.routine(-1, 0, -1, -1), false);
    }

    private static void refusedDoesNothing() {
        int[][] refused = {{0, 2, -1, 8}, {0, 2, 4, 8}, {0, 2, 2, -1}, {0, 2, 2, 16}, {-1, 2, 2, 8},
            {4, 2, 2, 8}, {1, 2, 4, 8}, {1, 2, 0, 16}, {0, 2, LEAST, 8}, {0, 2, 2, MOST}};
        for (int[] of : refused) {
            FrameVerifier x = coded(PUSH, 1, RETURN, 0, NONE, 0, RETURN, 0);
            x.routine(0, 0, 1, 0);
            due("verify", x::verify, 0);
            x.start(3, 4, 5);
            x.step();
            due("routine" + Arrays.toString(of), () -> x.routine(of[0], of[1], of[2], of[3]), false);
            due("verified as before", x::isVerified, true);
            dueTypes(x, 0, 0, INT);
            dueAll(x, 0, 2, NOTHING);
            dueAll(x, 1, 2, NOTHING);
            dueAbout(x, 1, 1, 1, 1, 1);
            due("right as before", x::verify, 0);
            due("the run goes on as before", x::step, 0);
            x.start(6, 7, 8);
            due("a new run begins as before", () -> x.about(1), 0);
            dueLocals(x, 6);
            x.add(BAD, 0);
            dueTypes(x, 0, 0, INT);
            due("right as before", x::verify, 0);
        }
    }

    private static void anyStart() {
        for (int start : new int[] {LEAST, -1000, -1, 0, 1, 2, 99, 100, 101, 1000, MOST}) {
            FrameVerifier x = coded(PUSH, 1, RETURN, 0);
            due("start " + start, () -> x.routine(0, start, 0, 0), true);
            due("verify", x::verify, start == 0 ? 0 : start == 1 ? 1001 : 1999);
        }
        FrameVerifier later = new FrameVerifier();
        due("told before it is there", () -> later.routine(0, 1, 0, 0), true);
        append(later, BAD, 0, PUSH, 1, RETURN, 0);
        due("there now", later::verify, 0);
    }

    private static void sixteenKinds() {
        FrameVerifier x = coded(PUSH, 1, RETURN, 0, NONE, 0, RETURN, 0);
        for (int kinds = 0; kinds <= 15; kinds++) {
            int bits = kinds;
            due("kinds " + kinds, () -> x.routine(0, bits < 8 ? 0 : 2, 3, bits), true);
            due("verify", x::verify, 0);
            for (int k = 0; k < 3; k++) {
                int asks = k;
                due("parameter " + k, () -> x.type(0, bits < 8 ? 0 : 2, asks),
                        (bits >> k & 1) == 1 ? REFERENCE : INT);
            }
        }
    }

    private static void verifyZero() {
        FrameVerifier x = plain(PUSH, 1, RETURN, 0);
        dueVerify("right", 0, x);
        dueVerify("once more", 0, x);
        x.routine(0, 1, 0, 0);
        dueVerify("not right", 1001, x);
        dueVerify("once more", 1001, x);
        x.routine(0, 0, 0, 0);
        dueVerify("right again", 0, x);
    }

    private static void leastRoutine() {
        for (int mask = 1; mask < 16; mask++) {
            FrameVerifier x = coded(PUSH, 1, RETURN, 0, DROP, 0, BAD, 0);
            for (int r = 0; r <= 3; r++) {
                x.routine(r, (mask >> r & 1) == 1 ? 2 : 0, 0, 0);
            }
            int least = Integer.numberOfTrailingZeros(mask);
            due("wrong ones " + mask, x::verify, 1000 * (1 + least) + 2);
        }
        FrameVerifier gap = coded(PUSH, 1, RETURN, 0, DROP, 0);
        gap.routine(0, 0, 0, 0);
        gap.routine(3, 2, 0, 0);
        due("past those that are not there", gap::verify, 4002);
        FrameVerifier far = coded(PUSH, 1, RETURN, 0);
        repeat(far, 97, BAD, 0);
        append(far, DROP, 0);
        far.routine(0, 0, 0, 0);
        far.routine(3, 99, 0, 0);
        due("the greatest that it can answer for an address", far::verify, 4099);
    }

    private static void routineZeroNotThere() {
        FrameVerifier x = coded(PUSH, 1, RETURN, 0);
        due("none is there", x::verify, 1999);
        x.routine(1, 0, 0, 0);
        due("another that is right", x::verify, 1999);
        due("isVerified", x::isVerified, false);
        x.routine(2, 1, 0, 0);
        due("another that is not right", x::verify, 1999);
        due("no instruction either", new FrameVerifier()::verify, 1999);
    }

    private static void leastAddress() {
        dueVerify("address 0", 1000, DROP, 0, BAD, 0);
        dueVerify("the least of two", 1002, PUSH, 0, ZERO, 4, BAD, 0, BAD, 0, BAD, 0);
        dueVerify("not the one found first", 1001, JUMP, 3, BAD, 0, BAD, 0, PUSH, 0, ZERO, 1, BAD, 0);
        dueVerify("one without a state is less", 1002, JUMP, 2, BAD, 0, BAD, 0);
        FrameVerifier x = new FrameVerifier();
        append(x, JUMP, 99);
        repeat(x, 98, BAD, 0);
        append(x, DROP, 0);
        x.routine(0, 0, 0, 0);
        dueVerify("address 99", 1099, x);
        FrameVerifier there = coded(PUSH, 0, RETURN, 0, DROP, 0, NONE, 0, RETURN, 0);
        there.routine(0, 0, 0, 0);
        there.routine(1, 3, 0, 0);
        due("unfit for that routine alone", there::verify, 2004);
    }

    private static void startIsNoInstruction() {
        for (int r = 0; r <= 3; r++) {
            for (int start : new int[] {LEAST, -1, 2, 99, 100, MOST}) {
                FrameVerifier x = plain(PUSH, 1, RETURN, 0);
                x.routine(r, start, 0, 0);
                dueVerify("routine " + r + " at " + start, 1000 * (1 + r) + 999, x);
            }
        }
    }

    private static void whetherVerified() {
        FrameVerifier x = new FrameVerifier();
        due("new", x::isVerified, false);
        append(x, PUSH, 1, RETURN, 0);
        x.routine(0, 0, 0, 0);
        due("right, but not verified", x::isVerified, false);
        x.start(0, 0, 0);
        x.type(0, 0, 0);
        due("neither by start nor by type", x::isVerified, false);
        x.verify();
        due("verified", x::isVerified, true);
        x.start(0, 0, 0);
        x.steps(9);
        x.step();
        x.about(0);
        x.local(0);
        x.type(0, 0, 0);
        due("nothing of that changes it", x::isVerified, true);
        due("steps refused", () -> x.steps(0), REFUSED);
        due("nor that", x::isVerified, true);
        x.routine(0, 1, 0, 0);
        due("a routine does", x::isVerified, false);
        x.verify();
        due("not right", x::isVerified, false);
    }

    private static void slots() {
        FrameVerifier x = new FrameVerifier();
        for (int i = 0; i < 6; i++) {
            append(x, i % 2 == 0 ? PUSH : NONE, 0, STORE, i);
        }
        for (int i = 0; i < 6; i++) {
            append(x, i % 3 == 0 ? NONE : PUSH, 0);
        }
        append(x, BAD, 0);
        x.routine(0, 0, 0, 0);
        dueTypes(x, 0, 18, 1, 2, 1, 2, 1, 2, 2, 1, 1, 2, 1, 1);
        dueTypes(x, 0, 13, 1, 2, 1, 2, 1, 2, 2);
        dueTypes(x, 0, 6, 1, 2, 1);
    }

    private static void asTheyAreNow() {
        FrameVerifier x = plain(PUSH, 1);
        dueTypes(x, 0, 0);
        dueAll(x, 0, 1, NOTHING);
        x.add(NONE, 0);
        dueTypes(x, 0, 1, 0, 0, 0, 0, 0, 0, INT);
        x.add(CALL, 1);
        dueTypes(x, 0, 2, 0, 0, 0, 0, 0, 0, INT, REFERENCE);
        x.add(BAD, 0);
        dueAll(x, 0, 3, NOTHING);
        x.routine(1, 0, 1, 1);
        dueTypes(x, 0, 3, 0, 0, 0, 0, 0, 0, INT, INT);
        x.routine(1, 0, 2, 10);
        dueTypes(x, 0, 3, 0, 0, 0, 0, 0, 0, REFERENCE);
        x.routine(0, 1, 1, 1);
        dueAll(x, 0, 0, NOTHING);
        dueTypes(x, 0, 1, REFERENCE);
    }

    private static void typeUnverified() {
        FrameVerifier x = plain(PUSH, 1, NONE, 0, ADD, 0, RETURN, 0);
        dueTypes(x, 0, 2, 0, 0, 0, 0, 0, 0, INT, REFERENCE);
        dueVerify("not right", 1002, x);
        dueTypes(x, 0, 2, 0, 0, 0, 0, 0, 0, INT, REFERENCE);
        dueAll(x, 0, 3, NOTHING);
        FrameVerifier right = plain(PUSH, 1, RETURN, 0);
        dueVerify("right", 0, right);
        dueTypes(right, 0, 1, 0, 0, 0, 0, 0, 0, INT);
        FrameVerifier other = coded(PUSH, 1, RETURN, 0);
        other.routine(3, 0, 0, 0);
        dueTypes(other, 3, 1, 0, 0, 0, 0, 0, 0, INT);
    }

    private static void noSuchRoutine() {
        FrameVerifier x = plain(PUSH, 1, RETURN, 0);
        for (int r : new int[] {LEAST, -1, 1, 2, 3, 4, 5, MOST}) {
            due("routine " + r, () -> x.type(r, 0, 0), NOTHING);
        }
        due("routine 0", () -> x.type(0, 0, 0), EMPTY);
        x.routine(3, 0, 0, 0);
        due("routine 3", () -> x.type(3, 0, 0), EMPTY);
    }

    private static void noSuchAddress() {
        FrameVerifier x = plain(JUMP, 1, JUMP, 0);
        for (int address : new int[] {LEAST, -1, 0, 1, 2, 99, 100, 101, MOST}) {
            due("address " + address, () -> x.type(0, address, 5),
                    address == 0 || address == 1 ? EMPTY : NOTHING);
        }
        FrameVerifier full = new FrameVerifier();
        repeat(full, 100, JUMP, 99);
        full.routine(0, 0, 0, 0);
        due("address 99", () -> full.type(0, 99, 0), EMPTY);
        due("address 100", () -> full.type(0, 100, 0), NOTHING);
        full.routine(0, 100, 0, 0);
        due("a start that is no instruction", () -> full.type(0, 100, 0), NOTHING);
        full.routine(0, -1, 0, 0);
        due("nor that one", () -> full.type(0, -1, 0), NOTHING);
    }

    private static void noSuchSlot() {
        FrameVerifier x = new FrameVerifier();
        repeat(x, 6, NONE, 0);
        append(x, BAD, 0);
        x.routine(0, 0, 0, 0);
        for (int slot : new int[] {LEAST, -7, -1, 12, 13, 64, MOST}) {
            due("slot " + slot, () -> x.type(0, 6, slot), NOTHING);
        }
        due("slot 0", () -> x.type(0, 6, 0), EMPTY);
        due("slot 11", () -> x.type(0, 6, 11), REFERENCE);
        FrameVerifier torn = plain(PUSH, 1, JUMP, 0);
        for (int slot : new int[] {LEAST, -1, 12, MOST}) {
            due("of a torn state, slot " + slot, () -> torn.type(0, 0, slot), NOTHING);
        }
    }

    private static void noState() {
        FrameVerifier x = plain(JUMP, 2, PUSH, 1, ADD, 0, RETURN, 0);
        dueAll(x, 0, 1, NOTHING);
        dueAll(x, 0, 3, NOTHING);
        dueTypes(x, 0, 2);
    }

    private static void nothingThere() {
        FrameVerifier x = plain(PUSH, 1, PUSH, 1, DROP, 0, DROP, 0, JUMP, 4);
        int[] heights = {0, 1, 2, 1, 0};
        for (int address = 0; address < heights.length; address++) {
            for (int slot = 6; slot < 12; slot++) {
                int at = address;
                int asks = slot;
                due("slot " + slot + " at " + address, () -> x.type(0, at, asks),
                        slot < 6 + heights[at] ? INT : NOTHING);
            }
        }
        due("an empty local is EMPTY", () -> x.type(0, 0, 5), EMPTY);
    }

    private static void torn() {
        FrameVerifier x = coded(PUSH, 1, JUMP, 0);
        x.routine(0, 0, 2, 0);
        x.routine(1, 1, 2, 0);
        dueAll(x, 0, 0, TORN);
        dueTypes(x, 0, 1, INT, INT, 0, 0, 0, 0, INT);
        dueAll(x, 1, 1, TORN);
        x.routine(1, 0, 0, 0);
        dueAll(x, 1, 0, TORN);
    }

    private static void beginsRun() {
        FrameVerifier x = coded(PUSH, 1, RETURN, 0);
        x.routine(0, 1, 0, 0);
        due("also what is not right", () -> x.start(0, 0, 0), true);
        dueAbout(x, 1, 1, 1, 0, -1, 0, 0, 2);
        x.routine(0, 2, 0, 0);
        due("also where no instruction is", () -> x.start(0, 0, 0), true);
        dueAbout(x, 1, 2, 1, 0, -1, 0, 0, 2);
        x.routine(0, 0, 0, 0);
        due("after it was told anew", () -> x.start(0, 0, 0), true);
        dueAbout(x, 1, 0, 1, 0, -1, 0, 0, 2);
        x.steps(9);
        due("after a run", () -> x.start(0, 0, 0), true);
        dueAbout(x, 1, 0, 1, 0, -1, 1, 0, 2);
    }

    private static void inPlace() {
        FrameVerifier x = coded(PUSH, 4, NEW, 0, STORE, 4, PUSH, 8, LOAD, 0, CALL, 1, RETURN, 0,
                PUSH, 5, STORE, 5, LOAD, 0, RETURN, 0);
        x.routine(0, 0, 1, 0);
        x.routine(1, 7, 1, 0);
        x.start(2, 0, 0);
        x.steps(8);
        dueAbout(x, 1, 9, 2, 0, -1, 0, 4, 11);
        due("start", () -> x.start(3, 0, 0), true);
        dueAbout(x, 1, 0, 1, 0, -1, 0, 0, 11);
        dueLocals(x, 3);
        due("the new run is whole", () -> x.steps(200), 11);
        due("and has its own result", () -> x.about(5), 3);
    }

    private static void asManyParameters() {
        for (int parameters = 0; parameters <= 3; parameters++) {
            FrameVerifier x = coded(PUSH, 1, RETURN, 0);
            x.routine(0, 0, parameters, 0);
            x.start(LEAST, -1, MOST);
            int[] all = {LEAST, -1, MOST};
            dueLocals(x, Arrays.copyOf(all, parameters));
            FrameVerifier y = coded(LOAD, parameters, RETURN, 0);
            y.routine(0, 0, parameters, 0);
            y.start(7, 7, 7);
            dueTrap(y, 0, UNFIT);
        }
    }

    private static void referenceToNone() {
        for (int kinds = 0; kinds < 8; kinds++) {
            FrameVerifier x = coded(PUSH, 1, RETURN, 0);
            x.routine(0, 0, 3, kinds);
            x.start(-5, 1, MOST);
            int[] ints = {-5, 1, MOST};
            for (int k = 0; k < 3; k++) {
                int asks = k;
                due("parameter " + k + ", kinds " + kinds, () -> x.local(asks),
                        (kinds >> k & 1) == 1 ? 0 : ints[k]);
            }
            x.start(0, 0, 0);
            dueLocals(x, 0, 0, 0);
        }
        FrameVerifier missing = coded(LOAD, 0, MISSING, 4, PUSH, 1, RETURN, 0, PUSH, 2, RETURN, 0);
        missing.routine(0, 0, 1, 1);
        missing.start(1, 1, 1);
        due("steps", () -> missing.steps(9), 4);
        due("it is to none", () -> missing.about(5), 2);
    }

    private static void startRefused() {
        FrameVerifier x = coded(PUSH, 1, RETURN, 0);
        for (int r = 1; r <= 4; r++) {
            due("start", () -> x.start(1, 2, 3), false);
            dueAbout(x, 0, -1, -1, -1, -1, 0, 0, 2);
            due("nothing to step", x::step, 0);
            x.routine(r, 0, 0, 0);
        }
        x.routine(0, 0, 0, 0);
        due("start", () -> x.start(1, 2, 3), true);
    }

    private static void stepAnswers() {
        FrameVerifier x = started(PUSH, 1, TWICE, 0, JUMP, 3, RETURN, 0);
        for (int i = 0; i < 3; i++) {
            due("goes on", x::step, 1);
            due("it does", () -> x.about(0), 1);
        }
        due("ends", x::step, 0);
        due("it did", () -> x.about(0), 0);
        FrameVerifier shortest = coded(LOAD, 0, RETURN, 0);
        shortest.routine(0, 0, 1, 0);
        shortest.start(6, 0, 0);
        due("goes on", shortest::step, 1);
        due("ends", shortest::step, 0);
    }

    private static void stepWhenNoneRuns() {
        FrameVerifier x = new FrameVerifier();
        due("new", x::step, 0);
        append(x, PUSH, 1, RETURN, 0);
        x.routine(0, 0, 0, 0);
        due("before a start", x::step, 0);
        x.start(0, 0, 0);
        x.steps(2);
        due("after the end", x::step, 0);
        due("the result stays", () -> x.about(5), 1);
        x.routine(0, 1, 0, 0);
        x.start(0, 0, 0);
        due("the trap", x::step, UNFIT);
        due("after the trap", x::step, 0);
    }

    private static void stepThrows() {
        dueTrap(started(BAD, 0), 0, UNFIT);
        dueTrap(started(PUSH, 0, TWICE, 0, DIVIDE, 0, RETURN, 0), 2, DIVISION);
        dueTrap(started(NONE, 0, LENGTH, 0, RETURN, 0), 1, MISSES);
        dueTrap(started(PUSH, 0, NEW, 0, PUSH, 0, GET, 0, RETURN, 0), 3, OUTSIDE);
        dueTrap(started(PUSH, 13, NEW, 0, LENGTH, 0, RETURN, 0), 1, FULL);
        dueTrap(started(CALL, 0, RETURN, 0), 7, FULL);
    }

    private static void upToSteps() {
        FrameVerifier x = started(PUSH, 1, DROP, 0, JUMP, 0);
        int before = 0;
        for (int n : new int[] {1, 2, 3, 100, 199, 200}) {
            due("steps(" + n + ")", () -> x.steps(n), n);
            before += n;
            int address = before % 3;
            due("so many were done", () -> x.about(1), address);
            due("the run goes on", () -> x.about(0), 1);
        }
    }

    /** A run of 199 + more steps: four calls of forty steps, and the rest. */
    private static FrameVerifier longRun(int more) {
        FrameVerifier x = new FrameVerifier();
        repeat(x, 4, CALL, 1, DROP, 0);
        for (int i = 0; i < 29 + more; i++) {
            append(x, JUMP, x.about(7) + 1);
        }
        append(x, PUSH, 3, RETURN, 0);
        int inner = x.about(7);
        repeat(x, 19, PUSH, 1, DROP, 0);
        append(x, PUSH, 1, RETURN, 0);
        x.routine(0, 0, 0, 0);
        x.routine(1, inner, 0, 0);
        x.start(0, 0, 0);
        return x;
    }

    private static void untilTheEnd() {
        for (int more = 0; more <= 2; more++) {
            FrameVerifier x = longRun(more);
            int length = 199 + more;
            due("verify", x::verify, 0);
            due("a run of " + length, () -> x.steps(200), Math.min(length, 200));
            due("goes on", () -> x.about(0), length > 200 ? 1 : 0);
            due("the rest", () -> x.steps(200), Math.max(length - 200, 0));
            due("the result", () -> x.about(5), 3);
            due("none", () -> x.steps(1), 0);
        }
        FrameVerifier x = started(PUSH, 1, DROP, 0, PUSH, 4, RETURN, 0);
        due("one less than the run has", () -> x.steps(3), 3);
        due("goes on", () -> x.about(0), 1);
        due("the last", () -> x.steps(1), 1);
        due("goes on no more", () -> x.about(0), 0);
        x.start(0, 0, 0);
        due("just as many as the run has", () -> x.steps(4), 4);
        due("goes on no more", () -> x.about(0), 0);
    }

    private static void stepsRefused() {
        FrameVerifier x = started(PUSH, 1, DROP, 0, JUMP, 0);
        FrameVerifier trapped = started(BAD, 0);
        FrameVerifier still = new FrameVerifier();
        for (int n : new int[] {LEAST, -200, -1, 0, 201, 202, 400, MOST}) {
            due("steps(" + n + ")", () -> x.steps(n), REFUSED);
            dueAbout(x, 1, 0, 1, 0, -1);
            due("when none runs", () -> still.steps(n), REFUSED);
            due("before a trap", () -> trapped.steps(n), REFUSED);
            due("the run goes on", () -> trapped.about(0), 1);
        }
        due("and then it traps", () -> trapped.steps(1), UNFIT);
    }

    private static void stepsThrow() {
        String[] names = {UNFIT, DIVISION, MISSES, OUTSIDE, FULL, FULL};
        int[][] ends = {{BAD, 0}, {PUSH, 0, TWICE, 0, DIVIDE, 0}, {NONE, 0, LENGTH, 0},
            {NONE, 0, PUSH, 0, NEW, 0, PUSH, 0, GET, 0}, {PUSH, -1, NEW, 0}, {CALL, 0}};
        for (int i = 0; i < names.length; i++) {
            FrameVerifier x = coded(PUSH, 3, NEW, 0, DROP, 0);
            append(x, ends[i]);
            append(x, PUSH, 0, RETURN, 0);
            x.routine(0, 0, 0, 0);
            if (ends[i][0] == CALL) {
                x.routine(0, 3, 0, 0);
            }
            x.start(0, 0, 0);
            int at = i;
            due("steps", () -> x.steps(200), names[at]);
            due("what was done before stays done", () -> x.about(6), ends[i][0] == CALL ? 0 : 3);
            due("the run ended", () -> x.about(0), 0);
            due("no step more", () -> x.steps(200), 0);
        }
        FrameVerifier x = started(PUSH, 1, PUSH, 0, DIVIDE, 0, RETURN, 0);
        due("up to the trap", () -> x.steps(2), 2);
        due("goes on", () -> x.about(0), 1);
        due("the trap", () -> x.steps(1), DIVISION);
    }

    private static void aboutRun() {
        FrameVerifier x = plain(PUSH, 1, RETURN, 0);
        due("before", () -> x.about(0), 0);
        x.start(0, 0, 0);
        due("begun", () -> x.about(0), 1);
        x.step();
        due("in it", () -> x.about(0), 1);
        x.step();
        due("ended", () -> x.about(0), 0);
        x.start(0, 0, 0);
        due("begun again", () -> x.about(0), 1);
        x.routine(0, 1, 0, 0);
        due("told in it", () -> x.about(0), 1);
        x.start(0, 0, 0);
        due("the trap", x::step, UNFIT);
        due("trapped", () -> x.about(0), 0);
    }

    private static void aboutAddress() {
        FrameVerifier x = coded(JUMP, 99);
        repeat(x, 98, BAD, 0);
        append(x, JUMP, 0);
        x.routine(0, 99, 0, 0);
        x.start(0, 0, 0);
        due("the greatest", () -> x.about(1), 99);
        x.step();
        due("the least", () -> x.about(1), 0);
        FrameVerifier y = coded(PUSH, 0, ZERO, 4, BAD, 0, BAD, 0, CALL, 1, RETURN, 0);
        y.routine(0, 0, 0, 0);
        y.routine(1, 0, 0, 0);
        y.start(0, 0, 0);
        int[] addresses = {0, 1, 4, 0, 1, 4, 0};
        for (int address : addresses) {
            due("address", () -> y.about(1), address);
            y.step();
        }
    }

    private static void aboutFrames() {
        FrameVerifier x = coded(LOAD, 0, ZERO, 7, LOAD, 0, PUSH, 1, SUBTRACT, 0, CALL, 0, RETURN, 0,
                PUSH, 5, RETURN, 0);
        x.routine(0, 0, 1, 0);
        x.start(7, 0, 0);
        for (int frames = 1; frames <= 8; frames++) {
            int want = frames;
            due("down", () -> x.about(2), want);
            x.steps(frames < 8 ? 6 : 3);
        }
        for (int frames = 8; frames >= 1; frames--) {
            int want = frames;
            due("up", () -> x.about(2), want);
            x.step();
        }
        due("none", () -> x.about(2), NOTHING);
    }

    private static void aboutHeight() {
        FrameVerifier x = new FrameVerifier();
        repeat(x, 6, PUSH, 0);
        repeat(x, 6, DROP, 0);
        append(x, PUSH, 0, RETURN, 0);
        x.routine(0, 0, 0, 0);
        x.start(0, 0, 0);
        for (int i = 0; i < 12; i++) {
            int want = i <= 6 ? i : 12 - i;
            due("height", () -> x.about(3), want);
            x.step();
        }
        due("height", () -> x.about(3), 0);
    }

    private static void aboutTop() {
        FrameVerifier x = started(PUSH, LEAST, PUSH, -1, NONE, 0, PUSH, 0, NEW, 0, PUSH, MOST, DROP, 0, DROP, 0,
                DROP, 0, DROP, 0, DROP, 0, PUSH, 0, RETURN, 0);
        int[] tops = {-1, LEAST, -1, 0, 0, 1, MOST, 1, 0, -1, LEAST, -1, 0};
        for (int top : tops) {
            due("top", () -> x.about(4), top);
            x.step();
        }
    }

    private static void aboutResult() {
        FrameVerifier x = coded(LOAD, 0, RETURN, 0, PUSH, 0, NEW, 0, RETURN, 0, NONE, 0, RETURN, 0);
        x.routine(0, 0, 1, 0);
        for (int value : new int[] {LEAST, -1, 0, 1, MOST}) {
            x.start(value, 0, 0);
            x.steps(9);
            due("an int", () -> x.about(5), value);
        }
        x.start(3, 0, 0);
        x.step();
        due("one that runs has none", () -> x.about(5), MOST);
        x.start(4, 0, 0);
        due("nor has one that was left", () -> x.about(5), MOST);
        x.routine(0, 2, 0, 8);
        x.start(0, 0, 0);
        x.steps(9);
        due("an array", () -> x.about(5), 1);
        x.routine(0, 5, 0, 8);
        x.start(0, 0, 0);
        x.steps(9);
        due("none", () -> x.about(5), 0);
        x.routine(0, 0, 1, 0);
        x.start(12, 0, 0);
        x.steps(9);
        x.routine(0, 1, 0, 0);
        x.start(0, 0, 0);
        due("a trap", x::step, UNFIT);
        due("ended not by RETURN", () -> x.about(5), 12);
        append(x, LOAD, 0, CALL, 1, PUSH, 1, ADD, 0, RETURN, 0);
        x.routine(0, 7, 1, 0);
        x.routine(1, 0, 1, 0);
        x.start(60, 0, 0);
        x.steps(4);
        due("a RETURN that ends no run", () -> x.about(5), 12);
        x.steps(3);
        due("one that ends it", () -> x.about(5), 61);
    }

    private static void aboutElements() {
        FrameVerifier x = plain(PUSH, 0, NEW, 0, DROP, 0, PUSH, 12, NEW, 0, DROP, 0, PUSH, 1, NEW, 0, DROP, 0,
                PUSH, 0, RETURN, 0);
        x.start(0, 0, 0);
        int[] elements = {0, 0, 0, 0, 0, 12, 12, 12, 13, 13, 13, 13};
        for (int want : elements) {
            due("elements", () -> x.about(6), want);
            x.step();
        }
        due("after the run", () -> x.about(6), 13);
        x.start(0, 0, 0);
        due("a new run", () -> x.about(6), 0);
    }

    private static void aboutInstructions() {
        FrameVerifier x = new FrameVerifier();
        for (int i = 0; i < 100; i++) {
            int want = i;
            due("instructions", () -> x.about(7), want);
            x.add(BAD, i);
        }
        due("instructions", () -> x.about(7), 100);
        due("one too many", () -> x.add(BAD, 0), FULL);
        due("instructions", () -> x.about(7), 100);
    }

    private static void aboutNoRun() {
        FrameVerifier x = new FrameVerifier();
        dueAbout(x, 0, -1, -1, -1, -1);
        append(x, PUSH, 5, PUSH, 6, RETURN, 0);
        x.routine(0, 0, 0, 0);
        dueAbout(x, 0, -1, -1, -1, -1);
        x.start(0, 0, 0);
        dueAbout(x, 1, 0, 1, 0, -1);
        x.steps(2);
        dueAbout(x, 1, 2, 1, 2, 6);
        x.step();
        dueAbout(x, 0, -1, -1, -1, -1);
    }

    private static void aboutOthers() {
        FrameVerifier x = plain(PUSH, 5, RETURN, 0);
        for (int i = 0; i < 3; i++) {
            for (int what : BEYOND_ABOUT) {
                due("about(" + what + ")", () -> x.about(what), NOTHING);
            }
            x.start(0, 0, 0);
            x.steps(i == 0 ? 1 : 2);
        }
    }

    private static void aboutAtFirst() {
        FrameVerifier x = new FrameVerifier();
        due("5", () -> x.about(5), 0);
        due("6", () -> x.about(6), 0);
        append(x, PUSH, 5, RETURN, 0);
        x.routine(0, 0, 0, 0);
        x.start(0, 0, 0);
        x.step();
        due("5 before the first run ended", () -> x.about(5), 0);
        due("6 before the first array", () -> x.about(6), 0);
    }

    private static void localOfTop() {
        FrameVerifier x = coded(PUSH, 3, NEW, 0, STORE, 0, NONE, 0, STORE, 5, PUSH, MOST, PUSH, -1, CALL, 1,
                RETURN, 0, PUSH, LEAST, STORE, 5, PUSH, 0, RETURN, 0);
        x.routine(0, 0, 0, 0);
        x.routine(1, 9, 2, 0);
        x.start(0, 0, 0);
        x.steps(7);
        dueLocals(x, 1, -1, -1, -1, -1, 0);
        x.step();
        dueLocals(x, MOST, -1);
        x.steps(2);
        dueLocals(x, MOST, -1, -1, -1, -1, LEAST);
        x.steps(2);
        dueLocals(x, 1, -1, -1, -1, -1, 0);
    }

    private static void localEmpty() {
        FrameVerifier x = started(PUSH, 8, STORE, 3, PUSH, 0, RETURN, 0);
        dueLocals(x);
        x.step();
        dueLocals(x);
        x.step();
        dueLocals(x, -1, -1, -1, 8);
        x.start(0, 0, 0);
        dueLocals(x);
    }

    private static void localNotThere() {
        FrameVerifier x = new FrameVerifier();
        for (int i = 0; i < 6; i++) {
            append(x, PUSH, 40 + i, STORE, i);
        }
        repeat(x, 6, PUSH, 50);
        append(x, RETURN, 0);
        x.routine(0, 0, 0, 0);
        x.start(0, 0, 0);
        x.steps(18);
        dueLocals(x, 40, 41, 42, 43, 44, 45);
        for (int i : new int[] {LEAST, -1, 6, 7, 11, 12, MOST}) {
            due("local(" + i + ")", () -> x.local(i), NOTHING);
        }
    }

    private static void localNoRun() {
        FrameVerifier x = new FrameVerifier();
        dueLocals(x);
        append(x, PUSH, 8, STORE, 3, PUSH, 0, RETURN, 0);
        x.routine(0, 0, 2, 0);
        dueLocals(x);
        x.start(1, 2, 3);
        dueLocals(x, 1, 2);
        x.steps(3);
        dueLocals(x, 1, 2, -1, 8);
        x.step();
        dueLocals(x);
        x.routine(0, 3, 2, 0);
        x.start(1, 2, 3);
        due("the trap", x::step, UNFIT);
        dueLocals(x);
    }
}
