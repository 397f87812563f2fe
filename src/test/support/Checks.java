import java.util.ArrayList;
import java.util.List;
import java.util.function.Supplier;
import java.util.function.ToLongFunction;

/** What the tests of edges lean on: towns to begin with, twins, and all that can be seen of an object. */
final class Checks {
    static final int NONE = -1, BAD = -2, NO = -3, FULL = -4;
    /** A call that is not refused leaves each number of STATUS. */
    static final int NOT_REFUSED = 0;

    interface CallWith {
        long on(RockName r, int n);
    }

    private int wrong = 0;

    void due(String what, long got, long want) {
        if (got != want) {
            wrong++;
            System.out.println(what + " answered " + got + ", due is " + want);
        }
    }

    /** Ends the test, with code 1 if an answer was not as due. */
    void end(String good) {
        System.out.println(wrong == 0 ? good : wrong + " answers are not as due");
        if (wrong != 0) {
            System.exit(1);
        }
    }

    static void type(RockName r, String text) {
        for (int k = 0; k < text.length(); k++) {
            r.type(text.charAt(k));
        }
    }

    /**
     * Two sticks: 0 is PLAIN 12 of 5 inches with wear 2, 1 is SPIRAL 123 of 8 inches without; one note, two that
     * may be undone, 28 by 5, a text of 17 bytes, image 1 kept, image 0 not; STATUS 1, 1, 0.
     */
    static RockName small() {
        RockName r = new RockName();
        r.stick(0, 12, 5);
        r.stick(3, 123, 9);
        r.image(1);
        r.suck(0, 2);
        r.snap(1, 8);
        r.note(0, 1, 0, 12);
        r.rain(1, 3);
        type(r, "town;stick 0 1 1;");
        r.stick(6, 1, 1);
        r.from(0);
        return r;
    }

    static final int[] FULL_NAMES = {1, 12, 123, 1234, 12341, 44444};
    static final int[] FULL_INCHES = {1, 2, 3, 7, 8, 9};
    static final int[] FULL_WEARS = {1, 2, 3, 4, 5, 9};

    /**
     * Six sticks, each of the kind of its number; six notes, one of each stick; six that may be undone, 27 by 10, a
     * text of 150 bytes, both images kept; STATUS 1, 0, 2.
     */
    static RockName full() {
        RockName r = new RockName();
        for (int k = 0; k < 6; k++) {
            r.stick(k, FULL_NAMES[k], FULL_INCHES[k]);
        }
        r.image(0);
        for (int k = 0; k < 6; k++) {
            r.suck(k, FULL_WEARS[k] == 9 ? 6 : FULL_WEARS[k]);
        }
        r.suck(5, 3);
        r.image(1);
        for (int k = 0; k < 6; k++) {
            r.note(k, k, 9 - k, 11);
        }
        r.rain(5, 7);
        type(r, "town;stick 5 9 4;suck 0 2;" + " ".repeat(124));
        r.stick(0, 1, 1);
        r.type(32);
        r.type(-1);
        return r;
    }

    /** All that the document tells of an object but STATUS; the object is spent by it. */
    static List<Long> allOf(RockName r) {
        List<Long> seen = new ArrayList<>();
        for (int what = 0; what < 6; what++) {
            seen.add((long) r.count(what));
        }
        for (int i = 0; i < 6; i++) {
            for (int what = 0; what < 4; what++) {
                seen.add((long) r.of(i, what));
            }
            seen.add((long) r.is(i));
            seen.add((long) r.names(i, 0));
        }
        seen.add(r.part(0));
        seen.add(r.part(1));
        addUndone(r, seen);
        seen.add((long) r.read());
        addUndone(r, seen);
        for (int image = 0; image < 2; image++) {
            seen.add((long) r.from(image));
            addUndone(r, seen);
        }
        return seen;
    }

    private static void addUndone(RockName r, List<Long> seen) {
        seen.add(r.digest());
        for (int k = 0; k < 7; k++) {
            seen.add((long) r.undo());
            seen.add(r.digest());
        }
    }

    private static int[] statusOf(RockName r) {
        return new int[] {r.status(0), r.status(1), r.status(2)};
    }

    /** The answer; then one more in STATUS by the reason alone, and all else as in an object that was not called. */
    private void leavesAll(String what, Supplier<RockName> made, ToLongFunction<RockName> call, long answer,
        int reason) {
        RockName r = made.get();
        int[] ahead = statusOf(r);
        due(what, call.applyAsLong(r), answer);
        int[] behind = statusOf(r);
        for (int k = 0; k < 3; k++) {
            due(what + ": STATUS " + k, behind[k] - ahead[k], reason == -2 - k ? 1 : 0);
        }
        if (!allOf(r).equals(allOf(made.get()))) {
            due(what + ": things changed", 1, 0);
        }
    }

    /** Refused by a reason, with the answer that is the reason, too. */
    void refused(String what, Supplier<RockName> made, ToLongFunction<RockName> call, int reason) {
        leavesAll(what, made, call, reason, reason);
    }

    /** Refused by a reason, with another answer. */
    void refusedAs(String what, Supplier<RockName> made, ToLongFunction<RockName> call, long answer, int reason) {
        leavesAll(what, made, call, answer, reason);
    }

    /** Not refused, and changing nothing at all. */
    void silent(String what, Supplier<RockName> made, ToLongFunction<RockName> call, long answer) {
        leavesAll(what, made, call, answer, NOT_REFUSED);
    }

    /** Not refused; what it changes is for the test to see. */
    void taken(String what, Supplier<RockName> made, ToLongFunction<RockName> call, long answer) {
        RockName r = made.get();
        int[] ahead = statusOf(r);
        due(what, call.applyAsLong(r), answer);
        int[] behind = statusOf(r);
        for (int k = 0; k < 3; k++) {
            due(what + ": STATUS " + k, behind[k] - ahead[k], 0);
        }
    }

    /** A number is BAD below the least, above the most, and at the ends of int. */
    void badOutside(String what, Supplier<RockName> made, CallWith call, int least, int most) {
        int[] outside = {least - 1, most + 1, Integer.MIN_VALUE, Integer.MAX_VALUE};
        for (int n : outside) {
            refused(what + " " + n, made, r -> call.on(r, n), BAD);
        }
    }

    /** As badOutside; and the answers at the least and at the most, which are not refused. */
    void range(String what, Supplier<RockName> made, CallWith call, int least, long atLeast, int most, long atMost) {
        badOutside(what, made, call, least, most);
        taken(what + " " + least, made, r -> call.on(r, least), atLeast);
        taken(what + " " + most, made, r -> call.on(r, most), atMost);
    }

    /** NAMES and READINGS: figures 1 .. 4, one to five of them; whether 0 may be is for the test to say. */
    void badNames(String what, Supplier<RockName> made, CallWith call) {
        int[] noNames = {-1, -11111, -44444, 5, 9, 10, 15, 40, 45, 50, 51, 105, 150, 501, 1011, 1511, 5111, 1115, 1110,
            10111, 11011, 11101, 11110, 51111, 15111, 11511, 11151, 11115, 91111, 44445, 44450, 50000, 100000, 111111,
            444444, 111110, 1111111, 11111111, 111111111, 1111111111, 1444444444, 2144444444, Integer.MIN_VALUE,
            Integer.MIN_VALUE + 1, Integer.MAX_VALUE};
        for (int n : noNames) {
            refused(what + " " + n, made, r -> call.on(r, n), BAD);
        }
    }
}
