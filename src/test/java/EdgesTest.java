import java.util.function.Supplier;

/**
 * The edges of promises 1 to 32, each on both of its sides; and of each refused call, that nothing but STATUS is
 * changed by it. The edges of promise 6 are those of TextEdgesTest.
 */
public final class EdgesTest {
    private static final int NONE = -1, BAD = -2, NO = -3, FULL = -4;
    private static final int LEAST = Integer.MIN_VALUE, MOST = Integer.MAX_VALUE;
    private static final Checks C = new Checks();

    private static RockName of(int... sticks) {
        RockName r = new RockName();
        for (int k = 0; k + 3 < sticks.length; k += 4) {
            r.stick(sticks[k], sticks[k + 1], sticks[k + 2]);
        }
        for (int k = 0; k + 3 < sticks.length; k += 4) {
            if (sticks[k + 3] > 0) {
                r.suck(k / 4, sticks[k + 3]);
            }
        }
        return r;
    }

    /** Kind, name, inches, wear of each stick. */
    private static Supplier<RockName> town(int... sticks) {
        return () -> of(sticks);
    }

    private static RockName plain(int many) {
        RockName r = new RockName();
        for (int k = 0; k < many; k++) {
            r.stick(0, k % 4 + 1, 9);
        }
        return r;
    }

    private static void newObject() {
        Supplier<RockName> made = RockName::new;
        for (int what = 0; what < 6; what++) {
            int k = what;
            C.silent("1: count " + k, made, r -> r.count(k), 0);
        }
        C.silent("1: town", made, r -> r.town(), 0);
        C.silent("1: clear", made, r -> r.clear(), 0);
        C.silent("1: read", made, r -> r.read(), -10);
        C.silent("1: forget", made, r -> r.forget(), 0);
        C.silent("1: part 0", made, r -> r.part(0), 0);
        C.silent("1: part 1", made, r -> r.part(1), 1);
        C.refused("1: undo", made, r -> r.undo(), NO);
        C.refused("1: from 0", made, r -> r.from(0), NO);
        C.refused("1: from 1", made, r -> r.from(1), NO);
        for (int what = 0; what < 3; what++) {
            int k = what;
            C.silent("1: status " + k, made, r -> r.status(k), 0);
        }
        int[] numbers = {0, -1, 1, 5, LEAST, MOST};
        for (int i : numbers) {
            noStick("1: no stick " + i, made, i);
        }
        RockName one = new RockName();
        RockName other = new RockName();
        Checks.type(one, "town;stick 0 1 1;");
        one.read();
        one.rain(0, 5);
        one.image(0);
        one.undo();
        C.due("1: another object's things", other.digest(), new RockName().digest());
        C.due("1: another object's image", other.from(0), NO);
        C.due("1: another object's STATUS", other.status(1), 1);
    }

    /** Each call that takes a stick, with one that is not there. */
    private static void noStick(String what, Supplier<RockName> made, int i) {
        C.refused(what + ": suck", made, r -> r.suck(i, 1), BAD);
        C.refused(what + ": snap", made, r -> r.snap(i, 1), BAD);
        C.refused(what + ": of", made, r -> r.of(i, 0), BAD);
        C.refused(what + ": at", made, r -> r.at(i, 0, 0), BAD);
        C.refused(what + ": at, ALIKE", made, r -> r.at(i, 0, 1), BAD);
        C.refused(what + ": sucks", made, r -> r.sucks(i, 0), BAD);
        C.refused(what + ": breaks", made, r -> r.breaks(i, 0), BAD);
        C.refused(what + ": letters", made, r -> r.letters(i), BAD);
        C.refused(what + ": note", made, r -> r.note(i, 0, 0, 1), BAD);
        C.refused(what + ": is", made, r -> r.is(i), BAD);
        C.refused(what + ": next", made, r -> r.next(i), BAD);
        C.refused(what + ": names", made, r -> r.names(i, 0), BAD);
        C.refused(what + ": rain", made, r -> r.rain(i, 5), BAD);
        C.refused(what + ": lays, a", made, r -> r.lays(i, 0), BAD);
        C.refused(what + ": lays, b", made, r -> r.lays(0, i), BAD);
        C.refused(what + ": court, a", made, r -> r.court(i, 0), BAD);
        C.refused(what + ": court, b", made, r -> r.court(0, i), BAD);
    }

    private static void sticksThatAreNotThere() {
        int[] besideTwo = {-1, 2, 5, 6, LEAST, MOST};
        for (int i : besideTwo) {
            noStick("two sticks, " + i, Checks::small, i);
        }
        int[] besideSix = {-1, 6, 7, LEAST, MOST};
        for (int i : besideSix) {
            noStick("six sticks, " + i, Checks::full, i);
        }
        // A stick that was there is not there any more.
        noStick("behind town", () -> {
            RockName r = Checks.full();
            r.town();
            return r;
        }, 0);
        noStick("behind lays", () -> {
            RockName r = Checks.full();
            r.lays(1, 4);
            return r;
        }, 5);
        noStick("behind read", () -> {
            RockName r = Checks.full();
            r.read();
            return r;
        }, 1);
        noStick("behind from", () -> {
            RockName r = Checks.small();
            r.stick(0, 1, 1);
            r.from(1);
            return r;
        }, 2);
    }

    private static void town() {
        C.taken("2: of none", RockName::new, r -> r.town(), 0);
        C.taken("2: of two", Checks::small, r -> r.town(), 2);
        C.taken("2: of six", Checks::full, r -> r.town(), 6);
        RockName r = Checks.full();
        r.town();
        for (int what = 0; what < 5; what++) {
            C.due("2: count " + what, r.count(what), 0);
        }
        C.due("2: the text stays", r.count(5), 150);
        C.due("2: above stays", r.part(0), 27);
        C.due("2: below stays", r.part(1), 10);
        C.due("2: BAD stays", r.status(0), 1);
        C.due("2: NO stays", r.status(1), 0);
        C.due("2: FULL stays", r.status(2), 2);
        C.due("2: nothing to undo", r.undo(), NO);
        C.due("2: sticks begin at 0", r.stick(0, 1, 1), 0);
        C.due("2: notes begin at 1", r.note(0, 0, 0, 1), 1);
        C.due("2: the text's bytes stay", r.read(), 3);
        C.due("2: image 0 stays", r.from(0), 1);
        C.due("2: image 0 has six", r.count(0), 6);
        C.due("2: image 0 has no wear", r.count(2), 0);
        C.due("2: image 1 stays", r.from(1), 1);
        C.due("2: image 1 has six to undo", r.count(4), 6);
        r.town();
        r.stick(0, 11, 9);
        C.due("2: nothing of an old stick's wear", r.of(0, 3), 0);
        C.due("2: nothing of old notes", r.is(0), 63);
    }

    private static void stick() {
        C.range("3: kind", Checks::small, (r, k) -> r.stick(k, 1, 1), 0, 2, 5, 2);
        C.range("3: inches", Checks::small, (r, k) -> r.stick(0, 1, k), 1, 2, 9, 2);
        C.badNames("3: name", Checks::small, (r, n) -> r.stick(0, n, 1));
        C.refused("3: name 0", Checks::small, r -> r.stick(0, 0, 1), BAD);
        int[] names = {1, 2, 3, 4, 11, 14, 41, 44, 111, 444, 1111, 4444, 11111, 14114, 44444};
        for (int name : names) {
            C.taken("3: name " + name, Checks::small, r -> r.stick(0, name, 1) * 100000 + r.of(2, 1), 200000 + name);
        }
        C.refused("3: all are BAD, and count once", Checks::small, r -> r.stick(6, 0, 0), BAD);
        C.taken("3: a first", RockName::new, r -> r.stick(5, 44444, 9), 0);
        C.taken("3: a sixth", () -> plain(5), r -> r.stick(5, 44444, 9), 5);
        C.refused("3: a seventh", () -> plain(6), r -> r.stick(5, 44444, 9), FULL);
        C.refused("3: one more than full", Checks::full, r -> r.stick(0, 1, 1), FULL);
        C.refused("3: BAD ahead of FULL, kind", Checks::full, r -> r.stick(6, 1, 1), BAD);
        C.refused("3: BAD ahead of FULL, name", Checks::full, r -> r.stick(0, 5, 1), BAD);
        C.refused("3: BAD ahead of FULL, inches", Checks::full, r -> r.stick(0, 1, 10), BAD);
        C.badOutside("3: kind at full", Checks::full, (r, k) -> r.stick(k, 1, 1), 0, 5);
        C.badOutside("3: inches at full", Checks::full, (r, k) -> r.stick(0, 1, k), 1, 9);
        RockName r = Checks.full();
        r.lays(0, 1);
        C.due("3: there is room again", r.stick(0, 1, 1), 5);
        C.due("3: and none more", r.stick(0, 1, 1), FULL);
        C.due("3: wear is 0 at first", r.of(5, 3), 0);
    }

    private static void type() {
        C.range("4: byte", Checks::small, (r, c) -> r.type(c), 0, 18, 127, 18);
        C.refused("4: byte 255", Checks::small, r -> r.type(255), BAD);
        C.refused("4: byte 256", Checks::small, r -> r.type(256), BAD);
        C.refused("4: byte -128", Checks::small, r -> r.type(-128), BAD);
        // 256 more than a byte, and 65536 more, are not that byte.
        C.refused("4: 256 and 59", Checks::small, r -> r.type(256 + 59), BAD);
        C.refused("4: 65536 and 59", Checks::small, r -> r.type(65536 + 59), BAD);
        C.taken("4: a first", RockName::new, r -> r.type(0), 1);
        RockName r = new RockName();
        Checks.type(r, " ".repeat(148));
        C.due("4: the 149th", r.type(32), 149);
        C.due("4: the 150th", r.type(32), 150);
        C.due("4: the 151st", r.type(32), FULL);
        C.due("4: still 150", r.count(5), 150);
        C.refused("4: one more than full", Checks::full, x -> x.type(32), FULL);
        C.refused("4: the least byte at full", Checks::full, x -> x.type(0), FULL);
        C.refused("4: the greatest byte at full", Checks::full, x -> x.type(127), FULL);
        C.badOutside("4: BAD ahead of FULL", Checks::full, (x, c) -> x.type(c), 0, 127);
        r.clear();
        C.due("4: there is room again", r.type(127), 1);
    }

    private static void clear() {
        C.silent("5: empty", RockName::new, r -> r.clear(), 0);
        C.taken("5: one byte", () -> {
            RockName r = new RockName();
            r.type(0);
            return r;
        }, r -> r.clear(), 1);
        C.taken("5: 17 bytes", Checks::small, r -> r.clear(), 17);
        C.taken("5: full", Checks::full, r -> r.clear(), 150);
        RockName r = Checks.full();
        r.clear();
        C.due("5: again", r.clear(), 0);
        C.due("5: no bytes", r.count(5), 0);
        C.due("5: an empty text", r.read(), -10);
        Checks.type(r, "town;");
        C.due("5: none of the old bytes", r.read(), 1);
        RockName kept = Checks.full();
        RockName twin = Checks.full();
        kept.clear();
        twin.clear();
        Checks.type(kept, "town;stick 5 9 4;suck 0 2;" + " ".repeat(124));
        C.due("5: all else stays", Checks.allOf(kept).equals(Checks.allOf(Checks.full())) ? 1 : 0, 1);
        C.due("5: sticks stay", twin.count(0), 6);
    }

    private static void suck() {
        C.range("7: stick", Checks::small, (r, i) -> r.suck(i, 1), 0, 3, 1, 1);
        C.range("7: stick of six", Checks::full, (r, i) -> r.suck(i, 1), 0, 2, 5, 9);
        C.range("7: n", Checks::small, (r, n) -> r.suck(0, n), 1, 3, 9, 9);
        C.taken("7: to 8", Checks::small, r -> r.suck(0, 6), 8);
        C.taken("7: to 9", Checks::small, r -> r.suck(0, 7), 9);
        C.taken("7: no further", Checks::small, r -> r.suck(0, 8), 9);
        C.taken("7: from 9", Checks::full, r -> r.suck(5, 9), 9);
        C.refused("7: both are BAD, and count once", Checks::small, r -> r.suck(2, 10), BAD);
        C.refused("7: n is BAD at wear 9", Checks::full, r -> r.suck(5, 0), BAD);
        RockName r = Checks.small();
        r.suck(1, 9);
        C.due("7: wear", r.of(1, 3), 9);
        C.due("7: kind stays", r.of(1, 0), 3);
        C.due("7: name stays", r.of(1, 1), 123);
        C.due("7: inches stay", r.of(1, 2), 8);
        C.due("7: the other's wear stays", r.of(0, 3), 2);
        C.due("7: notes stay", r.count(3), 1);
        C.due("7: may be undone", r.count(4), 3);
    }

    private static void snap() {
        C.range("8: stick", Checks::small, (r, i) -> r.snap(i, 1), 0, 12, 1, 123);
        // SPIRAL 1234 at inch 7 is turned 7 times, as 3 times.
        C.range("8: x of nine", town(3, 1234, 9, 0), (r, x) -> r.snap(0, x), 1, 1234, 8, 4123);
        for (int inches = 1; inches <= 8; inches++) {
            int x = inches;
            C.refused("8: " + x + " of " + x, town(3, 1234, x, 1), r -> r.snap(0, x), NO);
            C.refused("8: 8 of " + x, town(3, 1234, x, 1), r -> r.snap(0, 8), NO);
            C.refused("8: 9 of " + x, town(3, 1234, x, 1), r -> r.snap(0, 9), BAD);
            C.refused("8: 0 of " + x, town(3, 1234, x, 1), r -> r.snap(0, 0), BAD);
        }
        for (int inches = 2; inches <= 9; inches++) {
            int x = inches - 1;
            C.taken("8: " + x + " of " + inches, town(0, 12, inches, 0), r -> r.snap(0, x) * 10 + r.of(0, 2), 120 + x);
        }
        C.badOutside("8: BAD ahead of NO", town(0, 12, 1, 0), (r, x) -> r.snap(0, x), 1, 8);
        C.refused("8: no stick ahead of NO", town(0, 12, 1, 0), r -> r.snap(1, 1), BAD);
        C.taken("8: FORGED at inch 0", town(2, 123, 9, 0), r -> r.snap(0, 1), 321);
        C.taken("8: FORGED at inch 1", town(2, 123, 9, 0), r -> r.snap(0, 2), 123);
        C.taken("8: FOUNDLING at inch 1", town(4, 123, 9, 0), r -> r.snap(0, 2), 0);
        C.taken("8: DEEP at inch 3", town(5, 4, 9, 0), r -> r.snap(0, 4), 4);
        C.taken("8: DEEP at inch 4", town(5, 4, 9, 0), r -> r.snap(0, 5), 1);
        RockName r = Checks.small();
        C.due("8: 7 of 8", r.snap(1, 7), 123);
        C.due("8: 7 of 7", r.snap(1, 7), NO);
        C.due("8: 6 of 7", r.snap(1, 6), 312);
        C.due("8: may be undone", r.count(4), 4);
        C.due("8: wear stays", r.of(1, 3), 0);
        C.due("8: notes stay", r.count(3), 1);
    }

    private static void lays() {
        C.range("9: a with 0", Checks::full, (r, a) -> a == 0 ? 0 : r.lays(a, 0), 0, 0, 5, 0);
        C.range("9: b with 5", Checks::full, (r, b) -> b == 5 ? 5 : r.lays(5, b), 0, 0, 5, 5);
        for (int i = 0; i < 6; i++) {
            int k = i;
            C.refused("9: alike " + k, Checks::full, r -> r.lays(k, k), BAD);
        }
        C.refused("9: one stick alone", town(0, 12, 3, 1), r -> r.lays(0, 0), BAD);
        C.refused("9: one stick and none", town(0, 12, 3, 1), r -> r.lays(0, 1), BAD);
        C.refused("9: none is there", town(0, 12, 3, 1), r -> r.lays(1, 2), BAD);
        C.refused("9: alike, but not there", town(0, 12, 3, 1), r -> r.lays(1, 1), BAD);
        C.refused("9: alike and the least", Checks::full, r -> r.lays(LEAST, LEAST), BAD);
        C.refused("9: alike and the greatest", Checks::full, r -> r.lays(MOST, MOST), BAD);
        C.taken("9: the last two", Checks::full, r -> r.lays(5, 4), 4);
        C.taken("9: the first and the last", Checks::full, r -> r.lays(0, 5), 0);
        int[][] names = {{1, 1, 1}, {1, 4, 4}, {4, 1, 4}, {1, 11111, 11111}, {44444, 1, 44444}, {4, 12341, 42341},
            {12341, 4, 42341}, {14141, 41414, 44444}, {21, 123, 223}, {1234, 4321, 4334}, {11, 3, 31}, {3, 12, 32}};
        for (int[] n : names) {
            C.taken("9: " + n[0] + " with " + n[1], town(1, n[0], 2, 0, 5, n[1], 9, 0),
                r -> r.lays(1, 0) + r.of(0, 1), n[2]);
        }
        int[][] wears = {{0, 0, 0}, {0, 9, 9}, {9, 0, 9}, {4, 5, 5}, {5, 4, 5}, {9, 9, 9}};
        for (int[] w : wears) {
            C.taken("9: wear " + w[0] + " with " + w[1], town(1, 12, 2, w[0], 5, 34, 9, w[1]),
                r -> r.lays(0, 1) + r.of(0, 3), w[2]);
        }
        RockName r = Checks.full();
        r.lays(1, 2);
        C.due("9: five", r.count(0), 5);
        C.due("9: notes are none", r.count(3), 0);
        C.due("9: kind stays", r.of(1, 0), 1);
        C.due("9: inches stay", r.of(1, 2), 2);
        C.due("9: ahead of it", r.of(0, 1), 1);
        for (int i = 2; i < 5; i++) {
            C.due("9: behind it, kind " + i, r.of(i, 0), i + 1);
            C.due("9: behind it, name " + i, r.of(i, 1), Checks.FULL_NAMES[i + 1]);
            C.due("9: behind it, inches " + i, r.of(i, 2), Checks.FULL_INCHES[i + 1]);
            C.due("9: behind it, wear " + i, r.of(i, 3), Checks.FULL_WEARS[i + 1]);
        }
        C.due("9: none behind the last", r.of(5, 0), BAD);
        C.due("9: six may be undone at most", r.count(4), 6);
        C.due("9: undone, how many there are then", r.undo(), 6);
        for (int i = 0; i < 6; i++) {
            C.due("9: undone, name " + i, r.of(i, 1), Checks.FULL_NAMES[i]);
            C.due("9: undone, wear " + i, r.of(i, 3), Checks.FULL_WEARS[i]);
        }
        C.due("9: one of two", Checks.small().lays(1, 0), 0);
        C.taken("9: it may be undone", Checks::small, x -> x.lays(1, 0) + x.count(4), 3);
        RockName ended = Checks.full();
        for (int left = 5; left >= 1; left--) {
            C.due("9: down to one", ended.lays(left, 0) * 10 + ended.count(0), left);
        }
        C.due("9: one is left", ended.lays(1, 0), BAD);
    }

    private static void undo() {
        C.refused("10: none", RockName::new, r -> r.undo(), NO);
        C.refused("10: none of six sticks", () -> plain(6), r -> r.undo(), NO);
        C.taken("10: of two", Checks::small, r -> r.undo(), 2);
        RockName two = Checks.small();
        two.undo();
        C.due("10: the last one first", two.of(1, 2) * 10 + two.of(0, 3), 92);
        two.undo();
        C.due("10: then the one ahead of it", two.of(1, 2) * 10 + two.of(0, 3), 90);
        C.due("10: and none more", two.undo(), NO);
        C.due("10: notes stay", two.count(3), 1);
        C.due("10: the text stays", two.count(5), 17);
        C.due("10: the fraction stays", two.part(0), 28);
        for (int changes = 0; changes <= 8; changes++) {
            RockName r = of(0, 12, 9, 0);
            for (int k = 0; k < changes; k++) {
                r.suck(0, 1);
            }
            C.due("10: that may be undone of " + changes, r.count(4), Math.min(6, changes));
            for (int k = 0; k < Math.min(6, changes); k++) {
                C.due("10: undo " + k + " of " + changes, r.undo(), 1);
            }
            C.due("10: one more of " + changes, r.undo(), NO);
            C.due("10: wear left of " + changes, r.of(0, 3), Math.max(0, changes - 6));
        }
        behindAStick();
        manyLaid();
        RockName noted = of(0, 12, 9, 0, 0, 3, 9, 0);
        noted.note(1, 0, 0, 3);
        noted.lays(0, 1);
        noted.undo();
        C.due("10: notes that lays ended stay so", noted.count(3), 0);
        RockName worn = of(0, 12, 9, 9);
        worn.suck(0, 1);
        C.due("10: a suck at 9, too", worn.undo(), 1);
        C.due("10: it was 9", worn.of(0, 3), 9);
        worn.undo();
        C.due("10: it was 0", worn.of(0, 3), 0);
        RockName refused = of(0, 12, 1, 0);
        refused.suck(0, 10);
        refused.snap(0, 1);
        refused.lays(0, 0);
        C.due("10: what was refused is not undone", refused.undo(), NO);
    }

    private static void behindAStick() {
        RockName r = of(0, 12, 9, 3);
        C.due("10: one may be", r.count(4), 1);
        r.stick(0, 6, 1);
        C.due("10: one may be behind a refused stick", r.count(4), 1);
        r.stick(0, 1, 1);
        C.due("10: none may be behind a stick", r.count(4), 0);
        C.refused("10: behind a stick", () -> {
            RockName x = of(0, 12, 9, 3);
            x.stick(0, 1, 1);
            return x;
        }, x -> x.undo(), NO);
        r.suck(1, 1);
        C.due("10: what comes behind it may be", r.undo(), 2);
        C.due("10: but it alone", r.undo(), NO);
        C.due("10: wear stays", r.of(0, 3), 3);
        RockName full = Checks.full();
        full.stick(0, 1, 1);
        C.due("10: all may be behind a stick for which there is no room", full.count(4), 6);
    }

    /** Seven changes, after each of which there is another number of sticks but for the first and the last. */
    private static void manyLaid() {
        RockName r = plain(6);
        r.suck(0, 4);
        for (int k = 0; k < 5; k++) {
            r.lays(0, 1);
        }
        r.suck(0, 5);
        C.due("10: laid together", r.of(0, 1) * 100 + r.of(0, 3) * 10 + r.count(0), 491);
        for (int there = 1; there <= 6; there++) {
            C.due("10: there are then", r.undo(), there);
            C.due("10: inches of all then", r.count(1), 9 * there);
            C.due("10: wear then", r.of(0, 3), 4);
        }
        C.due("10: the first of seven is not undone", r.undo(), NO);
        C.due("10: the last stick of six", r.of(5, 1), 2);
    }

    private static void of() {
        C.range("11: stick", Checks::full, (r, i) -> r.of(i, 1), 0, 1, 5, 44444);
        C.range("11: what", Checks::full, (r, k) -> r.of(5, k), 0, 5, 3, 9);
        C.refused("11: both are BAD, and count once", Checks::full, r -> r.of(6, 4), BAD);
        for (int i = 0; i < 6; i++) {
            int k = i;
            C.silent("11: kind " + k, Checks::full, r -> r.of(k, 0), k);
            C.silent("11: name " + k, Checks::full, r -> r.of(k, 1), Checks.FULL_NAMES[k]);
            C.silent("11: inches " + k, Checks::full, r -> r.of(k, 2), Checks.FULL_INCHES[k]);
            C.silent("11: wear " + k, Checks::full, r -> r.of(k, 3), Checks.FULL_WEARS[k]);
        }
    }

    private static void at() {
        C.range("12: stick", Checks::full, (r, i) -> r.at(i, 0, 0), 0, 1, 5, 4);
        C.range("12: inch", Checks::full, (r, x) -> r.at(5, x, 0), 0, 4, 8, 1);
        C.range("12: inch, ALIKE", Checks::full, (r, x) -> r.at(5, x, 1), 0, 32, 8, 33);
        C.range("12: what", Checks::full, (r, k) -> r.at(4, 0, k), 0, 1234, 1, 24);
        C.refused("12: all are BAD, and count once", Checks::full, r -> r.at(6, 9, 2), BAD);
        // Stick 0 has but one inch.
        C.silent("12: an inch that it has not", Checks::full, r -> r.at(0, 8, 0), 1);
        C.silent("12: alike is all six", town(0, 12, 1, 0, 1, 12, 1, 0, 3, 12, 1, 0, 4, 12, 1, 0, 5, 12, 1, 0, 2, 21,
            1, 0), r -> r.at(5, 0, 1), 63);
        C.silent("12: alike is itself alone", Checks::full, r -> r.at(2, 0, 1), 4);
        int[][] seen = {
            // PLAIN: WEAR 4 and 5; the ends of a name, a run, a letter that comes again but not next to its like.
            {0, 11223, 0, 4, 11223}, {0, 11223, 0, 5, 123}, {0, 44444, 8, 4, 44444}, {0, 44444, 8, 5, 4},
            {0, 12121, 0, 9, 12121}, {0, 11211, 0, 5, 121}, {0, 1, 0, 9, 1}, {0, 11, 0, 5, 1}, {0, 12344, 0, 5, 1234},
            // WORN: WEAR 2 and 3, 5 and 6, 8 and 9; no letters are left from as many cuts on.
            {1, 12341, 0, 0, 12341}, {1, 12341, 0, 2, 12341}, {1, 12341, 0, 3, 1234}, {1, 12341, 0, 5, 1234},
            {1, 12341, 0, 6, 123}, {1, 12341, 0, 8, 123}, {1, 12341, 0, 9, 12}, {1, 1, 0, 2, 1}, {1, 1, 0, 3, 0},
            {1, 12, 0, 5, 1}, {1, 12, 0, 6, 0}, {1, 123, 0, 8, 1}, {1, 123, 0, 9, 0}, {1, 1234, 0, 9, 1},
            {1, 11, 0, 4, 1}, {1, 11, 0, 5, 0}, {1, 44444, 0, 4, 4444}, {1, 44444, 0, 5, 0},
            // FORGED: inch 0 and 1.
            {2, 1234, 0, 0, 4321}, {2, 1234, 1, 0, 1234}, {2, 1234, 8, 0, 1234}, {2, 1, 0, 0, 1}, {2, 1123, 0, 5, 321},
            // SPIRAL: ahead of, at and behind a whole turn.
            {3, 1234, 0, 0, 1234}, {3, 1234, 3, 0, 4123}, {3, 1234, 4, 0, 1234}, {3, 1234, 5, 0, 2341},
            {3, 12341, 4, 0, 11234}, {3, 12341, 5, 0, 12341}, {3, 12341, 8, 0, 41123}, {3, 12, 8, 0, 12},
            {3, 12, 7, 0, 21}, {3, 1, 8, 0, 1}, {3, 1233, 3, 4, 3123}, {3, 1233, 3, 5, 123}, {3, 12331, 4, 5, 1231},
            // FOUNDLING: even and odd inches, to the last one; WEAR 2 and 3.
            {4, 1234, 0, 2, 1234}, {4, 1234, 1, 2, 0}, {4, 1234, 7, 2, 0}, {4, 1234, 8, 2, 1234}, {4, 1234, 0, 3, 123},
            {4, 1234, 8, 9, 1}, {4, 123, 8, 9, 0}, {4, 123, 7, 9, 0},
            // DEEP: inch 3 and 4; 4 becomes 1.
            {5, 1234, 0, 0, 1234}, {5, 1234, 3, 0, 4123}, {5, 1234, 4, 0, 2341}, {5, 1234, 8, 0, 2341},
            {5, 4, 3, 0, 4}, {5, 4, 4, 0, 1}, {5, 3, 4, 0, 4}, {5, 44444, 8, 4, 11111}, {5, 44444, 8, 5, 1}};
        for (int[] s : seen) {
            C.silent("12: kind " + s[0] + " name " + s[1] + " inch " + s[2] + " wear " + s[3],
                town(s[0], s[1], 1, s[3]), r -> r.at(0, s[2], 0), s[4]);
        }
    }

    private static void told() {
        C.range("13: what", Checks::full, (r, k) -> r.told(k), 0, 1, 1, 6);
        C.badOutside("13: what of no sticks", RockName::new, (r, k) -> r.told(k), 0, 1);
        C.silent("13: no sticks, inch", RockName::new, r -> r.told(0), 0);
        C.silent("13: no sticks, how many", RockName::new, r -> r.told(1), 0);
        C.silent("13: one stick, inch", town(5, 1234, 1, 0), r -> r.told(0), 0);
        C.silent("13: one stick, how many", town(5, 1234, 1, 0), r -> r.told(1), 1);
        Supplier<RockName> alike = town(0, 1, 1, 0, 1, 1, 1, 0, 2, 1, 1, 0, 3, 1, 1, 0, 0, 1, 1, 0, 0, 1, 1, 0);
        C.silent("13: six alike, inch", alike, r -> r.told(0), 0);
        C.silent("13: six alike, how many", alike, r -> r.told(1), 1);
        Supplier<RockName> unlike = town(0, 1, 1, 0, 0, 2, 1, 0, 0, 3, 1, 0, 0, 4, 1, 0, 0, 11, 1, 0, 0, 12, 1, 0);
        C.silent("13: six unlike, the least inch", unlike, r -> r.told(0), 0);
        C.silent("13: six unlike, how many", unlike, r -> r.told(1), 6);
        // At inch 8 SPIRAL 42233 is 33422, SPIRAL 23342 is 42233: at no other even inch are they both unlike 22334,
        // 23342 (0: 23342 is there twice; 2: 23342; 4: 22334 is SPIRAL 23342, too; 6: 22334), at odd ones these are 0.
        Supplier<RockName> last = town(4, 22334, 1, 0, 4, 23342, 1, 0, 3, 42233, 1, 0, 3, 23342, 1, 0);
        C.silent("13: the last inch", last, r -> r.told(0), 8);
        C.silent("13: the last inch, how many", last, r -> r.told(1), 4);
        // SPIRAL 12344 is as one of the PLAIN ones but at inch 4, where it is as the FOUNDLING, and at inch 9.
        Supplier<RockName> beyond = town(3, 12344, 9, 0, 0, 12344, 9, 0, 0, 23441, 9, 0, 0, 34412, 9, 0, 0, 44123, 9, 0,
            4, 41234, 9, 0);
        C.silent("13: no inch beyond 8", beyond, r -> r.told(0), 0);
        C.silent("13: no inch beyond 8, how many", beyond, r -> r.told(1), 5);
        C.silent("13: inch 4 for the first time", town(3, 322, 1, 0, 5, 322, 1, 0), r -> r.told(0), 4);
        C.silent("13: nothing read is a reading, too", town(0, 12, 1, 0, 4, 12, 1, 0), r -> r.told(0), 1);
    }

    private static void sucks() {
        C.range("14: stick", Checks::full, (r, i) -> r.sucks(i, 0), 0, NONE, 5, NONE);
        C.range("14: inch", Checks::full, (r, x) -> r.sucks(4, x), 0, 1, 8, 1);
        C.refused("14: both are BAD, and count once", Checks::full, r -> r.sucks(6, 9), BAD);
        int[][] more = {
            {0, 11, 0, 0, 5}, {0, 11, 0, 4, 1}, {0, 11, 0, 5, NONE}, {0, 12, 0, 0, NONE}, {0, 12, 8, 9, NONE},
            {1, 1, 0, 0, 3}, {1, 1, 0, 2, 1}, {1, 1, 0, 3, NONE}, {1, 12341, 0, 3, 3}, {1, 12341, 8, 8, 1},
            // Beyond 9: WEAR 12 has one letter less; there is none to lose behind three.
            {1, 12341, 0, 9, 3}, {1, 1234, 0, 9, 3}, {1, 123, 0, 9, NONE}, {1, 123, 0, 8, 1}, {1, 12341, 0, 7, 2},
            {2, 11, 0, 3, 2}, {2, 12, 0, 3, NONE}, {3, 112, 2, 1, 4}, {3, 112, 2, 5, NONE},
            {4, 1, 0, 1, 2}, {4, 1, 1, 1, NONE}, {4, 12341, 8, 9, 3}, {4, 12341, 7, 9, NONE}, {4, 123, 8, 9, NONE},
            {5, 44, 8, 0, 5}, {5, 44, 8, 4, 1}, {5, 44, 8, 5, NONE}};
        for (int[] m : more) {
            C.silent("14: kind " + m[0] + " name " + m[1] + " inch " + m[2] + " wear " + m[3],
                town(m[0], m[1], 1, m[3]), r -> r.sucks(0, m[2]), m[4]);
        }
    }

    private static void breaks() {
        C.range("15: stick", Checks::full, (r, i) -> r.breaks(i, 1), 0, NONE, 5, 16);
        C.range("15: what", Checks::full, (r, k) -> r.breaks(5, k), 0, 1, 1, 16);
        C.range("15: what of none", Checks::full, (r, k) -> r.breaks(0, k), 0, NONE, 1, NONE);
        C.refused("15: both are BAD, and count once", Checks::full, r -> r.breaks(6, 2), BAD);
        int[][] told = {
            // FORGED is told by inch 0 alone, if the name is another the other way round.
            {2, 12, 1, 0, 1, 1}, {2, 12, 9, 0, 1, 1}, {2, 11, 9, 0, NONE, NONE}, {2, 121, 9, 9, NONE, NONE},
            // FOUNDLING is told by inch 1, where alone nothing is read.
            {4, 1, 1, 0, NONE, NONE}, {4, 1, 2, 0, 1, 2}, {4, 1, 9, 2, 1, 2}, {4, 1, 9, 3, NONE, NONE},
            // DEEP is as SPIRAL ahead of inch 4.
            {5, 1, 4, 0, NONE, NONE}, {5, 1, 5, 0, 1, 16}, {5, 1, 9, 0, 1, 16},
            // SPIRAL 12 is told from PLAIN at inch 1, from DEEP at inch 4: from both at inch 5.
            {3, 12, 4, 0, NONE, NONE}, {3, 12, 5, 0, 2, 18}, {3, 12, 6, 0, 1, 32}, {3, 12, 9, 0, 1, 32},
            {3, 11, 9, 0, NONE, NONE},
            // PLAIN is as WORN below WEAR 3; FORGED is told at inch 0, SPIRAL at inch 1.
            {0, 12, 9, 2, NONE, NONE}, {0, 12, 9, 3, 2, 3}, {0, 12, 1, 3, NONE, NONE}, {0, 12, 2, 3, 2, 3},
            {0, 11, 9, 3, NONE, NONE}, {1, 12, 9, 2, NONE, NONE}};
        for (int[] t : told) {
            String what = "15: kind " + t[0] + " name " + t[1] + " inches " + t[2] + " wear " + t[3];
            C.silent(what + ", how many", town(t[0], t[1], t[2], t[3]), r -> r.breaks(0, 0), t[4]);
            C.silent(what + ", which", town(t[0], t[1], t[2], t[3]), r -> r.breaks(0, 1), t[5]);
        }
    }

    private static void letters() {
        C.range("16: stick", Checks::full, (r, i) -> r.letters(i), 0, 1, 5, 9);
        C.silent("16: the most", town(0, 44444, 9, 4), r -> r.letters(0), 45);
        C.silent("16: one inch", town(0, 44444, 1, 4), r -> r.letters(0), 5);
        C.silent("16: eight inches", town(0, 44444, 8, 4), r -> r.letters(0), 40);
        C.silent("16: one letter in one inch", town(0, 1, 1, 0), r -> r.letters(0), 1);
        C.silent("16: none", town(1, 1, 9, 3), r -> r.letters(0), 0);
        C.silent("16: one is left", town(1, 1, 9, 2), r -> r.letters(0), 9);
        C.silent("16: a foundling's even inches of 9", town(4, 12, 9, 0), r -> r.letters(0), 10);
        C.silent("16: a foundling's even inches of 8", town(4, 12, 8, 0), r -> r.letters(0), 8);
        C.silent("16: a foundling's even inch of 1", town(4, 12, 1, 0), r -> r.letters(0), 2);
    }

    private static void row() {
        // At inch 0 they are read as 1, 12, 321, 1234, 1234, 4. 3 by 4: 0; 0 by 1 and 0 by 5: 1; 1 by 2, 3, 4: 2;
        // 2 by 3 or 5: 3. With 0 between 1 and 5 there is no less than 3 + 0 + 2 + 1 + 1.
        int[] first = {2, 3, 4, 1, 0, 5};
        C.silent("17: how many", Checks::full, r -> r.row(NONE), 7);
        for (int i = 0; i < 6; i++) {
            int k = i;
            C.silent("17: the one of number " + k, Checks::full, r -> r.row(k), first[k]);
        }
        C.silent("17: not so many, 6", Checks::full, r -> r.row(6), -5);
        C.silent("17: not so many, the greatest", Checks::full, r -> r.row(MOST), -5);
        C.refusedAs("17: -2", Checks::full, r -> r.row(-2), -10, BAD);
        C.refusedAs("17: the least", Checks::full, r -> r.row(LEAST), -10, BAD);
        int[] ofNone = {NONE, 0, 1, 6, MOST};
        for (int i : ofNone) {
            C.silent("17: no sticks, " + i, RockName::new, r -> r.row(i), NONE);
        }
        C.refusedAs("17: no sticks, -2", RockName::new, r -> r.row(-2), -10, BAD);
        C.refusedAs("17: no sticks, the least", RockName::new, r -> r.row(LEAST), -10, BAD);
        Supplier<RockName> one = town(0, 12, 1, 0);
        C.silent("17: one stick, how many", one, r -> r.row(NONE), 0);
        C.silent("17: one stick", one, r -> r.row(0), 0);
        C.silent("17: one stick, 1", one, r -> r.row(1), -5);
        C.silent("17: two, the second", Checks::small, r -> r.row(1), 1);
        C.silent("17: two, 2", Checks::small, r -> r.row(2), -5);
        Supplier<RockName> alike = town(0, 1, 1, 0, 0, 1, 1, 0, 0, 1, 1, 0, 0, 1, 1, 0, 0, 1, 1, 0, 0, 1, 1, 0);
        C.silent("17: all alike, how many", alike, r -> r.row(NONE), 0);
        C.silent("17: all alike, the first such row", alike, r -> r.row(3), 3);
        Supplier<RockName> far = town(0, 11111, 1, 0, 0, 22222, 1, 0, 0, 33333, 1, 0, 0, 44444, 1, 0, 0, 12121, 1, 0,
            0, 34343, 1, 0);
        // 12121 lies by 2 from 11111, by 3 from 22222; 34343 by 2 from 33333, by 3 from 44444; all else by 5.
        C.silent("17: far apart, how many", far, r -> r.row(NONE), 15);
        int[] apart = {0, 4, 1, 2, 5, 3};
        for (int i = 0; i < 6; i++) {
            int k = i;
            C.silent("17: far apart, " + k, far, r -> r.row(k), apart[k]);
        }
        C.silent("17: nothing is read of one", town(1, 1, 1, 3, 0, 12341, 1, 0), r -> r.row(NONE), 5);
        C.silent("17: nothing is read of both", town(1, 1, 1, 3, 1, 2, 1, 3), r -> r.row(NONE), 0);
    }

    private static void note() {
        C.range("18: stick", Checks::small, (r, i) -> r.note(i, 0, 0, 0), 0, 2, 1, 2);
        C.range("18: inch", Checks::small, (r, x) -> r.note(0, x, 0, 0), 0, 2, 8, 2);
        C.range("18: wear", Checks::small, (r, w) -> r.note(0, 0, w, 0), 0, 2, 9, 2);
        C.badNames("18: y", Checks::small, (r, y) -> r.note(0, 0, 0, y));
        int[] readings = {0, 1, 4, 11, 44, 111, 444, 1111, 4444, 11111, 44444};
        for (int y : readings) {
            C.taken("18: y " + y, Checks::small, r -> r.note(0, 0, 0, y), 2);
        }
        C.refused("18: all are BAD, and count once", Checks::small, r -> r.note(2, 9, 10, 5), BAD);
        RockName r = of(0, 12, 5, 0);
        for (int k = 1; k <= 6; k++) {
            C.due("18: note " + k, r.note(0, 8, 9, 44444), k);
        }
        C.due("18: a seventh", r.note(0, 8, 9, 44444), FULL);
        C.due("18: six", r.count(3), 6);
        C.refused("18: one more than full", Checks::full, x -> x.note(0, 0, 0, 0), FULL);
        C.refused("18: BAD ahead of FULL, stick", Checks::full, x -> x.note(6, 0, 0, 0), BAD);
        C.badOutside("18: BAD ahead of FULL, inch", Checks::full, (x, n) -> x.note(0, n, 0, 0), 0, 8);
        C.badOutside("18: BAD ahead of FULL, wear", Checks::full, (x, n) -> x.note(0, 0, n, 0), 0, 9);
        C.badNames("18: BAD ahead of FULL, y", Checks::full, (x, y) -> x.note(0, 0, 0, y));
        r.forget();
        C.due("18: there is room again", r.note(0, 0, 0, 0), 1);
        C.due("18: a note is not undone", r.undo(), NO);
        C.due("18: it is kept as it came", r.is(0), 0);
    }

    private static void forget() {
        C.silent("19: none", RockName::new, r -> r.forget(), 0);
        C.silent("19: none, but sticks", town(0, 12, 3, 4), r -> r.forget(), 0);
        C.taken("19: one", Checks::small, r -> r.forget(), 1);
        C.taken("19: six", Checks::full, r -> r.forget(), 6);
        RockName r = Checks.full();
        r.forget();
        C.due("19: again", r.forget(), 0);
        C.due("19: sticks stay", r.count(0), 6);
        C.due("19: wear stays", r.count(2), 24);
        C.due("19: those that may be undone stay", r.count(4), 6);
        C.due("19: every kind fits", r.is(3), 63);
        for (int k = 0; k < 6; k++) {
            r.note(k, k, 9 - k, 11);
        }
        C.due("19: all else stays", Checks.allOf(r).equals(Checks.allOf(Checks.full())) ? 1 : 0, 1);
    }

    private static RockName noted(int kind, int name, int... notes) {
        RockName r = of(kind, name, 9, 0);
        for (int k = 0; k + 2 < notes.length; k += 3) {
            r.note(0, notes[k], notes[k + 1], notes[k + 2]);
        }
        return r;
    }

    private static void is() {
        C.range("20: stick", Checks::small, (r, i) -> r.is(i), 0, 7, 1, 63);
        C.silent("20: no notes", town(0, 12, 1, 0), r -> r.is(0), 63);
        C.silent("20: no kind", Checks::full, r -> r.is(0), 0);
        // At inch 8 with WEAR 9 of 1123: PLAIN, FORGED 123; WORN, FOUNDLING 0; SPIRAL 312; DEEP 423.
        C.silent("20: nothing read", () -> noted(0, 1123, 8, 9, 0), r -> r.is(0), 18);
        C.silent("20: as it is, worn", () -> noted(0, 1123, 8, 9, 123), r -> r.is(0), 5);
        C.silent("20: turned", () -> noted(0, 1123, 8, 9, 312), r -> r.is(0), 8);
        C.silent("20: turned and deep", () -> noted(0, 1123, 8, 9, 423), r -> r.is(0), 32);
        C.silent("20: with its doubles", () -> noted(0, 1123, 8, 9, 1123), r -> r.is(0), 0);
        C.silent("20: WEAR 4", () -> noted(0, 1123, 0, 4, 1123), r -> r.is(0), 41);
        C.silent("20: WEAR 5", () -> noted(0, 1123, 0, 5, 1123), r -> r.is(0), 0);
        C.silent("20: all of six notes", () -> noted(0, 12, 0, 0, 12, 1, 0, 12, 2, 0, 12, 3, 0, 12, 0, 3, 12, 8, 9,
            12), r -> r.is(0), 1);
        C.silent("20: the sixth is not so", () -> noted(0, 12, 0, 0, 12, 1, 0, 12, 2, 0, 12, 3, 0, 12, 0, 3, 12, 8, 9,
            21), r -> r.is(0), 0);
        C.silent("20: the first is not so", () -> noted(0, 12, 0, 0, 11, 1, 0, 12), r -> r.is(0), 0);
        C.silent("20: five letters", () -> noted(3, 12341, 4, 4, 11234), r -> r.is(0), 8);
    }

    private static void next() {
        C.range("21: stick", Checks::small, (r, i) -> r.next(i), 0, 0, 1, 1);
        C.silent("21: no kind", Checks::full, r -> r.next(0), NONE);
        C.silent("21: no kind, at the last stick", Checks::full, r -> r.next(5), NONE);
        C.silent("21: one kind", () -> noted(0, 12, 0, 0, 21), r -> r.next(0), 0);
        C.silent("21: no notes", town(0, 1, 1, 0), r -> r.next(0), 5);
        // PLAIN, SPIRAL, DEEP of 1432: at inch 4 the first two, at inch 5 the first and the last are 1432.
        C.silent("21: inch 6", () -> noted(0, 1432, 0, 3, 1432), r -> r.next(0), 6);
        // All but FORGED, with WEAR 3: WORN, FOUNDLING are alike at even inches, SPIRAL, DEEP ahead of inch 4, PLAIN,
        // DEEP at inch 5.
        C.silent("21: inch 7", () -> {
            RockName r = of(0, 1432, 1, 3);
            r.note(0, 0, 0, 1432);
            return r;
        }, r -> r.next(0), 7);
        // SPIRAL, DEEP: alike ahead of inch 4.
        C.silent("21: inch 4", () -> noted(0, 12, 1, 0, 21), r -> r.next(0), 4);
        // WORN, FOUNDLING of one letter with WEAR 3: nothing is read at any inch; with WEAR 2 inch 1 tells them.
        C.silent("21: by its wear, 3", () -> {
            RockName r = of(1, 1, 1, 3);
            r.note(0, 0, 3, 0);
            return r;
        }, r -> r.next(0), 0);
        C.silent("21: by its wear, 2", () -> {
            RockName r = of(1, 1, 1, 2);
            r.note(0, 0, 3, 0);
            return r;
        }, r -> r.next(0), 1);
    }

    private static void names() {
        C.range("22: stick", Checks::small, (r, i) -> r.names(i, 0), 0, 1, 1, 340);
        C.range("22: what", Checks::small, (r, k) -> r.names(0, k), 0, 1, 1, 12);
        C.range("22: what of no notes", town(0, 44444, 1, 0), (r, k) -> r.names(0, k), 0, 340, 1, 1);
        C.refused("22: both are BAD, and count once", Checks::small, r -> r.names(2, 2), BAD);
        Supplier<RockName> five = () -> noted(0, 1, 0, 0, 44444);
        C.silent("22: of five letters, how many", five, r -> r.names(0, 0), 0);
        C.silent("22: of five letters, the least", five, r -> r.names(0, 1), NONE);
        Supplier<RockName> greatest = () -> noted(0, 1, 0, 0, 4444);
        C.silent("22: of four letters, how many", greatest, r -> r.names(0, 0), 1);
        C.silent("22: of four letters, the least", greatest, r -> r.names(0, 1), 4444);
        Supplier<RockName> least = () -> noted(0, 1, 0, 0, 1);
        C.silent("22: of one letter, how many", least, r -> r.names(0, 0), 1);
        C.silent("22: of one letter, the least", least, r -> r.names(0, 1), 1);
        Supplier<RockName> none = () -> noted(0, 1, 0, 0, 0);
        C.silent("22: PLAIN is never read as nothing", none, r -> r.names(0, 0), 0);
        C.silent("22: PLAIN is never read as nothing, the least", none, r -> r.names(0, 1), NONE);
        C.silent("22: FOUNDLING at an odd inch", () -> noted(4, 1, 7, 0, 0), r -> r.names(0, 0), 340);
        C.silent("22: FOUNDLING at an odd inch with letters", () -> noted(4, 1, 7, 0, 1), r -> r.names(0, 0), 0);
        C.silent("22: WORN, two of WEAR", () -> noted(1, 1, 0, 2, 4444), r -> r.names(0, 1), 4444);
        C.silent("22: WORN, three of WEAR, four are left", () -> noted(1, 1, 0, 3, 4444), r -> r.names(0, 0), 0);
        C.silent("22: WORN, three of WEAR, three are left", () -> noted(1, 1, 0, 3, 444), r -> r.names(0, 0), 4);
        C.silent("22: WORN, the least of these", () -> noted(1, 1, 0, 3, 444), r -> r.names(0, 1), 4441);
        // 4, 44, 444, 4444 run together.
        C.silent("22: WEAR 5", () -> noted(0, 1, 0, 5, 4), r -> r.names(0, 0), 4);
        C.silent("22: WEAR 4", () -> noted(0, 1, 0, 4, 4), r -> r.names(0, 0), 1);
        C.silent("22: DEEP at inch 3", () -> noted(5, 1, 3, 0, 1), r -> r.names(0, 1), 1);
        C.silent("22: DEEP at inch 4", () -> noted(5, 1, 4, 0, 1), r -> r.names(0, 1), 4);
        C.silent("22: two notes that cannot both be", () -> noted(0, 1, 0, 0, 1, 0, 0, 2), r -> r.names(0, 1), NONE);
    }

    private static void whose() {
        C.range("23: inch", Checks::full, (r, x) -> r.whose(x, 4), 0, 32, 8, 0);
        C.badNames("23: y", Checks::full, (r, y) -> r.whose(0, y));
        C.badNames("23: y of no sticks", RockName::new, (r, y) -> r.whose(0, y));
        C.badOutside("23: inch of no sticks", RockName::new, (r, x) -> r.whose(x, 0), 0, 8);
        C.silent("23: nothing read at inch 0", Checks::full, r -> r.whose(0, 0), 0);
        C.silent("23: nothing read at inch 1", Checks::full, r -> r.whose(1, 0), 16);
        C.silent("23: the least name", Checks::full, r -> r.whose(8, 1), 33);
        C.silent("23: the greatest name", Checks::full, r -> r.whose(0, 44444), 0);
        C.silent("23: the greatest name is there", town(0, 44444, 1, 4), r -> r.whose(8, 44444), 1);
        C.silent("23: of no sticks", RockName::new, r -> r.whose(0, 0), 0);
        C.silent("23: of no sticks, the greatest", RockName::new, r -> r.whose(8, 44444), 0);
        C.silent("23: all six", town(0, 1, 1, 0, 1, 1, 1, 0, 2, 1, 1, 0, 3, 1, 1, 0, 4, 1, 1, 0, 5, 1, 1, 0),
            r -> r.whose(0, 1), 63);
        C.silent("23: four of six", town(0, 1, 1, 0, 1, 1, 1, 0, 2, 1, 1, 0, 3, 1, 1, 0, 4, 1, 1, 0, 5, 1, 1, 0),
            r -> r.whose(5, 1), 15);
        C.refused("23: both are BAD, and count once", Checks::full, r -> r.whose(9, 5), BAD);
    }

    private static void court() {
        C.range("24: a with 0", Checks::full, (r, a) -> a == 0 ? 0 : r.court(a, 0), 0, 0, 5, 2);
        C.range("24: b with 5", Checks::full, (r, b) -> b == 5 ? 5 : r.court(5, b), 0, 2, 5, 5);
        C.silent("24: the first two", Checks::full, r -> r.court(0, 1), 1);
        C.silent("24: the first and the last", Checks::full, r -> r.court(0, 5), 1);
        C.silent("24: the last two", Checks::full, r -> r.court(4, 5), 1);
        for (int i = 0; i < 6; i++) {
            int k = i;
            C.refused("24: alike " + k, Checks::full, r -> r.court(k, k), BAD);
        }
        C.refused("24: one stick alone", town(0, 12, 3, 1), r -> r.court(0, 0), BAD);
        C.refused("24: one stick and none", town(0, 12, 3, 1), r -> r.court(0, 1), BAD);
        C.refused("24: alike, but not there", town(0, 12, 3, 1), r -> r.court(1, 1), BAD);
        C.refused("24: alike and the least", Checks::full, r -> r.court(LEAST, LEAST), BAD);
        C.refused("24: alike and the greatest", Checks::full, r -> r.court(MOST, MOST), BAD);
        int[][] rests = {
            // Whether they are alike at pairs 0, 1, 2, 3 is told ahead of each.
            // no, yes, no, no; no, yes, yes, no; yes, no, no, yes: one of them would always do otherwise.
            {5, 4, 5, 1, 0}, {2, 23, 2, 32, 0}, {5, 3, 5, 3, 0},
            // never; 3 alone; 2 alone; 2 and 3; 0 and 2; always: what both show at no cost rests.
            {0, 2, 0, 3, 1}, {2, 13, 5, 42, 1}, {5, 2, 5, 1, 1}, {3, 1, 5, 4, 1}, {5, 2, 2, 2, 1}, {0, 3, 1, 3, 1},
            // 1 and 3: a shows inch 4. 0 alone, 0 and 1: b shows inch 4.
            {5, 4, 4, 1, 2}, {5, 12, 2, 21, 4}, {3, 3, 5, 3, 4}};
        for (int[] c : rests) {
            C.silent("24: kind " + c[0] + " name " + c[1] + " by kind " + c[2] + " name " + c[3],
                town(c[0], c[1], 1, 0, c[2], c[3], 1, 0), r -> r.court(0, 1), c[4]);
        }
        C.silent("24: of one make", town(5, 12, 1, 0, 5, 12, 1, 0), r -> r.court(1, 0), 0);
    }

    private static void rain() {
        C.range("25: stick", Checks::full, (r, i) -> r.rain(i, 5), 0, 1, 5, 1);
        C.range("25: c", Checks::full, (r, c) -> r.rain(5, c), 0, 1, 10, 1);
        C.refused("25: both are BAD, and count once", Checks::full, r -> r.rain(6, 11), BAD);
        int[][] means = {{9, 0, 9, 1}, {9, 1, 81, 10}, {9, 9, 9, 10}, {9, 10, 0, 1}, {1, 0, 1, 1}, {1, 1, 9, 10},
            {1, 5, 1, 2}, {1, 8, 1, 5}, {1, 9, 1, 10}, {1, 10, 0, 1}, {5, 1, 9, 2}, {5, 2, 4, 1}, {5, 9, 1, 2},
            {5, 8, 1, 1}, {2, 5, 1, 1}, {8, 9, 4, 5}, {8, 5, 4, 1}, {6, 5, 3, 1}, {4, 2, 16, 5}, {7, 3, 49, 10}};
        for (int[] m : means) {
            String what = "25: " + m[0] + " inches by " + m[1];
            C.taken(what + ", above", town(0, 1, m[0], 9), r -> r.rain(0, m[1]) * 1000 + r.part(0), 1000 + m[2]);
            C.taken(what + ", below", town(0, 1, m[0], 9), r -> r.rain(0, m[1]) * 1000 + r.part(1), 1000 + m[3]);
        }
        RockName r = Checks.full();
        r.rain(4, 9);
        r.rain(0, 10);
        C.due("25: nothing of an earlier one", r.part(0) * 100 + r.part(1), 1);
        r.rain(5, 7);
        C.due("25: all else stays", Checks.allOf(r).equals(Checks.allOf(Checks.full())) ? 1 : 0, 1);
    }

    private static void years() {
        C.range("26: seed, no years", Checks::full, (r, seed) -> r.years(seed, 0), 0, 0, 999999, 0);
        C.range("26: seed, one year", Checks::full, (r, seed) -> r.years(seed, 1), 0, 1, 999999, 0);
        C.range("26: seed, 60 years", Checks::full, (r, seed) -> r.years(seed, 60), 0, 101, 999999, 110);
        C.range("26: n of seed 0", Checks::full, (r, n) -> r.years(0, n), 0, 0, 60, 101);
        C.range("26: n of seed 999999", Checks::full, (r, n) -> r.years(999999, n), 0, 0, 60, 110);
        C.range("26: n of no sticks", RockName::new, (r, n) -> r.years(999999, n), 0, 0, 60, 0);
        C.refused("26: both are BAD, and count once", Checks::full, r -> r.years(-1, 61), BAD);
        C.silent("26: 59 years", Checks::full, r -> r.years(0, 59), 98);
        C.silent("26: seed 1", Checks::full, r -> r.years(1, 60), 118);
        C.silent("26: seed 999998", Checks::full, r -> r.years(999998, 59), 100);
        C.silent("26: two sticks", Checks::small, r -> r.years(0, 60), 51);
        C.silent("26: two sticks, seed 999999", Checks::small, r -> r.years(999999, 60), 42);
        // Seed 999999: X is 1751684876 (stick 4 at inch 5), 836118613 (2 at 5), 1060586090 (1 at 3).
        C.silent("26: what is left over", Checks::full, r -> r.years(999999, 3), 4);
        // Seed 518020: X is 2147482477, the greatest of all first ones: stick 1 at inch 4.
        C.silent("26: the greatest X", Checks::small, r -> r.years(518020, 1), 3);
        // Seed 959: X is 1709177484, 1396 less than 1630 times 1048576: stick 3 at inch 0, not yet at inch 1.
        C.silent("26: by 1048576 (cut)", town(4, 1, 1, 0, 4, 1, 1, 0, 4, 1, 1, 0, 4, 1234, 1, 0), r -> r.years(959, 1),
            4);
        // In its first two years seed 0 sucks stick 0: from WEAR 8 to 9, and no further.
        C.silent("26: sucked to 9", town(1, 12341, 1, 7), r -> r.years(0, 2), 5);
        C.silent("26: sucked from 8", town(1, 12341, 1, 8), r -> r.years(0, 2), 4);
        C.silent("26: sucked from 4", town(0, 11, 1, 4), r -> r.years(0, 1), 1);
        C.silent("26: sucked from 3", town(0, 11, 1, 3), r -> r.years(0, 1), 2);
    }

    private static void part() {
        C.range("27: what", Checks::full, (r, k) -> r.part(k), 0, 27, 1, 10);
        C.range("27: what at first", RockName::new, (r, k) -> r.part(k), 0, 0, 1, 1);
        C.silent("27: changes nothing", Checks::small, r -> r.part(0), 28);
    }

    private static void image() {
        C.range("28: image", Checks::small, (r, i) -> r.image(i), 0, 1, 1, 1);
        C.range("28: image of nothing", RockName::new, (r, i) -> r.image(i), 0, 1, 1, 1);
        C.badOutside("28: image of six", Checks::full, (r, i) -> r.image(i), 0, 1);
        RockName r = new RockName();
        r.image(1);
        r.stick(0, 12, 3);
        r.image(0);
        r.suck(0, 1);
        C.due("28: one of none", r.from(1) * 10 + r.count(0), 10);
        C.due("28: one of one", r.from(0) * 10 + r.count(0), 11);
        C.due("28: it stays as it was kept", r.of(0, 3), 0);
        r.suck(0, 5);
        r.from(0);
        C.due("28: what comes behind it is not kept", r.of(0, 3) * 10 + r.count(4), 0);
        RockName full = Checks.full();
        full.image(0);
        C.due("28: text, fraction, STATUS stay",
            full.count(5) * 10000 + full.part(0) * 100 + full.part(1) + full.status(0) + full.status(1), 1502711);
        full.undo();
        full.forget();
        full.clear();
        full.rain(0, 0);
        full.from(0);
        C.due("28: notes are kept", full.count(3), 6);
        C.due("28: what may be undone is kept", full.count(4), 6);
        C.due("28: wear is kept", full.count(2), 24);
        C.due("28: the text is not kept", full.count(5), 0);
        C.due("28: the fraction is not kept", full.part(0) * 10 + full.part(1), 11);
        C.due("28: nor is STATUS", full.status(0) * 10 + full.status(2), 12);
    }

    private static void from() {
        C.badOutside("29: image", Checks::small, (r, i) -> r.from(i), 0, 1);
        C.badOutside("29: image of two", Checks::full, (r, i) -> r.from(i), 0, 1);
        C.badOutside("29: BAD ahead of NO", RockName::new, (r, i) -> r.from(i), 0, 1);
        C.refused("29: 0 was not kept, 1 was", Checks::small, r -> r.from(0), NO);
        C.taken("29: 1 was kept", Checks::small, r -> r.from(1), 1);
        C.taken("29: both were, 0", Checks::full, r -> r.from(0), 1);
        C.taken("29: both were, 1", Checks::full, r -> r.from(1), 1);
        Supplier<RockName> first = () -> {
            RockName r = new RockName();
            r.image(0);
            return r;
        };
        C.refused("29: 1 was not kept, 0 was", first, r -> r.from(1), NO);
        C.taken("29: 0 was kept", first, r -> r.from(0), 1);
        RockName r = Checks.full();
        r.from(1);
        C.due("29: six may be undone", r.count(4), 6);
        C.due("29: no notes were kept", r.count(3), 0);
        for (int k = 0; k < 6; k++) {
            C.due("29: undo " + k, r.undo(), 6);
        }
        C.due("29: the seventh was one too many", r.undo(), NO);
        C.due("29: the first suck stays", r.count(2), 1);
        C.due("29: again", r.from(1), 1);
        C.due("29: the image was not undone", r.count(4) * 100 + r.count(2), 624);
        r.from(0);
        C.due("29: none may be", r.undo(), NO);
        for (int k = 0; k < 5; k++) {
            r.lays(0, 1);
        }
        C.due("29: others may be", r.count(4), 5);
        r.from(1);
        int[] wears = {21, 15, 10, 6, 3, 1};
        for (int k = 0; k < 6; k++) {
            C.due("29: what is undone is the image's own, " + k, r.undo() * 100 + r.count(2), 600 + wears[k]);
        }
        r.from(0);
        C.due("29: the text stays", r.count(5), 150);
        C.due("29: the fraction stays", r.part(0) * 100 + r.part(1), 2710);
        C.due("29: STATUS stays", r.status(0) * 100 + r.status(1) * 10 + r.status(2), 122);
    }

    private static void status() {
        int[] others = {-1, 3, LEAST, MOST};
        for (int what : others) {
            C.refusedAs("30: what " + what, Checks::full, r -> r.status(what), -1, BAD);
            C.refusedAs("30: what " + what + " at first", RockName::new, r -> r.status(what), -1, BAD);
        }
        C.silent("30: BAD", Checks::full, r -> r.status(0), 1);
        C.silent("30: NO", Checks::full, r -> r.status(1), 0);
        C.silent("30: FULL", Checks::full, r -> r.status(2), 2);
        C.silent("30: NO of small", Checks::small, r -> r.status(1), 1);
        RockName r = new RockName();
        for (int k = 0; k < 200; k++) {
            r.undo();
            r.count(6);
        }
        C.due("30: 200 of BAD", r.status(0), 200);
        C.due("30: 200 of NO", r.status(1), 200);
        C.due("30: none of FULL", r.status(2), 0);
        RockName all = Checks.full();
        all.town();
        all.clear();
        all.forget();
        all.from(0);
        C.due("30: stays", all.status(0) * 10 + all.status(2), 12);
    }

    private static void count() {
        C.range("31: what", Checks::full, (r, k) -> r.count(k), 0, 6, 5, 150);
        C.range("31: what of small", Checks::small, (r, k) -> r.count(k), 0, 2, 5, 17);
        int[] six = {6, 30, 24, 6, 6, 150};
        int[] two = {2, 13, 2, 1, 2, 17};
        for (int what = 0; what < 6; what++) {
            int k = what;
            C.silent("31: of six, " + k, Checks::full, r -> r.count(k), six[k]);
            C.silent("31: of two, " + k, Checks::small, r -> r.count(k), two[k]);
        }
        Supplier<RockName> most = town(0, 1, 9, 9, 0, 1, 9, 9, 0, 1, 9, 9, 0, 1, 9, 9, 0, 1, 9, 9, 0, 1, 9, 9);
        C.silent("31: the most inches", most, r -> r.count(1), 54);
        C.silent("31: the most wear", most, r -> r.count(2), 54);
    }

    /** An object is used for 512 calls at most: the last of these is as told. */
    private static void longRuns() {
        RockName sucked = of(0, 12, 9, 0);
        for (int call = 2; call < 512; call += 2) {
            sucked.suck(0, 9);
            sucked.undo();
        }
        C.due("the 512th call: wear", sucked.of(0, 3), 0);
        RockName refused = new RockName();
        for (int call = 1; call < 512; call++) {
            refused.lays(0, 0);
        }
        C.due("the 512th call: BAD", refused.status(0), 511);
        RockName kept = of(0, 12, 9, 1);
        for (int call = 3; call < 512; call += 2) {
            kept.image(call / 2 % 2);
            kept.from(call / 2 % 2);
        }
        C.due("the 512th call: that may be undone", kept.count(4), 1);
    }

    private static long hash(long... values) {
        long h = 1447;
        for (long v : values) {
            h = 31 * h + v;
        }
        return h;
    }

    private static void digest() {
        C.silent("32: at first", RockName::new, r -> r.digest(), hash(0, 0, 0, 0, 0, 0, 0, 1));
        C.silent("32: of two", Checks::small, r -> r.digest(),
            hash(2, 13, 2, 1, 2, 17, 0, 12, 5, 2, 3, 123, 8, 0, 0, 1, 0, 12, 28, 5));
        C.silent("32: of six, wrapped around", Checks::full, r -> r.digest(),
            hash(6, 30, 24, 6, 6, 150, 0, 1, 1, 1, 1, 12, 2, 2, 2, 123, 3, 3, 3, 1234, 7, 4, 4, 12341, 8, 5, 5, 44444,
                9, 9, 0, 0, 9, 11, 1, 1, 8, 11, 2, 2, 7, 11, 3, 3, 6, 11, 4, 4, 5, 11, 5, 5, 4, 11, 27, 10));
    }

    public static void main(String[] args) {
        newObject();
        sticksThatAreNotThere();
        town();
        stick();
        type();
        clear();
        suck();
        snap();
        lays();
        undo();
        of();
        at();
        told();
        sucks();
        breaks();
        letters();
        row();
        note();
        forget();
        is();
        next();
        names();
        whose();
        court();
        rain();
        years();
        part();
        image();
        from();
        status();
        count();
        digest();
        longRuns();
        C.end("all edges are as told");
    }
}
