/** One part for each promise of the document, with answers worked out by hand from its words. */
public final class PromisesTest {
    private static final int NONE = -1, BAD = -2, NO = -3, FULL = -4;
    private static int wrong = 0;

    private static void due(String what, long got, long want) {
        if (got != want) {
            wrong++;
            System.out.println(what + " answered " + got + ", due is " + want);
        }
    }

    private static void dueStatus(String what, RockName r, int bad, int no, int full) {
        due(what + " BAD in STATUS", r.status(0), bad);
        due(what + " NO in STATUS", r.status(1), no);
        due(what + " FULL in STATUS", r.status(2), full);
    }

    private static void type(RockName r, String text) {
        for (int k = 0; k < text.length(); k++) {
            due("type of " + text.charAt(k), r.type(text.charAt(k)), k + 1);
        }
    }

    private static int tell(RockName r, String text) {
        r.clear();
        type(r, text);
        return r.read();
    }

    /** A town of all that town(), read() and from() must or must not touch. */
    private static RockName fullTown() {
        RockName r = new RockName();
        r.stick(0, 12, 9);
        r.stick(1, 343, 5);
        r.image(0);
        r.suck(1, 4);
        r.snap(0, 3);
        r.note(0, 0, 0, 12);
        r.rain(1, 5);
        type(r, "town;");
        r.stick(9, 1, 1);
        return r;
    }

    private static void newObject() {
        RockName r = new RockName();
        for (int what = 0; what < 6; what++) {
            due("1: count(" + what + ")", r.count(what), 0);
        }
        due("1: part(0)", r.part(0), 0);
        due("1: part(1)", r.part(1), 1);
        dueStatus("1:", r, 0, 0, 0);
        due("1: from(0)", r.from(0), NO);
        due("1: from(1)", r.from(1), NO);
        due("1: undo()", r.undo(), NO);
        long h = 1447;
        for (int k = 0; k < 7; k++) {
            h *= 31;
        }
        due("1: digest()", new RockName().digest(), 31 * h + 1);
    }

    private static void town() {
        RockName r = fullTown();
        due("2: town()", r.town(), 2);
        for (int what = 0; what < 5; what++) {
            due("2: count(" + what + ")", r.count(what), 0);
        }
        due("2: the text stays", r.count(5), 5);
        due("2: the fraction stays", r.part(0) * 10 + r.part(1), 52);
        dueStatus("2:", r, 1, 0, 0);
        due("2: nothing to undo", r.undo(), NO);
        due("2: images stay", r.from(0), 1);
        due("2: sticks of the image", r.count(0), 2);
        due("2: town() again", r.town(), 2);
        due("2: town() of none", r.town(), 0);
        r.stick(0, 1, 1);
        r.suck(0, 7);
        r.town();
        r.stick(0, 1, 1);
        due("2: a new stick has no wear", r.of(0, 3), 0);
    }

    private static void stick() {
        RockName r = new RockName();
        due("3: kind -1", r.stick(-1, 1, 1), BAD);
        due("3: kind 6", r.stick(6, 1, 1), BAD);
        int[] noNames = {0, -1, -12, 5, 10, 102, 12345, 51111, 15111, 11115, 111111, 1111111111,
            Integer.MAX_VALUE, Integer.MIN_VALUE};
        for (int name : noNames) {
            due("3: name " + name, r.stick(0, name, 1), BAD);
        }
        due("3: inches 0", r.stick(0, 1, 0), BAD);
        due("3: inches 10", r.stick(0, 1, 10), BAD);
        due("3: inches -1", r.stick(0, 1, -1), BAD);
        dueStatus("3:", r, 19, 0, 0);
        int[] names = {1, 4, 12, 444, 1234, 44444};
        for (int i = 0; i < 6; i++) {
            due("3: stick " + i, r.stick(i, names[i], i + 4), i);
            due("3: its wear", r.of(i, 3), 0);
        }
        due("3: a 7th that is BAD", r.stick(0, 0, 1), BAD);
        due("3: a 7th", r.stick(0, 1, 1), FULL);
        dueStatus("3:", r, 20, 0, 1);
        due("3: none more", r.count(0), 6);
        due("3: it is of its name", r.of(5, 1), 44444);
    }

    private static void type() {
        RockName r = new RockName();
        due("4: type(-1)", r.type(-1), BAD);
        due("4: type(128)", r.type(128), BAD);
        due("4: type(372)", r.type(372), BAD);
        for (int k = 0; k < 150; k++) {
            due("4: byte " + k, r.type(k == 0 ? 0 : 127), k + 1);
        }
        due("4: a 151st that is BAD", r.type(128), BAD);
        due("4: a 151st", r.type(32), FULL);
        due("4: bytes", r.count(5), 150);
        dueStatus("4:", r, 4, 0, 1);
    }

    private static void clear() {
        RockName r = new RockName();
        due("5: of none", r.clear(), 0);
        type(r, "town; ");
        due("5: of six", r.clear(), 6);
        due("5: none left", r.count(5), 0);
        due("5: begins anew", r.read(), -10);
        due("5: type", r.type(116), 1);
    }

    private static void readFaults() {
        String[] texts = {"", "   ", "town", "town ", "tow", "towns;", "Town;", "townX;", "town,", ";town;",
            "stick 0 1 1;", "suck 0 1;", "1;", "town;town;", "town;;", "town;1;", "town 1;", "town town;",
            "town;stic", "town;stick", "town;stick;", "town;stick 6 1 1;", "town;stick 5 0 1;",
            "town;stick 5 10 1;", "town;stick 5 9;", "town;stick 5 9 0;", "town;stick 5 9 5;",
            "town;stick 5 9 12;", "town;stick 5 9 001;", "town;stick 005 9 1;", "town;stick 5 9 1",
            "town;stick 5 9 1 ", "town;stick 5 9 1 2 3 4 1 2;", "town;stick 5 9 1 2 3 4 1",
            "town;stick 5 9 1 suck 0 1;", "town;stick 5 9 1.", "town;suck", "town;suck 0 1;",
            "town;stick 0 1 1;suck 1 1;", "town;stick 0 1 1;suck 0 0;", "town;stick 0 1 1;suck 0 10;",
            "town;stick 0 1 1;suck 0 1 1;", "town;stick 0 1 1;suck 0;", "town;\tstick 0 1 1;",
            "town;\u007f", "town;town", "town;suck 000 1;", "town;stick 0 1 1;suck 0 1", "fown;", "town;duck 0 1;",
            "town;stick 0 1 1;suck 0 a;", "town;stick / 1 1;", "town;stick 0 : 1;"};
        int[] faults = {0, 3, 4, 5, 0, 0, 0, 4, 4, 0,
            0, 0, 0, 5, 5, 5, 5, 5,
            5, 10, 10, 11, 13,
            13, 14, 15, 15,
            15, 15, 11, 16,
            17, 25, 24,
            17, 16, 9, 10,
            22, 24, 24,
            26, 23, 5,
            5, 5, 10, 25, 0, 5,
            24, 11, 13};
        for (int k = 0; k < texts.length; k++) {
            RockName r = fullTown();
            tell(r, texts[k]);
            long ahead = r.digest();
            due("6: read() of '" + texts[k] + "'", r.read(), -10 - faults[k]);
            due("6: all stays at '" + texts[k] + "'", r.digest(), ahead);
            dueStatus("6: '" + texts[k] + "'", r, 1, 0, 0);
        }
        StringBuilder seven = new StringBuilder("town;");
        for (int k = 0; k < 6; k++) {
            seven.append("stick 0 1 1;");
        }
        RockName r = new RockName();
        due("6: six sticks", tell(r, seven.toString()), 7);
        due("6: a 7th", tell(r, seven + "stick 0 1 1;"), -10 - 77);
        due("6: a 7th at its word", tell(r, seven + "stick 9"), -10 - 77);
        due("6: a suck behind six", tell(r, seven + "suck 5 1;"), 8);
        due("6: 150 of ;", tell(r, ";".repeat(150)), -10);
        due("6: 150 of blanks", tell(r, " ".repeat(150)), -160);
        due("6: 150 figures", tell(r, "town;" + "1".repeat(145)), -15);
        due("6: blanks to the end", tell(r, "town;" + " ".repeat(145)), 1);
    }

    private static void read() {
        RockName r = fullTown();
        due("6: a town alone", r.read(), 1);
        for (int what = 0; what < 5; what++) {
            due("6: count(" + what + ")", r.count(what), 0);
        }
        due("6: the text stays", r.count(5), 5);
        due("6: the fraction stays", r.part(0) * 10 + r.part(1), 52);
        due("6: nothing to undo", r.undo(), NO);
        due("6: images stay", r.from(0), 1);
        due("6: sticks and sucks", tell(r, "  town ;stick 05 9 4 3 2 1 1;stick 4 08 02;suck 0 9;suck 0 1;suck 01 3; "), 6);
        due("6: sticks", r.count(0), 2);
        due("6: kind", r.of(0, 0), 5);
        due("6: name", r.of(0, 1), 43211);
        due("6: inches", r.of(0, 2), 9);
        due("6: wear is 9 at most", r.of(0, 3), 9);
        due("6: kind", r.of(1, 0), 4);
        due("6: name", r.of(1, 1), 2);
        due("6: inches", r.of(1, 2), 8);
        due("6: wear", r.of(1, 3), 3);
        due("6: sucks of a text are not undone", r.count(4), 0);
        due("6: once more", r.read(), 6);
        due("6: takes the place", r.count(0), 2);
        due("6: no blanks but where they part", tell(r, "town;stick3 2 1 2;suck0 1;"), 3);
        due("6: its name", r.of(0, 1), 12);
        due("6: no ; of an earlier text", tell(r, "town"), -14);
        due("6: no word of an earlier text", tell(r, "town;stick 3 2"), -24);
        due("6: no number of an earlier text", tell(r, "town;stick"), -20);
        due("6: what was told stays", r.of(0, 1), 12);
    }

    private static void suck() {
        RockName r = new RockName();
        due("7: no stick", r.suck(0, 1), BAD);
        r.stick(0, 1123, 4);
        due("7: n 0", r.suck(0, 0), BAD);
        due("7: n 10", r.suck(0, 10), BAD);
        due("7: stick -1", r.suck(-1, 1), BAD);
        due("7: stick 1", r.suck(1, 1), BAD);
        dueStatus("7:", r, 5, 0, 0);
        due("7: nothing to undo of what was refused", r.count(4), 0);
        due("7: 4", r.suck(0, 4), 4);
        due("7: read at 4", r.at(0, 0, 0), 1123);
        due("7: 1 more", r.suck(0, 1), 5);
        due("7: read at 5", r.at(0, 0, 0), 123);
        due("7: 9 at most", r.suck(0, 9), 9);
        due("7: 9 stays", r.suck(0, 1), 9);
        due("7: each may be undone", r.count(4), 4);
    }

    private static void snap() {
        RockName r = new RockName();
        due("8: no stick", r.snap(0, 1), BAD);
        r.stick(3, 123, 5);
        due("8: x 0", r.snap(0, 0), BAD);
        due("8: x 9", r.snap(0, 9), BAD);
        due("8: x -1", r.snap(0, -1), BAD);
        due("8: stick 1", r.snap(1, 1), BAD);
        due("8: x 5 of 5", r.snap(0, 5), NO);
        due("8: x 8 of 5", r.snap(0, 8), NO);
        dueStatus("8:", r, 5, 2, 0);
        due("8: nothing to undo of what was refused", r.count(4), 0);
        due("8: x 4 of 5", r.snap(0, 4), 123);
        due("8: inches", r.of(0, 2), 4);
        due("8: x 2", r.snap(0, 2), 231);
        due("8: inches", r.of(0, 2), 2);
        due("8: x 2 of 2", r.snap(0, 2), NO);
        due("8: x 1", r.snap(0, 1), 123);
        due("8: x 1 of 1", r.snap(0, 1), NO);
        due("8: may be undone", r.count(4), 3);
    }

    private static void lays() {
        RockName r = new RockName();
        r.stick(2, 14, 3);
        due("9: alike", r.lays(0, 0), BAD);
        due("9: not there", r.lays(0, 1), BAD);
        due("9: not there", r.lays(-1, 0), BAD);
        r.stick(1, 4, 4);
        r.stick(3, 2132, 7);
        r.stick(4, 11, 8);
        r.suck(2, 2);
        r.suck(0, 3);
        r.suck(3, 1);
        r.note(1, 0, 0, 4);
        due("9: lays(2, 0)", r.lays(2, 0), 0);
        due("9: kind stays", r.of(0, 0), 2);
        due("9: greater letters", r.of(0, 1), 2432);
        due("9: inches stay", r.of(0, 2), 3);
        due("9: the greater wear", r.of(0, 3), 3);
        due("9: notes are none", r.count(3), 0);
        due("9: sticks", r.count(0), 3);
        due("9: ahead of it", r.of(1, 1), 4);
        due("9: behind it", r.of(2, 0) * 1000 + r.of(2, 1) * 100 + r.of(2, 2) * 10 + r.of(2, 3), 5181);
        due("9: lays(1, 2)", r.lays(1, 2), 1);
        due("9: name", r.of(1, 1), 41);
        due("9: kind", r.of(1, 0), 1);
        due("9: the greater wear", r.of(1, 3), 1);
        due("9: lays(0, 1)", r.lays(0, 1), 0);
        due("9: name", r.of(0, 1), 4432);
        due("9: one is left", r.lays(0, 1), BAD);
        dueStatus("9:", r, 4, 0, 0);
        due("9: may be undone", r.count(4), 6);
        RockName same = new RockName();
        same.stick(0, 12, 1);
        same.stick(0, 12, 1);
        due("9: two of one make are two", same.lays(1, 0), 0);
    }

    private static void undo() {
        RockName r = new RockName();
        due("10: none", r.undo(), NO);
        r.stick(0, 12, 9);
        r.stick(5, 3, 8);
        for (int k = 1; k <= 7; k++) {
            r.suck(0, 1);
        }
        due("10: 6 at most", r.count(4), 6);
        for (int k = 6; k >= 1; k--) {
            due("10: undo", r.undo(), 2);
            due("10: wear", r.of(0, 3), k);
        }
        due("10: no 7th", r.undo(), NO);
        r.snap(0, 4);
        r.note(0, 1, 1, 12);
        r.lays(0, 1);
        r.note(0, 2, 2, 32);
        due("10: of two laid", r.undo(), 2);
        due("10: notes stay", r.count(3), 1);
        due("10: name", r.of(0, 1), 12);
        due("10: the other is there", r.of(1, 1) * 100 + r.of(1, 0) * 10 + r.of(1, 2), 358);
        due("10: of a break", r.undo(), 2);
        due("10: inches", r.of(0, 2), 9);
        due("10: notes stay", r.count(3), 1);
        r.suck(1, 3);
        due("10: may be undone", r.count(4), 1);
        r.stick(0, 1, 1);
        due("10: none behind a stick", r.count(4), 0);
        due("10: none behind a stick", r.undo(), NO);
        due("10: wear stays", r.of(1, 3), 3);
        dueStatus("10:", r, 0, 3, 0);
        r.suck(1, 1);
        r.stick(9, 1, 1);
        due("10: a refused stick leaves it", r.undo(), 3);
        RockName laid = new RockName();
        for (int k = 0; k < 6; k++) {
            laid.stick(0, k % 4 + 1, 2);
        }
        laid.suck(0, 1);
        for (int k = 0; k < 5; k++) {
            laid.lays(1, 0);
        }
        laid.suck(0, 2);
        int[] sizes = {1, 2, 3, 4, 5, 6};
        for (int size : sizes) {
            due("10: how many there are then", laid.undo(), size);
        }
        due("10: the first was one too many", laid.undo(), NO);
        due("10: as it was sucked first", laid.of(0, 3), 1);
        due("10: the last of six", laid.of(5, 1), 2);
    }

    private static void of() {
        RockName r = new RockName();
        due("11: no stick", r.of(0, 0), BAD);
        r.stick(5, 4321, 7);
        r.suck(0, 2);
        due("11: kind", r.of(0, 0), 5);
        due("11: name", r.of(0, 1), 4321);
        due("11: inches", r.of(0, 2), 7);
        due("11: wear", r.of(0, 3), 2);
        due("11: what 4", r.of(0, 4), BAD);
        due("11: what -1", r.of(0, -1), BAD);
        due("11: stick 1", r.of(1, 0), BAD);
        due("11: stick -1", r.of(-1, 0), BAD);
        dueStatus("11:", r, 5, 0, 0);
    }

    private static int seen(int kind, int name, int x, int wear) {
        RockName r = new RockName();
        r.stick(kind, name, 1);
        if (wear > 0) {
            r.suck(0, wear);
        }
        return r.at(0, x, 0);
    }

    private static void at() {
        int[][] seen = {
            {0, 11223, 0, 0, 11223}, {0, 11223, 8, 4, 11223}, {0, 11223, 3, 5, 123}, {0, 11123, 3, 9, 123},
            {0, 12112, 0, 5, 1212}, {0, 44444, 0, 6, 4},
            {1, 11223, 0, 2, 11223}, {1, 11223, 1, 3, 1122}, {1, 11223, 0, 4, 1122}, {1, 11223, 0, 5, 12},
            {1, 11223, 0, 6, 1}, {1, 11223, 0, 9, 0}, {1, 1, 0, 3, 0}, {1, 12, 0, 9, 0}, {1, 12341, 7, 9, 12},
            {2, 11223, 0, 0, 32211}, {2, 11223, 1, 0, 11223}, {2, 11223, 0, 5, 321}, {2, 11223, 8, 5, 123},
            {3, 11223, 0, 0, 11223}, {3, 11223, 1, 0, 12231}, {3, 11223, 2, 0, 22311}, {3, 11223, 5, 0, 11223},
            {3, 11223, 1, 5, 231}, {3, 11223, 4, 5, 231}, {3, 2, 7, 0, 2}, {3, 11, 3, 9, 1},
            {4, 11223, 0, 0, 11223}, {4, 11223, 1, 0, 0}, {4, 11223, 2, 3, 1122}, {4, 11223, 7, 3, 0},
            {4, 11223, 8, 9, 0}, {4, 11223, 4, 5, 12},
            {5, 11223, 0, 0, 11223}, {5, 11223, 3, 0, 23112}, {5, 11223, 4, 0, 42233}, {5, 11223, 8, 0, 34223},
            {5, 44, 3, 0, 44}, {5, 44, 4, 0, 11}, {5, 44, 4, 5, 1}, {5, 14, 5, 0, 12}};
        for (int[] s : seen) {
            due("12: kind " + s[0] + " name " + s[1] + " inch " + s[2] + " wear " + s[3],
                seen(s[0], s[1], s[2], s[3]), s[4]);
        }
        RockName r = new RockName();
        due("12: no stick", r.at(0, 0, 0), BAD);
        r.stick(0, 12, 1);
        r.stick(3, 21, 1);
        r.stick(2, 21, 1);
        due("12: alike at 0", r.at(0, 0, 1), 5);
        due("12: alike at 0", r.at(2, 0, 1), 5);
        due("12: alike at 0", r.at(1, 0, 1), 2);
        due("12: alike at 1", r.at(1, 1, 1), 3);
        due("12: alike at 8", r.at(1, 8, 1), 6);
        due("12: inch 9", r.at(0, 9, 0), BAD);
        due("12: inch -1", r.at(0, -1, 0), BAD);
        due("12: what 2", r.at(0, 0, 2), BAD);
        due("12: what -1", r.at(0, 0, -1), BAD);
        due("12: stick 3", r.at(3, 0, 0), BAD);
        dueStatus("12:", r, 6, 0, 0);
    }

    private static void told() {
        RockName r = new RockName();
        due("13: no sticks", r.told(0), 0);
        due("13: no sticks", r.told(1), 0);
        r.stick(3, 12, 1);
        due("13: one stick", r.told(0), 0);
        due("13: one stick", r.told(1), 1);
        r.stick(0, 12, 1);
        r.stick(0, 21, 1);
        due("13: the least inch of like ones", r.told(0), 0);
        due("13: how many", r.told(1), 2);
        r.stick(5, 12, 1);
        due("13: an inch that none has", r.told(0), 4);
        due("13: how many", r.told(1), 3);
        due("13: what 2", r.told(2), BAD);
        due("13: what -1", r.told(-1), BAD);
        dueStatus("13:", r, 2, 0, 0);
    }

    private static void sucks() {
        RockName r = new RockName();
        due("14: no stick", r.sucks(0, 0), BAD);
        r.stick(1, 12341, 1);
        r.stick(4, 1, 1);
        r.stick(0, 112, 1);
        r.stick(3, 12, 1);
        due("14: worn", r.sucks(0, 3), 3);
        r.suck(0, 1);
        due("14: worn by 1", r.sucks(0, 3), 2);
        r.suck(0, 1);
        due("14: worn by 2", r.sucks(0, 3), 1);
        due("14: foundling at an even inch", r.sucks(1, 0), 3);
        due("14: foundling at an odd inch", r.sucks(1, 1), NONE);
        due("14: plain with a double", r.sucks(2, 0), 5);
        due("14: spiral without one", r.sucks(3, 0), NONE);
        r.suck(2, 5);
        due("14: plain with none any more", r.sucks(2, 0), NONE);
        r.suck(0, 9);
        due("14: beyond 9", r.sucks(0, 0), 3);
        r.suck(0, 1);
        due("14: changes nothing", r.of(0, 3), 9);
        r.suck(1, 3);
        due("14: nothing is left", r.sucks(1, 0), NONE);
        due("14: inch 9", r.sucks(0, 9), BAD);
        due("14: inch -1", r.sucks(0, -1), BAD);
        due("14: stick 4", r.sucks(4, 0), BAD);
        dueStatus("14:", r, 4, 0, 0);
    }

    private static void breaks() {
        RockName r = new RockName();
        due("15: no stick", r.breaks(0, 0), BAD);
        // FORGED differs from PLAIN at inch 0 alone, SPIRAL at inch 1 first; WORN is cut from WEAR 3 on.
        r.stick(0, 123, 9);
        due("15: as WORN without wear", r.breaks(0, 0), NONE);
        r.suck(0, 3);
        due("15: plain, how many", r.breaks(0, 0), 2);
        due("15: plain, which", r.breaks(0, 1), 3);
        r.snap(0, 1);
        due("15: only inches that it has", r.breaks(0, 1), NONE);
        r.stick(2, 123, 1);
        due("15: forged at inch 0", r.breaks(1, 0), 1);
        due("15: forged at inch 0", r.breaks(1, 1), 1);
        // DEEP 1444 is told from all others at inch 4 for the first time.
        r.stick(5, 1444, 5);
        due("15: deep", r.breaks(2, 1), 16);
        r.stick(5, 1444, 4);
        due("15: deep as spiral", r.breaks(3, 0), NONE);
        due("15: deep as spiral", r.breaks(3, 1), NONE);
        // SPIRAL 12 is read 21 at odd inches, but DEEP reads so, too, ahead of inch 4.
        r.stick(3, 12, 9);
        due("15: spiral", r.breaks(4, 1), 32);
        // FOUNDLING with WEAR 3 and one letter is read 0 everywhere, as WORN.
        r.stick(4, 1, 9);
        r.suck(5, 3);
        due("15: foundling as worn", r.breaks(5, 1), NONE);
        // FORGED 121 is PLAIN from either end.
        RockName f = new RockName();
        f.stick(2, 121, 9);
        f.suck(0, 3);
        due("15: forged as plain", f.breaks(0, 0), NONE);
        due("15: what 2", r.breaks(0, 2), BAD);
        due("15: what -1", r.breaks(0, -1), BAD);
        due("15: stick 6", r.breaks(6, 0), BAD);
        dueStatus("15:", r, 4, 0, 0);
    }

    private static void letters() {
        RockName r = new RockName();
        due("16: no stick", r.letters(0), BAD);
        r.stick(0, 11223, 4);
        r.stick(4, 11223, 4);
        r.stick(4, 11223, 5);
        due("16: plain", r.letters(0), 20);
        due("16: foundling", r.letters(1), 10);
        due("16: foundling", r.letters(2), 15);
        r.suck(0, 5);
        due("16: without doubles", r.letters(0), 12);
        r.suck(1, 3);
        due("16: worn", r.letters(1), 8);
        r.suck(2, 9);
        due("16: none left", r.letters(2), 0);
        due("16: stick 3", r.letters(3), BAD);
        due("16: stick -1", r.letters(-1), BAD);
        dueStatus("16:", r, 3, 0, 0);
    }

    private static void row() {
        RockName r = new RockName();
        due("17: no sticks", r.row(NONE), NONE);
        due("17: no sticks", r.row(0), NONE);
        due("17: no sticks", r.row(9), NONE);
        due("17: i -2", r.row(-2), -10);
        r.stick(0, 1, 1);
        due("17: of one", r.row(NONE), 0);
        due("17: of one", r.row(0), 0);
        due("17: not so many", r.row(1), -5);
        // 1 and 111 are unlike by 2, 111 and 11 by 1, 11 and 1 by 1: 1, 11, 111 is best.
        r.stick(0, 111, 1);
        r.stick(0, 11, 1);
        due("17: how many", r.row(NONE), 2);
        due("17: first", r.row(0), 0);
        due("17: second", r.row(1), 2);
        due("17: third", r.row(2), 1);
        // A forged one is read the other way round at inch 0: 44111.
        r.stick(2, 11144, 1);
        due("17: how many", r.row(NONE), 6);
        due("17: last", r.row(3), 3);
        due("17: not so many", r.row(4), -5);
        due("17: not so many", r.row(Integer.MAX_VALUE), -5);
        due("17: i -3", r.row(Integer.MIN_VALUE), -10);
        dueStatus("17:", r, 2, 0, 0);
        // Nothing is read of a worn out one: it is unlike in each place of the other.
        RockName w = new RockName();
        w.stick(1, 12, 1);
        w.stick(0, 12, 1);
        w.suck(0, 9);
        due("17: against none", w.row(NONE), 2);
    }

    private static void note() {
        RockName r = new RockName();
        due("18: no stick", r.note(0, 0, 0, 0), BAD);
        r.stick(0, 12, 1);
        due("18: stick 1", r.note(1, 0, 0, 0), BAD);
        due("18: stick -1", r.note(-1, 0, 0, 0), BAD);
        due("18: inch 9", r.note(0, 9, 0, 0), BAD);
        due("18: inch -1", r.note(0, -1, 0, 0), BAD);
        due("18: wear 10", r.note(0, 0, 10, 0), BAD);
        due("18: wear -1", r.note(0, 0, -1, 0), BAD);
        due("18: y 5", r.note(0, 0, 0, 5), BAD);
        due("18: y -1", r.note(0, 0, 0, -1), BAD);
        due("18: y 101", r.note(0, 0, 0, 101), BAD);
        due("18: y of six letters", r.note(0, 0, 0, 111111), BAD);
        due("18: y 0", r.note(0, 8, 9, 0), 1);
        due("18: y of five letters", r.note(0, 8, 9, 44444), 2);
        for (int k = 3; k <= 6; k++) {
            due("18: note " + k, r.note(0, 0, 0, 12), k);
        }
        due("18: a 7th that is BAD", r.note(0, 0, 0, 5), BAD);
        due("18: a 7th", r.note(0, 0, 0, 12), FULL);
        due("18: notes", r.count(3), 6);
        due("18: notes are not undone", r.undo(), NO);
        dueStatus("18:", r, 12, 1, 1);
    }

    private static void forget() {
        RockName r = new RockName();
        due("19: none", r.forget(), 0);
        r.stick(0, 12, 1);
        r.note(0, 0, 0, 21);
        r.note(0, 0, 0, 21);
        due("19: is", r.is(0), 4);
        due("19: two", r.forget(), 2);
        due("19: none left", r.count(3), 0);
        due("19: is", r.is(0), 63);
        due("19: sticks stay", r.count(0), 1);
        due("19: comes anew", r.note(0, 0, 0, 21), 1);
    }

    private static void is() {
        RockName r = new RockName();
        due("20: no stick", r.is(0), BAD);
        r.stick(0, 12, 1);
        r.stick(3, 34, 1);
        due("20: no notes", r.is(0), 63);
        r.note(0, 1, 0, 0);
        due("20: foundling", r.is(0), 16);
        due("20: the other's notes do not count", r.is(1), 63);
        r.forget();
        r.note(0, 0, 3, 1);
        due("20: worn, foundling, by the note's wear", r.is(0), 18);
        r.forget();
        r.note(1, 4, 0, 41);
        due("20: deep", r.is(1), 32);
        r.note(1, 4, 0, 34);
        due("20: none", r.is(1), 0);
        r.forget();
        r.note(1, 2, 0, 34);
        due("20: all but none", r.is(1), 63);
        r.note(1, 1, 0, 43);
        due("20: spiral, deep", r.is(1), 40);
        due("20: stick 2", r.is(2), BAD);
        due("20: stick -1", r.is(-1), BAD);
        dueStatus("20:", r, 3, 0, 0);
    }

    private static void next() {
        RockName r = new RockName();
        due("21: no stick", r.next(0), BAD);
        r.stick(0, 12, 1);
        // Inch 1: PLAIN, WORN, FORGED 12; SPIRAL, DEEP 21; FOUNDLING 0. Inch 5: DEEP 32: no better.
        due("21: all kinds", r.next(0), 1);
        r.note(0, 1, 0, 21);
        due("21: spiral or deep", r.next(0), 4);
        r.note(0, 4, 0, 23);
        due("21: one kind", r.next(0), 0);
        r.note(0, 5, 0, 1);
        due("21: no kind", r.next(0), NONE);
        r.forget();
        r.suck(0, 3);
        // WEAR 3: inch 0: PLAIN, SPIRAL, DEEP 12; WORN, FOUNDLING 1; FORGED 21: 3 alike.
        // inch 1: PLAIN, FORGED 12; WORN 1; SPIRAL, DEEP 21; FOUNDLING 0: 2 alike.
        due("21: with its wear", r.next(0), 1);
        r.stick(3, 1, 1);
        // One letter is read alike by all but FOUNDLING at odd inches and DEEP from inch 4 on.
        due("21: one letter", r.next(1), 5);
        due("21: stick 2", r.next(2), BAD);
        due("21: stick -1", r.next(-1), BAD);
        dueStatus("21:", r, 3, 0, 0);
    }

    private static void names() {
        RockName r = new RockName();
        due("22: no stick", r.names(0, 0), BAD);
        r.stick(1, 12, 1);
        r.stick(5, 34, 1);
        due("22: all", r.names(0, 0), 340);
        due("22: the least", r.names(0, 1), 1);
        r.note(0, 0, 3, 12);
        due("22: worn by one letter", r.names(0, 0), 4);
        due("22: the least", r.names(0, 1), 121);
        due("22: the other's notes do not count", r.names(1, 0), 340);
        r.forget();
        r.note(0, 0, 3, 0);
        due("22: of one letter", r.names(0, 0), 4);
        r.forget();
        r.note(0, 0, 9, 0);
        // WEAR 9 cuts three letters once doubles are gone: all but those of four letters without doubles.
        due("22: cut by three", r.names(0, 0), 340 - 108);
        r.forget();
        r.note(0, 0, 0, 11111);
        due("22: five letters are too many", r.names(0, 0), 0);
        due("22: none", r.names(0, 1), NONE);
        r.note(1, 4, 0, 3411);
        due("22: deep", r.names(1, 0), 1);
        due("22: deep", r.names(1, 1), 2344);
        r.note(1, 4, 5, 3);
        due("22: all notes", r.names(1, 0), 0);
        r.forget();
        r.note(1, 0, 5, 12);
        // 12, 112, 122, 1112, 1122, 1222
        due("22: with doubles", r.names(1, 0), 6);
        due("22: the least", r.names(1, 1), 12);
        due("22: what 2", r.names(0, 2), BAD);
        due("22: what -1", r.names(0, -1), BAD);
        due("22: stick 2", r.names(2, 0), BAD);
        dueStatus("22:", r, 4, 0, 0);
    }

    private static void whose() {
        RockName r = new RockName();
        due("23: no sticks", r.whose(0, 0), 0);
        r.stick(4, 12, 1);
        r.stick(3, 21, 1);
        r.stick(0, 12, 1);
        r.stick(1, 2, 1);
        r.suck(3, 3);
        due("23: 12 at 0", r.whose(0, 12), 5);
        due("23: 12 at 1", r.whose(1, 12), 6);
        due("23: 0 at 1", r.whose(1, 0), 9);
        due("23: 0 at 8", r.whose(8, 0), 8);
        due("23: five letters", r.whose(8, 44444), 0);
        due("23: inch 9", r.whose(9, 0), BAD);
        due("23: inch -1", r.whose(-1, 0), BAD);
        due("23: y 5", r.whose(0, 5), BAD);
        due("23: y -1", r.whose(0, -1), BAD);
        due("23: y 10", r.whose(0, 10), BAD);
        due("23: y of six letters", r.whose(0, 111111), BAD);
        dueStatus("23:", r, 6, 0, 0);
    }

    private static void court() {
        RockName r = new RockName();
        r.stick(0, 1, 1);
        due("24: alike", r.court(0, 0), BAD);
        due("24: not there", r.court(0, 1), BAD);
        due("24: not there", r.court(-1, 0), BAD);
        r.stick(5, 1, 1);
        r.stick(5, 4, 1);
        r.stick(1, 1, 1);
        due("24: always alike", r.court(0, 3), 1);
        due("24: b does better by inch 4", r.court(0, 1), 4);
        due("24: a had worse of inch 4", r.court(1, 0), 1);
        due("24: a does better by inch 4", r.court(2, 0), 2);
        due("24: none rests", r.court(2, 1), 0);
        due("24: alike, if b shows inch 4", r.court(0, 2), 1);
        dueStatus("24:", r, 3, 0, 0);
        // SPIRAL 123 is read 231 at inch 4, 312 at inch 5.
        RockName s = new RockName();
        s.stick(3, 123, 1);
        s.stick(0, 231, 1);
        due("24: inch 4 of a", s.court(0, 1), 2);
        RockName t = new RockName();
        t.stick(0, 123, 1);
        t.stick(3, 123, 1);
        due("24: inch 4 of b", t.court(0, 1), 4);
        RockName u = new RockName();
        u.stick(0, 12341, 1);
        u.stick(3, 12341, 1);
        due("24: b is no more as a", u.court(0, 1), 4);
    }

    private static void rain() {
        RockName r = new RockName();
        due("25: no stick", r.rain(0, 0), BAD);
        int[][] means = {{9, 0, 9, 1}, {9, 10, 0, 1}, {9, 3, 63, 10}, {9, 5, 9, 2}, {5, 4, 3, 1}, {5, 3, 7, 2},
            {4, 7, 6, 5}, {1, 9, 1, 10}, {8, 5, 4, 1}, {2, 9, 1, 5}};
        for (int[] m : means) {
            r.town();
            r.stick(4, 1, m[0]);
            due("25: rain", r.rain(0, m[1]), 1);
            due("25: above of " + m[0] + " by " + m[1], r.part(0), m[2]);
            due("25: below of " + m[0] + " by " + m[1], r.part(1), m[3]);
        }
        due("25: inches stay", r.of(0, 2), 2);
        due("25: c 11", r.rain(0, 11), BAD);
        due("25: c -1", r.rain(0, -1), BAD);
        due("25: stick 1", r.rain(1, 0), BAD);
        due("25: the fraction stays", r.part(1), 5);
        dueStatus("25:", r, 4, 0, 0);
    }

    private static void years() {
        RockName r = new RockName();
        due("26: no sticks", r.years(999999, 60), 0);
        due("26: seed -1", r.years(-1, 0), BAD);
        due("26: seed 1000000", r.years(1000000, 0), BAD);
        due("26: n -1", r.years(0, -1), BAD);
        due("26: n 61", r.years(0, 61), BAD);
        dueStatus("26:", r, 4, 0, 0);
        // X of seed 0: 12345, 1406932606, 654583775, 1449466924, 229283573, ..:
        // by 65536: 0, 21468, 9988, 22117, 3498: sticks 0, 0, 4, 1, 0
        // by 1048576: 0, 1341, 624, 1382, 218: inches 0, 0, 3, 5, 2
        r.stick(1, 12, 1);
        due("26: one year", r.years(0, 1), 2);
        due("26: two years", r.years(0, 2), 4);
        due("26: not there in the third", r.years(0, 4), 4);
        due("26: worn by the fifth", r.years(0, 5), 5);
        due("26: changes nothing", r.of(0, 3), 0);
        due("26: nothing to undo", r.count(4), 0);
        r.stick(4, 1234, 1);
        due("26: a foundling at inch 5", r.years(0, 4), 4);
        r.suck(0, 9);
        due("26: 9 at most", r.years(0, 5), 0);
        due("26: no years", r.years(999999, 0), 0);
        RockName six = new RockName();
        int[][] sticks = {{5, 44444, 9}, {1, 12344, 9}, {3, 1234, 8}, {4, 11111, 9}, {2, 4321, 1}, {0, 1, 2}};
        for (int[] k : sticks) {
            six.stick(k[0], k[1], k[2]);
        }
        due("26: six, 9 years", six.years(7, 9), 29);
        due("26: six, 60 years", six.years(999999, 60), 161);
        // Sucked three times it would have 1 letter of 5 by WEAR 12, but by WEAR 9 it has 2.
        RockName worn = new RockName();
        worn.stick(1, 12341, 1);
        worn.suck(0, 9);
        due("26: wear stays at 9", worn.years(0, 5), 6);
        due("26: wear stays at 9 for 6 times", worn.years(0, 60), 12);
    }

    private static void part() {
        RockName r = new RockName();
        due("27: above", r.part(0), 0);
        due("27: below", r.part(1), 1);
        due("27: what 2", r.part(2), BAD);
        due("27: what -1", r.part(-1), BAD);
        dueStatus("27:", r, 2, 0, 0);
    }

    private static void image() {
        RockName r = new RockName();
        due("28: image -1", r.image(-1), BAD);
        due("28: image 2", r.image(2), BAD);
        due("28: of none", r.image(0), 1);
        r.stick(0, 12, 3);
        due("28: of one", r.image(1), 1);
        r.from(0);
        due("28: none", r.count(0), 0);
        r.from(1);
        due("28: one", r.count(0), 1);
        due("28: takes the place", r.image(0), 1);
        r.town();
        r.from(0);
        due("28: one", r.count(0), 1);
        dueStatus("28:", r, 2, 0, 0);
    }

    private static void from() {
        RockName r = new RockName();
        due("29: image -1", r.from(-1), BAD);
        due("29: image 2", r.from(2), BAD);
        due("29: none was kept", r.from(1), NO);
        r.stick(0, 12, 3);
        r.suck(0, 2);
        r.suck(0, 2);
        r.note(0, 0, 0, 21);
        r.image(1);
        due("29: the other one was not kept", r.from(0), NO);
        type(r, "town;");
        r.rain(0, 5);
        r.suck(0, 5);
        r.note(0, 0, 0, 12);
        r.stick(1, 2, 2);
        for (int time = 0; time < 2; time++) {
            due("29: from", r.from(1), 1);
            due("29: sticks", r.count(0), 1);
            due("29: wear", r.of(0, 3), 4);
            due("29: notes", r.count(3), 1);
            due("29: kinds by them", r.is(0), 4);
            due("29: may be undone", r.count(4), 2);
            due("29: the text stays", r.count(5), 5);
            due("29: the fraction stays", r.part(0) * 10 + r.part(1), 32);
            due("29: undo", r.undo(), 1);
            due("29: wear", r.of(0, 3), 2);
            r.undo();
            r.forget();
            r.suck(0, 9);
            r.stick(2, 3, 3);
        }
        dueStatus("29:", r, 2, 2, 0);
    }

    private static void status() {
        RockName r = new RockName();
        due("30: what 3", r.status(3), -1);
        due("30: what -1", r.status(-1), -1);
        due("30: both are BAD", r.status(0), 2);
        r.undo();
        r.row(-2);
        r.part(5);
        r.count(6);
        for (int k = 0; k < 7; k++) {
            r.stick(0, 1, 1);
        }
        dueStatus("30:", r, 5, 1, 1);
        r.row(6);
        r.sucks(0, 0);
        r.breaks(0, 0);
        r.read();
        dueStatus("30: NONE, -5 and a FAULT are not refused:", r, 5, 1, 1);
        r.town();
        dueStatus("30: stays:", r, 5, 1, 1);
    }

    private static void count() {
        RockName r = fullTown();
        int[] counts = {2, 8, 4, 1, 2, 5};
        for (int what = 0; what < 6; what++) {
            due("31: count(" + what + ")", r.count(what), counts[what]);
        }
        due("31: what 6", r.count(6), BAD);
        due("31: what -1", r.count(-1), BAD);
        dueStatus("31:", r, 3, 0, 0);
    }

    private static void digest() {
        RockName r = fullTown();
        r.note(1, 8, 9, 0);
        long[] values = {2, 8, 4, 2, 2, 5, 0, 12, 3, 0, 1, 343, 5, 4, 0, 0, 0, 12, 1, 8, 9, 0, 5, 2};
        long h = 1447;
        for (long v : values) {
            h = 31 * h + v;
        }
        due("32: digest()", r.digest(), h);
        due("32: changes nothing", r.digest(), h);
        r.count(9);
        due("32: is without STATUS", r.digest(), h);
        r.image(1);
        due("32: is without IMAGES", r.digest(), h);
    }

    private static void constants() {
        due("NONE", RockName.NONE, NONE);
        due("BAD", RockName.BAD, BAD);
        due("NO", RockName.NO, NO);
        due("FULL", RockName.FULL, FULL);
    }

    public static void main(String[] args) {
        constants();
        newObject();
        town();
        stick();
        type();
        clear();
        readFaults();
        read();
        suck();
        snap();
        lays();
        undo();
        of();
        at();
        told();
        sucks();
        breaks();
        letters();
        row();
        note();
        forget();
        is();
        next();
        names();
        whose();
        court();
        rain();
        years();
        part();
        image();
        from();
        status();
        count();
        digest();
        System.out.println(wrong == 0 ? "all promises are kept" : wrong + " answers are not as due");
        if (wrong != 0) {
            System.exit(1);
        }
    }
}
