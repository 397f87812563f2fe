import java.util.function.Supplier;

/** The edges of promise 6: the FAULT's cases one by one, the TEXT's 150 bytes, and what a TOWN that is read leaves. */
public final class TextEdgesTest {
    private static final Checks C = new Checks();
    private static final String TOWN = "town;";
    private static final String STICK = "stick 0 1 1;";

    private static Supplier<RockName> of(String text) {
        return () -> {
            RockName r = Checks.small();
            r.clear();
            Checks.type(r, text);
            return r;
        };
    }

    private static void stands(String text, int items) {
        C.taken("'" + text + "'", of(text), r -> r.read(), items);
    }

    /** A FAULT: all stays, and it is not one of the refusals that STATUS counts. */
    private static void fault(String text, int place) {
        C.silent("'" + text + "'", of(text), r -> r.read(), -10 - place);
    }

    private static String sticks(int many) {
        return TOWN + STICK.repeat(many);
    }

    private static void words() {
        stands("town;", 1);
        String[] none = {"t", "tow", "towns", "ttown", "twon", "toan", "nwot", "townstick", "stick", "suck", "a", "z",
            "zown", "towm", "stickk"};
        for (String word : none) {
            fault(word, 0);
            fault(word + ";", 0);
            fault("  " + word + " ;", 2);
        }
        stands(TOWN + STICK, 2);
        String[] noItem = {"s", "stic", "sticks", "stuck", "sticke", "kcits", "towns", "tow", "sucks", "suc", "sick",
            "a", "z", "stickstick", "stickk", "ssuck", "duck", "sucl", "ttick"};
        for (String word : noItem) {
            fault(TOWN + word, 5);
            fault(TOWN + word + " 0 1 1;", 5);
            fault(TOWN + STICK + word + " 0 1;", 17);
        }
        fault("Town;", 0);
        fault("TOWN;", 0);
        fault("towN;", 0);
        fault(TOWN + "stick 0 1 one;", 15);
        fault(TOWN + "stick zero 1 1;", 11);
        fault(TOWN + STICK + "suck stick 1;", 22);
    }

    private static void townOnce() {
        fault("town;town;", 5);
        fault("town; town", 6);
        fault("town town;", 5);
        fault(TOWN + STICK + "town;", 17);
        fault(TOWN + STICK + "suck 0 1;town;", 26);
        fault(TOWN + "stick town 1 1;", 11);
    }

    private static void townFirst() {
        stands(" town;", 1);
        stands(" ".repeat(145) + "town;", 1);
        fault("stick 0 1 1;town;", 0);
        fault("suck 0 1;town;", 0);
        fault(";town;", 0);
        fault(" ;town;", 1);
        fault("0town;", 0);
        fault("7 town;", 0);
        fault("123 town;", 0);
        fault("\ntown;", 0);
        fault("  #town;", 2);
    }

    private static void seventhStick() {
        stands(sticks(5), 6);
        stands(sticks(6), 7);
        fault(sticks(6) + "stick 0 1 1;", 77);
        fault(sticks(6) + "stick", 77);
        fault(sticks(6) + "stick 9 99 999", 77);
        fault(sticks(6) + "  stick 0 1 1;", 79);
        stands(sticks(6) + "suck 5 9;", 8);
        fault(sticks(6) + "suck 5 9;stick 0 1 1;", 86);
        fault(sticks(6) + "suck 6 9;", 82);
        fault(sticks(5) + "suck 5 9;", 70);
        stands(sticks(5) + "suck 4 9;", 7);
        // Sticks that are there do not count: a town that is read takes their place.
        C.taken("six sticks, and six of the text", () -> {
            RockName r = Checks.full();
            r.clear();
            Checks.type(r, sticks(6));
            return r;
        }, r -> r.read() * 10 + r.count(0), 76);
    }

    private static void runsOfFigures() {
        stands(TOWN + "stick 05 09 01 02 03 04 01;", 2);
        stands(TOWN + "stick 00 01 04;suck 00 09;", 3);
        String[] runs = {"000", "001", "100", "0000", "12345", "99999999999999999999", "00000000001"};
        for (String run : runs) {
            fault(TOWN + "stick " + run + " 1 1;", 11);
            fault(TOWN + "stick 0 " + run + " 1;", 13);
            fault(TOWN + "stick 0 1 " + run + ";", 15);
            fault(TOWN + "stick 0 1 1 2 3 4 " + run + ";", 23);
            fault(TOWN + "stick 0 1 1 2 3 4 1 " + run + ";", 25);
            fault(TOWN + STICK + "suck " + run + " 1;", 22);
            fault(TOWN + STICK + "suck 0 " + run + ";", 24);
            fault(TOWN + STICK + "suck 0 1 " + run + ";", 26);
            fault(TOWN + run + ";", 5);
            fault("town " + run + ";", 5);
            fault(run, 0);
            fault("stick" + run, 0);
        }
        // 4294967296 and 1 would be 1 in an int.
        fault(TOWN + "stick 0 1 4294967297;", 15);
        fault(TOWN + "stick 0 1" + "1".repeat(141), 13);
    }

    private static void numbers() {
        for (int n = 0; n <= 99; n++) {
            String figures = "" + n;
            number(TOWN + "stick ", n, figures, " 1 1;", 0, 5);
            number(TOWN + "stick 0 ", n, figures, " 1;", 1, 9);
            number(TOWN + "stick 0 1 ", n, figures, ";", 1, 4);
            number(TOWN + "stick 0 1 1 2 3 4 ", n, figures, ";", 1, 4);
            number(TOWN + STICK + "suck ", n, figures, " 1;", 0, 0);
            number(sticks(6) + "suck ", n, figures, " 1;", 0, 5);
            number(TOWN + STICK + "suck 0 ", n, figures, ";", 1, 9);
        }
    }

    private static void number(String ahead, int n, String figures, String behind, int least, int most) {
        String text = ahead + figures + behind;
        if (n >= least && n <= most) {
            stands(text, (int) text.chars().filter(c -> c == ';').count());
        } else {
            fault(text, ahead.length());
        }
    }

    private static void sticksNotThereYet() {
        fault(TOWN + "suck 0 1;", 10);
        fault(TOWN + "suck 0 1;" + STICK, 10);
        fault(TOWN + STICK + "suck 1 1;" + STICK, 22);
        stands(TOWN + STICK + STICK + "suck 1 1;", 4);
        fault(TOWN + STICK + STICK + "suck 2 1;", 34);
        // The town of small has a stick 1, but it is not of the text.
        fault(TOWN + STICK + "suck 0 1;suck 1 1;", 31);
        fault(TOWN + "suck 9 99;", 10);
    }

    private static void lettersOfAName() {
        fault(TOWN + "stick 0 1;", 14);
        fault(TOWN + "stick 0 1", 14);
        fault(TOWN + "stick 0 1 ;", 15);
        stands(TOWN + "stick 0 1 4;", 2);
        stands(TOWN + "stick 0 1 4 4 4 4;", 2);
        stands(TOWN + "stick 0 1 4 4 4 4 4;", 2);
        fault(TOWN + "stick 0 1 4 4 4 4 4 4;", 25);
        fault(TOWN + "stick 0 1 4 4 4 4 4 4 4;", 25);
        fault(TOWN + "stick 0 1 4 4 4 4 4 9;", 25);
        fault(TOWN + "stick 0 1 4 4 4 4 4 4", 25);
        // Two figures are one number, not two letters.
        fault(TOWN + "stick 0 1 12;", 15);
        fault(TOWN + "stick 0 1 1 44;", 17);
        C.taken("the greatest name", of(TOWN + "stick 5 9 4 4 4 4 4;"), r -> r.read() * 100000 + r.of(0, 1), 244444);
        C.taken("the least name", of(TOWN + "stick 5 9 1;"), r -> r.read() * 100000 + r.of(0, 1), 200001);
        C.taken("the first letter first", of(TOWN + "stick 5 9 1 2 3 4 1;"), r -> r.read() * 100000 + r.of(0, 1),
            212341);
    }

    private static void stops() {
        fault(";", 0);
        fault("town;;", 5);
        fault("town; ;", 6);
        fault(TOWN + STICK + ";", 17);
        fault(TOWN + "stick;", 10);
        fault(TOWN + "stick 0;", 12);
        fault(TOWN + "stick 0 1;", 14);
        fault(TOWN + STICK + "suck;", 21);
        fault(TOWN + STICK + "suck 0;", 23);
        fault(TOWN + STICK + "suck 0 1;;", 26);
        // And where one is missing.
        fault("town stick 0 1 1;", 5);
        fault("town 0;", 5);
        fault(TOWN + "stick 0 1 1 stick 0 1 1;", 17);
        fault(TOWN + STICK + "suck 0 1 suck 0 1;", 26);
        fault(TOWN + STICK + "suck 0 1 1;", 26);
        stands("town ;", 1);
        stands(TOWN + "stick 0 1 1 ;", 2);
        stands(TOWN + STICK + "suck 0 1 ;", 3);
    }

    /** Each byte, at three places: behind an item, behind a word, behind a number. */
    private static void bytes() {
        for (int c = 0; c < 128; c++) {
            char sign = (char) c;
            boolean letter = c >= 'a' && c <= 'z';
            boolean figure = c >= '0' && c <= '9';
            if (c == 32) {
                stands("town; ", 1);
                stands("town ;", 1);
                stands(TOWN + "stick 0 1 1 ;", 2);
                continue;
            }
            fault(TOWN + sign, 5);
            fault(sign + TOWN, 0);
            fault("town" + sign + ";", c == ';' ? 5 : letter ? 0 : 4);
            fault(TOWN + "stick 0 1 1" + sign + ";", c == ';' ? 17 : figure ? 15 : 16);
            fault(TOWN + "stick 0 1" + sign + " 1;", figure ? 13 : 14);
        }
        fault(TOWN + "\u0000", 5);
        fault(TOWN + "\t" + STICK, 5);
        fault(TOWN + "stick 0 1 -1;", 15);
        fault(TOWN + "stick 0 1 +1;", 15);
        fault(TOWN + "stick 0,1 1;", 12);
        fault(TOWN + "stick 0 1 1.", 16);
        fault(TOWN + "stick 0 1 1\u007f;", 16);
    }

    /** A text that is cut ends too early, but for ends of items; a word that is cut is none. */
    private static void ends() {
        String text = "town; stick 3 9 1 4 ;suck 0 12;";
        int[] faults = {0, 0, 0, 0, 4, -1, -1, 6, 6, 6, 6, 11, 12, 13, 14, 15, 16, 17, 18, 19, 20, -2, 21, 21, 21, 25,
            26, 27, 28, 29, 28, 28};
        for (int length = 0; length <= text.length(); length++) {
            String cut = text.substring(0, length);
            if (faults[length] < 0) {
                stands(cut, -faults[length]);
            } else {
                fault(cut, faults[length]);
            }
        }
        fault("", 0);
        fault(" ", 1);
        fault(" ".repeat(149), 149);
        fault(" ".repeat(150), 150);
        fault("town" + " ".repeat(146), 150);
        fault(TOWN + "stick" + " ".repeat(140), 150);
    }

    /** What an earlier text had behind the place where this one ends does not tell. */
    private static void endsOfShorterTexts() {
        String[] shorter = {"", "town", "town;stick", "town;stick 0", "town;stick 0 1", "town;stick 0 1 1",
            "town;stick 0 1 1;suck", "town;stick 0 1 1;suck 0", "town;stick 0 1 1;suck 0 1"};
        for (String text : shorter) {
            RockName r = of(TOWN + STICK + "suck 0 1;").get();
            C.due("the longer one", r.read(), 3);
            r.clear();
            Checks.type(r, text);
            C.due("behind a longer one '" + text + "'", r.read(), -10 - text.length());
            C.due("what was read stays", r.count(2), 1);
        }
        RockName r = of(TOWN + STICK + STICK).get();
        r.read();
        r.clear();
        Checks.type(r, TOWN);
        C.due("no sticks of an earlier text", r.read() * 10 + r.count(0), 10);
        Checks.type(r, "suck 0 1;");
        C.due("no stick of an earlier text", r.read(), -20);
    }

    private static void aFullText() {
        stands(TOWN + " ".repeat(145), 1);
        stands(" ".repeat(144) + TOWN, 1);
        stands(" ".repeat(145) + TOWN, 1);
        fault(" ".repeat(146) + "town", 150);
        fault(TOWN + " ".repeat(144) + ";", 149);
        fault(TOWN + " ".repeat(144) + "9", 149);
        fault(TOWN + " ".repeat(144) + "s", 149);
        fault(TOWN + " ".repeat(144) + "!", 149);
        fault(TOWN + " ".repeat(140) + "stick", 150);
        fault(";".repeat(150), 0);
        fault("a".repeat(150), 0);
        fault("1".repeat(150), 0);
        fault("\u0000".repeat(150), 0);
        fault(TOWN + "s".repeat(145), 5);
        // The most items: 5 and 12 and 14 times 9 are 143.
        stands(TOWN + STICK + "suck 0 1;".repeat(14), 16);
        stands(TOWN + STICK + "suck 0 1;".repeat(14) + " ".repeat(7), 16);
        fault(TOWN + STICK + "suck 0 1;".repeat(14) + "suck 0 ", 150);
        // A byte that found no room does not tell.
        RockName r = of(TOWN + " ".repeat(140) + "stick").get();
        C.due("the 151st", r.type(32), -4);
        C.due("ends too early", r.read(), -160);
    }

    private static void whatATownTells() {
        RockName r = of(TOWN + "stick 5 9 4 3;stick 0 1 1;suck 0 9;suck 1 4;suck 0 1;suck 1 1;").get();
        C.due("items", r.read(), 7);
        int[][] due = {{5, 43, 9, 9}, {0, 1, 1, 5}};
        for (int i = 0; i < 2; i++) {
            for (int what = 0; what < 4; what++) {
                C.due("stick " + i + " what " + what, r.of(i, what), due[i][what]);
            }
        }
        C.taken("wear 8 is not 9", of(TOWN + STICK + "suck 0 7;suck 0 1;"), x -> x.read() * 10 + x.of(0, 3), 48);
        C.taken("wear 9", of(TOWN + STICK + "suck 0 8;suck 0 1;"), x -> x.read() * 10 + x.of(0, 3), 49);
        C.taken("wear is 9 at most", of(TOWN + STICK + "suck 0 8;suck 0 2;"), x -> x.read() * 10 + x.of(0, 3), 49);
        C.taken("wear 0 without a suck", of(TOWN + STICK), x -> x.read() * 10 + x.of(0, 3), 20);
    }

    private static void whatATownLeaves() {
        RockName r = Checks.full();
        C.due("items", r.read(), 3);
        int[] counts = {1, 9, 2, 0, 0, 150};
        for (int what = 0; what < 6; what++) {
            C.due("count " + what, r.count(what), counts[what]);
        }
        C.due("the fraction stays", r.part(0) * 100 + r.part(1), 2710);
        C.due("STATUS stays", r.status(0) * 100 + r.status(1) * 10 + r.status(2), 102);
        C.due("no notes", r.is(0), 63);
        C.due("nothing to undo", r.undo(), -3);
        C.due("again", r.read(), 3);
        C.due("the same town", r.count(0) * 10 + r.count(2), 12);
        C.due("image 0 stays", r.from(0) * 100 + r.count(0) * 10 + r.count(2), 160);
        C.due("image 1 stays", r.from(1) * 100 + r.count(0) * 10 + r.count(4), 166);
        C.taken("a town of no sticks", of(TOWN), x -> x.read() * 100 + x.count(0) * 10 + x.count(3), 100);
        RockName typed = of("town;stic").get();
        C.due("a word that is none", typed.read(), -15);
        Checks.type(typed, "k 0 1 1;");
        C.due("more bytes mend it", typed.read(), 2);
        typed.type(';');
        C.due("and spoil it", typed.read(), -27);
        C.due("what was read stays", typed.count(0), 1);
        typed.clear();
        C.due("an empty text", typed.read(), -10);
        C.due("what was read stays", typed.of(0, 1), 1);
        C.due("none of these is counted", typed.status(0) * 100 + typed.status(1) * 10 + typed.status(2), 110);
    }

    public static void main(String[] args) {
        words();
        townOnce();
        townFirst();
        seventhStick();
        runsOfFigures();
        numbers();
        sticksNotThereYet();
        lettersOfAName();
        stops();
        bytes();
        ends();
        endsOfShorterTexts();
        aFullText();
        whatATownTells();
        whatATownLeaves();
        C.end("all edges of texts are as told");
    }
}
