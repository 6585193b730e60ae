/** The edges that "Terms", ==== 2., names of SOURCES, of the SEARCH and of a FILL. */
final class SearchEdges {
    private static final long BAD = Check.BAD_ARGUMENT;
    private static final String TERMS = "Terms";

    private SearchEdges() {
    }

    static void run() {
        everyDotKnown();
        filledInOrNot();
        byReach();
        byTurns();
        places();
        weights();
        apart();
        shifts();
        shiftsByWeights();
        noShiftWithoutAny();
        oneAlone();
        differences();
        bounds();
        overAllInOrder();
        skipped();
        stopped();
        theBest();
        looked();
        everyMissingOneOfThePatch();
        tonesWithinTheirLimits();
        sureAsItWas();
        noFill();
    }

    /**
     * Three PATCHES that stand apart, the only SOURCES, (1, 1), (5, 1), (9, 1), for the MISSING (13, 1), whose eight
     * KNOWN ones are 100: each is given by nine TONES, in order.
     */
    private static FilledHoles blocks(int[] first, int[] second, int[] third) {
        FilledHoles x = Check.of("kkk?kkk?kkk?kkk/kkk?kkk?kkk?k?k/kkk?kkk?kkk?kkk");
        int[][] all = {first, second, third};
        for (int block = 0; block < 3; block++) {
            for (int i = 0; i < 9; i++) {
                if (all[block][i] != 100) {
                    x.paint(4 * block + i % 3, i / 3, all[block][i]);
                }
            }
        }
        return x;
    }

    private static int[] nine(int tone) {
        return new int[] {tone, tone, tone, tone, 100, tone, tone, tone, tone};
    }

    /** BEST's x, DIFFERENCE, SOURCES, SKIPPED, STOPPED, LOOKED. */
    private static void searched(String what, FilledHoles x, int... due) {
        int[] whats = {0, 2, 3, 4, 5, 6};
        for (int i = 0; i < whats.length; i++) {
            Check.due(what + ": search " + whats[i], due[i], x.search(13, 1, whats[i]));
        }
    }

    private static void everyDotKnown() {
        Sentences.of(TERMS, "A SOURCE for a DOT p: a DOT q whose PATCH is WHOLE, with each DOT of it KNOWN");
        for (int i = 0; i < 9; i++) {
            FilledHoles x = new FilledHoles();
            x.hole(3 + i % 3, 3 + i / 3, 3 + i % 3, 3 + i / 3);
            Check.due("with one MISSING", -1, x.difference(1, 1, 4, 4, 0));
            FilledHoles first = new FilledHoles();
            first.hole(i % 3, i / 3, i % 3, i / 3);
            Check.due("with one MISSING, in the first corner", -1, first.difference(4, 4, 1, 1, 0));
            FilledHoles last = new FilledHoles();
            last.hole(5 + i % 3, 5 + i / 3, 5 + i % 3, 5 + i / 3);
            Check.due("with one MISSING, in the last corner", -1, last.difference(1, 1, 6, 6, 0));
        }
        FilledHoles x = new FilledHoles();
        x.hole(2, 2, 6, 2);
        x.hole(2, 6, 6, 6);
        x.hole(2, 3, 2, 5);
        x.hole(6, 3, 6, 5);
        Check.due("with all around it MISSING", 0, x.difference(1, 1, 4, 4, 0));
        x.set(0, 2);
        Check.due("not by SIZE 2", -1, x.difference(1, 1, 4, 4, 0));
    }

    private static void filledInOrNot() {
        Sentences.of(TERMS, "(FROM 0: KNOWN and not filled in; FROM 1: filled in, too; 0 at first)");
        FilledHoles x = new FilledHoles();
        Check.due("FROM at first", 0, x.told(12));
        x.hole(5, 5, 5, 5);
        x.fill(1);
        Check.due("FROM 0: with one filled in", -1, x.difference(1, 1, 4, 4, 0));
        Check.due("FROM 0: beside it", 0, x.difference(1, 1, 3, 3, 0));
        x.set(2, 1);
        Check.due("FROM 1: with one filled in", 0, x.difference(1, 1, 4, 4, 0));
        x.hole(5, 5, 5, 5);
        Check.due("FROM 1: with one MISSING", -1, x.difference(1, 1, 4, 4, 0));
        x.paint(5, 5, 0);
        x.set(2, 0);
        Check.due("FROM 0: with one painted", 0, x.difference(1, 1, 4, 4, 0));
        Check.dueOf("FROM 2", BAD, () -> x.set(2, 2));
        Check.dueOf("FROM -1", BAD, () -> x.set(2, -1));
    }

    private static void byReach() {
        Sentences.of(TERMS, "q being by REACH (1 to 20; 20 at first) at most to the left or right, and up or down "
                + "of p.");
        FilledHoles x = Check.of(TextEdges.rows("20a", 20));
        Check.due("REACH at first", 20, x.told(11));
        Check.due("all of them", 324, x.search(0, 0, 3));
        Check.due("from the last corner", 0, x.difference(19, 19, 1, 1, 0));
        x.set(1, 18);
        Check.due("by 18", 0, x.difference(19, 19, 1, 1, 0));
        x.set(1, 17);
        Check.due("by 17", -1, x.difference(19, 19, 1, 1, 0));
        x.set(1, 3);
        int[][] just = {{13, 10}, {7, 10}, {10, 13}, {10, 7}, {13, 13}, {7, 7}};
        for (int[] q : just) {
            Check.due("by 3", 0, x.difference(10, 10, q[0], q[1], 0));
        }
        int[][] beyond = {{14, 10}, {6, 10}, {10, 14}, {10, 6}, {14, 13}, {7, 6}};
        for (int[] q : beyond) {
            Check.due("beyond 3", -1, x.difference(10, 10, q[0], q[1], 0));
        }
        Check.due("7 by 7", 49, x.search(10, 10, 3));
        x.set(1, 1);
        Check.due("3 by 3", 9, x.search(10, 10, 3));
        Check.due("in the corner", 1, x.search(0, 0, 3));
        Check.dueOf("REACH 0", BAD, () -> x.set(1, 0));
        Check.dueOf("REACH 21", BAD, () -> x.set(1, 21));
    }

    private static void byTurns() {
        Sentences.of(TERMS, "It is asked by WAYS 0 to 1 less than 2 to the TURNS "
                + "(TURNS 0 to 3; 0 at first; 1, 2, 4 or 8 of them):");
        FilledHoles x = new FilledHoles();
        Check.due("TURNS at first", 0, x.told(16));
        for (int turns = 0; turns <= 3; turns++) {
            x.set(4, turns);
            Check.due("pairs by TURNS " + turns, 36 << turns, x.search(0, 0, 3));
        }
        Check.dueOf("TURNS 4", BAD, () -> x.set(4, 4));
        Check.dueOf("TURNS -1", BAD, () -> x.set(4, -1));
        // the last WAY that is asked by each: 0, 1, 3, 7
        String[] shown = {"abc/def/ghi", "cba/fed/ihg", "ghi/def/abc", "gda/heb/ifc"};
        int[] ways = {0, 1, 3, 7};
        for (int turns = 0; turns <= 3; turns++) {
            String[] rows = shown[turns].split("/");
            FilledHoles y = Check.of("abc" + rows[0] + "/def" + rows[1] + "/ghi" + rows[2]);
            y.hole(4, 1, 4, 1);
            y.set(4, turns);
            Check.due("found by the last WAY", 0, y.search(4, 1, 2));
            Check.due("the last WAY", ways[turns], y.search(4, 1, 7));
            if (turns > 0) {
                y.set(4, turns - 1);
                Check.due("not found by fewer", 1, y.search(4, 1, 2) > 0 ? 1 : 0);
            }
        }
    }

    /** p (9, 2) by SIZE 2 has one DOT of 100, by 2 to the right and 1 below; q (2, 2) has it at the PLACE. */
    private static void places() {
        Sentences.of(TERMS, "the PLACE in q's PATCH for the DOT of p's PATCH that is by dx to the right of p and dy "
                + "below is by WAY 0 at (dx, dy) from q, by 1 (-dx, dy), 2 (-dx, -dy), 3 (dx, -dy), 4 (dy, dx), "
                + "5 (-dy, dx), 6 (-dy, -dx), 7 (dy, -dx).");
        int[][] place = {{2, 1}, {-2, 1}, {-2, -1}, {2, -1}, {1, 2}, {-1, 2}, {-1, -2}, {1, -2}};
        for (int way = 0; way < 8; way++) {
            FilledHoles x = Check.of(TextEdges.rows("12a", 5));
            x.set(0, 2);
            x.paint(11, 3, 100);
            x.paint(2 + place[way][0], 2 + place[way][1], 100);
            for (int other = 0; other < 8; other++) {
                Check.due("WAY " + other + " of " + way, other == way ? 0 : 20000,
                        x.difference(9, 2, 2, 2, 2 * other));
            }
        }
    }

    /** The DOT (1, 0) or (0, 0) is filled in with what its PATCH has KNOWN; q has 10 more at its PLACE. */
    private static void weights() {
        Sentences.of(TERMS, "WEIGHT of a KNOWN DOT of p's PATCH: 1, if WEIGHED (0, 1; 0 at first) is 0, "
                + "else SURE of it by 250 (cut), and 1.");
        // what is MISSING ahead of the FILL, whose SURE it is then, and the WEIGHT
        weightDue(new int[][] {{0, 0}}, 0, 0, 750, 4);
        weightDue(new int[][] {{0, 0}, {1, 0}}, 0, 0, 500, 3);
        weightDue(new int[][] {{0, 0}, {1, 0}, {1, 1}}, 0, 0, 250, 2);
        weightDue(new int[][] {{1, 0}}, 1, 0, 833, 4);
        weightDue(new int[][] {{1, 0}, {2, 0}, {1, 1}}, 1, 0, 500, 3);
        weightDue(new int[][] {{1, 0}, {2, 0}, {1, 1}, {2, 1}}, 1, 0, 333, 2);
        weightDue(new int[][] {{1, 0}, {2, 0}, {0, 1}, {1, 1}, {2, 1}}, 1, 0, 166, 1);
        weightDue(new int[][] {}, 0, 0, 1000, 5);
        justBelow750();
        FilledHoles x = new FilledHoles();
        Check.due("WEIGHED at first", 0, x.told(17));
        Check.dueOf("WEIGHED 2", BAD, () -> x.set(5, 2));
        Check.dueOf("WEIGHED -1", BAD, () -> x.set(5, -1));
    }

    /** 740 beside six of 1,000 and two MISSING ones: 748. */
    private static void justBelow750() {
        FilledHoles x = new FilledHoles();
        x.hole(3, 3, 4, 4);
        x.fill(1);
        x.hole(4, 4, 4, 4);
        x.fill(1);
        Check.due("SURE of (4, 4)", 740, x.dot(4, 4, 1));
        x.set(3, 2);
        x.hole(5, 5, 5, 5);
        x.hole(6, 6, 6, 6);
        x.fill(1);
        Check.due("SURE of (5, 5)", 748, x.dot(5, 5, 1));
        x.paint(0, 4, 10);
        x.set(5, 1);
        Check.due("WEIGHED, SURE 748", 300, x.difference(6, 6, 1, 5, 0));
    }

    private static void weightDue(int[][] missing, int atX, int atY, int sure, int weight) {
        FilledHoles x = new FilledHoles();
        for (int[] at : missing) {
            x.hole(at[0], at[1], at[0], at[1]);
        }
        // FLOW being 1 all over, the first of THE FRONT is NEXT
        x.set(3, 2);
        if (missing.length > 0) {
            x.fill(1);
        }
        Check.due("SURE", sure, x.dot(atX, atY, 1));
        x.paint(5 + atX - 1, 5 + atY - 1, 10);
        Check.due("not WEIGHED, SURE " + sure, 100, x.difference(1, 1, 5, 5, 0));
        x.set(5, 1);
        Check.due("WEIGHED, SURE " + sure, 100 * weight, x.difference(1, 1, 5, 5, 0));
    }

    private static void apart() {
        Sentences.of(TERMS, "APART, of a KNOWN DOT of p's PATCH (by a WAY): TONE less that of the DOT at its PLACE, "
                + "less SHIFT.");
        int[] one = nine(100);
        one[0] = 255;
        FilledHoles x = blocks(one, nine(0), nine(255));
        Check.due("-155, squared", 24025, x.difference(13, 1, 1, 1, 0));
        Check.due("eight times 100, squared", 80000, x.difference(13, 1, 5, 1, 0));
        Check.due("eight times -155, squared", 192200, x.difference(13, 1, 9, 1, 0));
        x.paint(1, 1, 200);
        Check.due("p, being MISSING, is not looked at", 24025, x.difference(13, 1, 1, 1, 0));
        x.set(6, 1);
        // -155 by 8, cut: -19; -136 once, 19 seven times
        Check.due("less SHIFT", 136 * 136 + 7 * 361, x.difference(13, 1, 1, 1, 0));
        Check.due("less SHIFT of 100", 0, x.difference(13, 1, 5, 1, 0));
    }

    /** By REACH 4 (9, 1) is the one SOURCE; one of its DOTS is off by what is to be shared out among eight. */
    private static void shifts() {
        Sentences.of(TERMS, "SHIFT: 0, if SHIFTED (0, 1; 0 at first) is 0; else, of all these TONE less that of the "
                + "DOT at its PLACE, times WEIGHT, together, by all WEIGHTS together (cut);");
        int[][] cut = {{7, 0}, {8, 1}, {15, 1}, {16, 2}, {100, 12}, {-7, 0}, {-8, -1}, {-15, -1}, {-16, -2},
            {-155, -19}};
        for (int[] off : cut) {
            int[] tones = nine(100);
            tones[8] = 100 - off[0];
            FilledHoles x = blocks(nine(100), nine(100), tones);
            x.set(1, 4);
            Check.due("one SOURCE", 1, x.search(13, 1, 3));
            Check.due("SHIFTED 0", 0, x.search(13, 1, 8));
            Check.due("was", 0, x.set(6, 1));
            Check.due(off[0] + " by 8", off[1], x.search(13, 1, 8));
        }
        FilledHoles x = new FilledHoles();
        Check.due("SHIFTED at first", 0, x.told(18));
        Check.dueOf("SHIFTED 2", BAD, () -> x.set(6, 2));
        Check.dueOf("SHIFTED -1", BAD, () -> x.set(6, -1));
    }

    private static void shiftsByWeights() {
        Sentences.of(TERMS, "times WEIGHT, together, by all WEIGHTS together (cut); 0 without any.");
        FilledHoles x = new FilledHoles();
        x.hole(0, 0, 0, 0);
        x.fill(1);
        x.paint(4, 4, 100);
        x.set(5, 1);
        x.set(6, 1);
        // WEIGHTS 4 and eight times 5: -400 by 44, cut: -9; so -91 once, 9 eight times
        Check.due("DIFFERENCE", 4 * 91 * 91 + 8 * 5 * 81, x.difference(1, 1, 5, 5, 0));
        Check.due("BOUND: -364 and 360, squared, by 44", 0, x.difference(1, 1, 5, 5, 1));
        x.set(6, 0);
        Check.due("not SHIFTED: DIFFERENCE", 40000, x.difference(1, 1, 5, 5, 0));
        Check.due("not SHIFTED: BOUND: 400, squared, by 44", 3636, x.difference(1, 1, 5, 5, 1));
    }

    private static void noShiftWithoutAny() {
        Sentences.of(TERMS, "0 without any.");
        FilledHoles x = new FilledHoles();
        x.hole(5, 5, 7, 7);
        x.paint(1, 1, 200);
        x.set(6, 1);
        for (int weighed = 0; weighed <= 1; weighed++) {
            x.set(5, weighed);
            // one that has some is asked ahead of it: SHIFT 22, 178 once and -22 eight times
            int apart = 178 * 178 + 8 * 22 * 22;
            Check.due("with SHIFT", weighed == 0 ? apart : 5 * apart, x.difference(1, 1, 3, 3, 0));
            Check.due("SHIFT", 0, x.search(6, 6, 8));
            x.set(6, 0);
            Check.due("BOUND of 200", weighed == 0 ? 4444 : 22222, x.difference(1, 1, 3, 3, 1));
            Check.due("BOUND then", 0, x.difference(6, 6, 1, 1, 1));
            x.set(6, 1);
            Check.due("BOUND", 0, x.difference(6, 6, 1, 1, 1));
            Check.due("DIFFERENCE", 0, x.difference(6, 6, 1, 1, 0));
            Check.due("the BEST is the first", 1, x.search(6, 6, 0));
            Check.due("all others are SKIPPED", 26, x.search(6, 6, 4));
            Check.due("LOOKED", 0, x.search(6, 6, 6));
        }
        x.set(6, 0);
        Check.due("not SHIFTED: BOUND", 0, x.difference(6, 6, 2, 2, 1));
    }

    /** (4, 4) has one KNOWN DOT in its PATCH, of 100; (1, 1) is 0 all over. */
    private static void oneAlone() {
        Sentences.of(TERMS, "by all WEIGHTS together (cut);");
        FilledHoles x = new FilledHoles();
        x.hole(3, 3, 7, 7);
        x.paint(3, 3, 100);
        Check.due("DIFFERENCE", 10000, x.difference(4, 4, 1, 1, 0));
        Check.due("BOUND: as much", 10000, x.difference(4, 4, 1, 1, 1));
        x.set(6, 1);
        Check.due("SHIFT", 100, x.search(4, 4, 8));
        Check.due("DIFFERENCE by SHIFT", 0, x.difference(4, 4, 1, 1, 0));
    }

    private static void differences() {
        Sentences.of(TERMS, "DIFFERENCE: of all these APART, squared, times WEIGHT, together.");
        FilledHoles x = Check.of(TextEdges.rows("14a", 7));
        for (int i = 0; i < 49; i++) {
            x.paint(7 + i % 7, i / 7, 255);
        }
        x.set(0, 3);
        Check.due("49 times 255, squared", 49 * 65025, x.difference(10, 3, 3, 3, 0));
        x.set(5, 1);
        Check.due("by WEIGHT 5", 245 * 65025, x.difference(10, 3, 3, 3, 0));
        x.set(6, 1);
        Check.due("none by SHIFT", 0, x.difference(10, 3, 3, 3, 0));
        Check.due("of itself", 0, x.difference(10, 3, 10, 3, 0));
    }

    private static void bounds() {
        Sentences.of(TERMS, "BOUND: of all these APART, times WEIGHT, together, squared, by all WEIGHTS together "
                + "(cut); 0 without any.");
        int[] up = nine(110);
        int[] upAndDown = {110, 90, 110, 90, 100, 110, 90, 110, 90};
        int[] seven = nine(110);
        seven[0] = 109;
        FilledHoles x = blocks(up, upAndDown, seven);
        Check.due("80, squared, by 8", 800, x.difference(13, 1, 1, 1, 1));
        Check.due("none", 0, x.difference(13, 1, 5, 1, 1));
        Check.due("79, squared, by 8 (cut)", 780, x.difference(13, 1, 9, 1, 1));
        x.set(5, 1);
        Check.due("400, squared, by 40", 4000, x.difference(13, 1, 1, 1, 1));
        Check.due("395, squared, by 40 (cut)", 3900, x.difference(13, 1, 9, 1, 1));
        FilledHoles large = Check.of(TextEdges.rows("14a", 7));
        for (int i = 0; i < 49; i++) {
            large.paint(7 + i % 7, i / 7, 255);
        }
        large.set(0, 3);
        large.set(5, 1);
        // 62,475 squared is more than an int holds
        Check.due("the greatest", 245 * 65025, large.difference(10, 3, 3, 3, 1));
    }

    private static void overAllInOrder() {
        Sentences.of(TERMS, "The SEARCH for p goes over all SOURCES in order, each by all WAYS in order "
                + "(each such pair counts as one of what follows): the first one is the BEST so far, "
                + "its DIFFERENCE reckoned to the end.");
        // the first is 155 apart all over, and LOOKED at to the end; the others are 100 apart, then not at all
        searched("each is better", blocks(nine(255), nine(0), nine(100)), 9, 0, 3, 0, 0, 24);
        searched("the first is the BEST", blocks(nine(100), nine(0), nine(255)), 1, 0, 3, 2, 0, 8);
        FilledHoles one = blocks(nine(100), nine(100), nine(255));
        one.set(1, 4);
        searched("one alone", one, 9, 192200, 1, 0, 0, 8);
        FilledHoles x = blocks(nine(255), nine(0), nine(100));
        x.set(4, 3);
        // by each WAY alike: of each SOURCE the first WAY is reckoned, the others are SKIPPED
        searched("by eight WAYS", x, 9, 0, 24, 21, 0, 24);
        Check.due("the first WAY", 0, x.search(13, 1, 7));
    }

    private static void skipped() {
        Sentences.of(TERMS, "Each next one is SKIPPED, if its BOUND is not less than the least DIFFERENCE so far;");
        int[] seven = nine(110);
        seven[8] = 100;
        // 800; BOUND 800; BOUND 612, DIFFERENCE 700
        searched("as much", blocks(nine(110), nine(110), seven), 9, 700, 3, 1, 0, 16);
        int[] just = nine(110);
        just[8] = 109;
        // 800; BOUND 780, DIFFERENCE 781; BOUND 800
        searched("less, then more", blocks(nine(110), just, nine(110)), 5, 781, 3, 1, 0, 16);
        // 0: no BOUND is less
        searched("none is less than 0", blocks(nine(100), nine(100), just), 1, 0, 3, 2, 0, 8);
        // 128 (four times 4, four times -4): BOUND 0; then 4 by 8: BOUND 128, as much
        int[] even = {104, 96, 104, 96, 100, 104, 96, 104, 96};
        searched("as much as a sum", blocks(even, nine(104), nine(105)), 1, 128, 3, 2, 0, 8);
        int[] less = nine(104);
        less[0] = 103;
        // 31, squared, by 8 (cut) is 120; DIFFERENCE 121
        searched("cut it is less", blocks(even, less, nine(104)), 5, 121, 3, 1, 0, 16);
    }

    private static void stopped() {
        Sentences.of(TERMS, "else its DIFFERENCE is reckoned, DOT by DOT in order, and it is STOPPED as soon as that "
                + "is not less than the least so far;");
        int[] even = {110, 90, 110, 90, 100, 110, 90, 110, 90};
        int[] less = {110, 90, 110, 90, 100, 110, 90, 110, 91};
        // 800; 800 at the eighth; 781
        searched("as much at the last DOT", blocks(nine(110), even, less), 9, 781, 3, 0, 1, 24);
        int[] atOnce = {130, 70, 100, 100, 100, 100, 100, 100, 100};
        int[] second = {128, 72, 100, 100, 100, 100, 100, 100, 100};
        // 800; 900 at the first; 784, then 1,568
        searched("at the first and at the second", blocks(nine(110), atOnce, second), 1, 800, 3, 0, 2, 11);
        int[] late = {100, 100, 100, 100, 100, 100, 100, 130, 70};
        int[] twenty = {120, 80, 100, 100, 100, 100, 100, 100, 100};
        // 900 at the seventh, the middle being MISSING; 400, 800: as much at the second
        searched("in order", blocks(nine(110), late, twenty), 1, 800, 3, 0, 2, 17);
    }

    private static void theBest() {
        Sentences.of(TERMS, "reckoned to the end, it is the BEST so far "
                + "(so the BEST is the first of the least DIFFERENCE).");
        int[] even = {110, 90, 110, 90, 100, 110, 90, 110, 90};
        int[] odd = {90, 110, 90, 110, 100, 90, 110, 90, 110};
        searched("alike ones", blocks(even, odd, even), 1, 800, 3, 0, 2, 24);
        searched("alike ones, then", blocks(nine(111), even, odd), 5, 800, 3, 0, 1, 24);
        searched("the least is the last", blocks(nine(103), nine(102), nine(101)), 9, 8, 3, 0, 0, 24);
    }

    private static void looked() {
        Sentences.of(TERMS, "LOOKED: DOTS by which DIFFERENCES were reckoned "
                + "(of the one at which it was STOPPED, too).");
        int[] atOnce = {130, 70, 100, 100, 100, 100, 100, 100, 100};
        searched("one, STOPPED", blocks(nine(110), atOnce, nine(111)), 1, 800, 3, 1, 1, 9);
        FilledHoles x = new FilledHoles();
        Check.due("of a KNOWN DOT with all of its PATCH", 9, x.search(4, 4, 6));
        Check.due("of a corner", 4, x.search(7, 7, 6));
        x.set(0, 3);
        Check.due("by SIZE 3", 49, x.search(4, 4, 6));
        x.hole(0, 0, 7, 7);
        Check.due("without SOURCES", 0, x.search(4, 4, 6));
    }

    private static void everyMissingOneOfThePatch() {
        Sentences.of(TERMS, "A FILL: the SEARCH for the NEXT one, p; each MISSING DOT of p's PATCH becomes KNOWN, "
                + "with the TONE of the DOT at its PLACE in the BEST one's PATCH (by the BEST WAY) and SHIFT,");
        // the corner and what is beside it MISSING: (1, 1) is NEXT, the BEST is (3, 1)
        FilledHoles x = Check.of("??cdefg/??cdefg/abcdefg/abcdefg");
        x.set(3, 1);
        Check.due("NEXT", 11, 10 * x.next(0) + x.next(1));
        Check.due("FILL", 1, x.fill(1));
        Check.due("DOTS", 4, x.log(0, 5));
        int source = x.log(0, 2);
        for (int i = 0; i < 4; i++) {
            Check.due("TONE", 10 * (source - 1 + i % 2), x.dot(i % 2, i / 2, 0));
            Check.due("x of the PARENT", source - 1 + i % 2, x.dot(i % 2, i / 2, 3));
            Check.due("y of the PARENT", x.log(0, 3) - 1 + i / 2, x.dot(i % 2, i / 2, 4));
        }
        FilledHoles turned = Check.of("abccba/deffed/ghiihg");
        turned.hole(4, 1, 5, 1);
        turned.set(3, 1);
        turned.set(4, 1);
        turned.fill(1);
        Check.due("by WAY 1", 1, turned.log(0, 7));
        Check.due("(4, 1) is of (1, 1)", 40, turned.dot(4, 1, 0));
        Check.due("(5, 1) is of (0, 1)", 30, turned.dot(5, 1, 0));
        Check.due("x of its PARENT", 0, turned.dot(5, 1, 3));
        Check.due("y of its PARENT", 1, turned.dot(5, 1, 4));
        FilledHoles beyond = new FilledHoles();
        beyond.hole(0, 0, 7, 0);
        beyond.fill(1);
        Check.due("what the PICTURE has, alone", 8 - beyond.log(0, 5), beyond.told(3));
        Check.due("by SIZE 1 three at most", 1, beyond.log(0, 5) <= 3 ? 1 : 0);
    }

    private static void tonesWithinTheirLimits() {
        Sentences.of(TERMS, "0 at least, 255 at most, that DOT being its PARENT;");
        int[][] high = {{154, 254}, {155, 255}, {156, 255}, {255, 255}};
        for (int[] tone : high) {
            FilledHoles x = Check.of("3a3k/aaak?k/3a3k");
            x.paint(1, 1, tone[0]);
            x.set(6, 1);
            x.fill(1);
            Check.due("SHIFT", 100, x.log(0, 8));
            Check.due(tone[0] + " and 100", tone[1], x.dot(4, 1, 0));
            Check.due("PARENT", 1, x.dot(4, 1, 3));
        }
        int[][] low = {{101, 1}, {100, 0}, {99, 0}, {0, 0}};
        for (int[] tone : low) {
            FilledHoles x = Check.of("3k3a/kkka?a/3k3a");
            x.paint(1, 1, tone[0]);
            x.set(6, 1);
            x.fill(1);
            Check.due("SHIFT", -100, x.log(0, 8));
            Check.due(tone[0] + " less 100", tone[1], x.dot(4, 1, 0));
        }
    }

    private static void sureAsItWas() {
        Sentences.of(TERMS, "its SURE is STEADY of p, as it was.");
        FilledHoles x = new FilledHoles();
        x.hole(3, 3, 4, 4);
        x.fill(1);
        for (int i = 0; i < 4; i++) {
            Check.due("5,000 by 9, of all alike", 555, x.dot(3 + i % 2, 3 + i / 2, 1));
        }
        x.hole(4, 4, 4, 4);
        x.fill(1);
        // five times 1,000 and three times 555, by 9
        Check.due("6,665 by 9", 740, x.dot(4, 4, 1));
    }

    private static void noFill() {
        Sentences.of(TERMS, "Without a SOURCE (or without THE FRONT) there is no FILL.");
        FilledHoles known = new FilledHoles();
        Check.due("nothing MISSING", 0, known.fill(60));
        FilledHoles missing = new FilledHoles();
        missing.hole(0, 0, 7, 7);
        Check.due("nothing KNOWN", 0, missing.fill(60));
        Check.due("all are MISSING", 64, missing.told(3));
        FilledHoles none = Check.of("5a/5a/2a?2a/5a/5a");
        Check.due("no SOURCE", 0, none.fill(60));
        Check.due("FILLS", 0, none.told(7));
        none.hole(0, 0, 4, 1);
        none.paint(2, 2, 0);
        Check.due("three SOURCES below", 3, none.search(2, 1, 3));
        Check.due("a FILL", 1, none.fill(1));
    }
}
