/** The edges that "Terms", ==== 3. and ==== 4., names: HALVES and what they guide, PARTS, ORIGINS, TRUTH. */
final class GuidedEdges {
    private static final String TERMS = "Terms";
    /** W 12, H 6: to the left a chequer of 0 and 20, to the right 10 all over; HALF is 10 all over. */
    static final String CHEQUER = "acacac6b/cacaca6b/acacac6b/cacaca6b/acacac6b/cacaca6b";

    private GuidedEdges() {
    }

    static void run() {
        sidesOfAHalf();
        dotsOfAHalf();
        missingInAHalf();
        noneIsFilledIn();
        sureInAHalf();
        filledByTheSettings();
        guidedByItsOwnHalf();
        threeByThreeAtLeast();
        whereHalfPoints();
        whereHalfPointsInAll();
        whateverReachIs();
        pointingToNone();
        notFilledInThere();
        parts();
        origins();
        truth();
        flaws();
        flawsOfMissingOnes();
        askedNothingStays();
    }

    private static void sidesOfAHalf() {
        Sentences.of(TERMS, "GUIDED by a coarser PICTURE: HALF of a PICTURE: W and 1 by 2 (cut), H likewise;");
        int[][] sides = {{5, 3}, {6, 3}, {7, 4}, {8, 4}, {19, 10}, {20, 10}};
        for (int[] side : sides) {
            FilledHoles wide = Check.of(TextEdges.rows(side[0] + "b", 5));
            Check.due("the last x", 10, wide.half(1, side[1] - 1, 2));
            Check.due("beyond", -2, wide.half(1, side[1], 2));
            Check.due("the last y", 10, wide.half(1, 0, 2));
            Check.due("beyond", -2, wide.half(1, 0, 3));
            FilledHoles high = Check.of(TextEdges.rows("5b", side[0]));
            Check.due("the last y", 10, high.half(1, 2, side[1] - 1));
            Check.due("beyond", -2, high.half(1, 2, side[1]));
        }
    }

    private static void dotsOfAHalf() {
        Sentences.of(TERMS, "each DOT of it: TONES of the KNOWN ones of its two by two DOTS (as many as the PICTURE "
                + "has) together, by how many these are (cut);");
        FilledHoles x = Check.of("5a/5a/5a/5a/5a");
        x.paint(0, 0, 255);
        x.paint(1, 0, 254);
        x.paint(0, 1, 253);
        Check.due("four: 762 by 4", 190, x.half(1, 0, 0));
        x.hole(1, 1, 1, 1);
        Check.due("three: 762 by 3", 254, x.half(1, 0, 0));
        x.hole(0, 0, 0, 0);
        Check.due("two: 507 by 2", 253, x.half(1, 0, 0));
        x.hole(1, 0, 1, 0);
        Check.due("one", 253, x.half(1, 0, 0));
        x.paint(4, 0, 7);
        Check.due("at the edge to the right two: 7 by 2", 3, x.half(1, 2, 0));
        x.paint(1, 4, 9);
        Check.due("at the edge below two: 9 by 2", 4, x.half(1, 0, 2));
        x.paint(4, 4, 11);
        Check.due("in the corner one", 11, x.half(1, 2, 2));
        Check.due("no others count", 0, x.half(1, 1, 1));
    }

    private static void missingInAHalf() {
        Sentences.of(TERMS, "MISSING without any.");
        FilledHoles x = Check.of("5b/5b/5b/5b/5b");
        x.hole(0, 0, 1, 1);
        Check.due("four MISSING", -1, x.half(1, 0, 0));
        x.hole(4, 2, 4, 3);
        Check.due("two at the edge", -1, x.half(1, 2, 1));
        x.hole(4, 4, 4, 4);
        Check.due("one in the corner", -1, x.half(1, 2, 2));
        x.hole(2, 2, 3, 2);
        Check.due("two of four", 10, x.half(1, 1, 1));
    }

    /** What is filled in in the PICTURE is a SOURCE in HALF by FROM 0, too: so HALF points to (1, 1) as ever. */
    private static void noneIsFilledIn() {
        Sentences.of(TERMS, "none is filled in.)");
        FilledHoles x = Check.of(CHEQUER);
        x.hole(0, 0, 1, 1);
        Check.due("one FILL", 1, x.fill(1));
        Check.due("filled in", 4, x.told(4));
        Check.due("HALF is 10 there, too", 10, x.half(1, 0, 0));
        x.hole(10, 2, 11, 3);
        Check.due("GUIDED", 1, x.guide(1));
        // of x 1 to 4 and y 1 to 4 (3, 1) is the first without one filled in; (6, 1) would be better, by 300
        Check.due("x of the BEST", 3, x.log(0, 2));
        Check.due("y of the BEST", 1, x.log(0, 3));
        Check.due("DIFFERENCE", 500, x.log(0, 4));
    }

    /**
     * HALF, 6 by 3, WEIGHED: its DOT (4, 0), filled in in the PICTURE, is in the PATCH of (5, 1), and as SURE there as
     * all others; so (2, 1), off by 13 at (2, 0), is as good as (3, 1), off by 13 at the PLACE of (4, 0).
     */
    private static void sureInAHalf() {
        Sentences.of(TERMS, "(SURE 1,000 or 0;");
        FilledHoles x = Check.of("12b/12b/12b/12b/12b/12b");
        x.set(5, 1);
        x.hole(8, 0, 9, 1);
        x.fill(60);
        Check.due("filled in", 4, x.told(4));
        for (int i = 0; i < 4; i++) {
            x.paint(i % 2, i / 2, 30);
            x.paint(4 + i % 2, i / 2, 23);
        }
        x.hole(10, 2, 11, 3);
        Check.due("HALF", 30, x.half(1, 0, 0));
        Check.due("HALF", 23, x.half(1, 2, 0));
        Check.due("GUIDED", 1, x.guide(1));
        // where (2, 1) points (3, 1) is as (10, 3) has it; where (3, 1) points (5, 3) would be
        Check.due("x of the BEST", 3, x.log(0, 2));
        Check.due("y of the BEST", 1, x.log(0, 3));
    }

    private static void filledByTheSettings() {
        Sentences.of(TERMS, "It is filled by FILLS, as far as that goes (SIZE, REACH, FROM, RANKED, TURNS, WEIGHED, "
                + "SHIFTED as they are;");
        FilledHoles x = Check.of(CHEQUER);
        x.hole(10, 2, 11, 3);
        x.guide(1);
        Check.due("as it is by SIZE 1", 500, x.log(0, 4));
        x.undo();
        x.set(0, 2);
        x.guide(1);
        // in 3 ROWS no PATCH by SIZE 2 is WHOLE: h is not filled in, so all SOURCES are asked
        int plain = x.log(0, 4);
        x.undo();
        x.fill(60);
        Check.due("by SIZE 2 as without HALF", x.log(0, 4), plain);
        x.undo();
        x.set(0, 1);
        x.set(1, 1);
        Check.due("by REACH 1 nothing is in reach of (5, 1) of HALF, nor of (10, 2)", 0, x.guide(1));
        x.set(1, 2);
        x.guide(1);
        // (3, 1) of HALF alone is in reach of (5, 1)
        Check.due("by REACH 2", 7, x.log(0, 2));
    }

    /** Chequers of two by two show in HALF, not in HALF of that: only at LEVELS 2 they mislead. */
    private static void guidedByItsOwnHalf() {
        Sentences.of(TERMS, "at LEVELS 2 being GUIDED itself by its own HALF, that has been filled so).");
        StringBuilder text = new StringBuilder();
        for (int y = 0; y < 10; y++) {
            text.append(y == 0 ? "" : "/").append(y / 2 % 2 == 0 ? "2a2c2a2c2a2c8b" : "2c2a2c2a2c2a8b");
        }
        FilledHoles x = Check.of(text.toString());
        x.keep();
        x.hole(16, 4, 19, 7);
        Check.due("at LEVELS 1 right", 0, x.flawBy(1));
        Check.due("at LEVELS 2 misled", 1, x.flawBy(2) > 0 ? 1 : 0);
        x.guide(2);
        Check.due("by the chequer", 1, x.dot(16, 4, 3) < 12 ? 1 : 0);
        x.undo();
        x.guide(1);
        Check.due("not by the chequer", 1, x.dot(16, 4, 3) >= 12 ? 1 : 0);
    }

    private static void threeByThreeAtLeast() {
        Sentences.of(TERMS, "HALF is such only if it has 3 by 3 DOTS at least.");
        Check.due("5 by 5", 10, Check.of(TextEdges.rows("5b", 5)).half(1, 0, 0));
        Check.due("4 by 5", -2, Check.of(TextEdges.rows("4b", 5)).half(1, 0, 0));
        Check.due("5 by 4", -2, Check.of(TextEdges.rows("5b", 4)).half(1, 0, 0));
        Check.due("20 by 4", -2, Check.of(TextEdges.rows("20b", 4)).half(1, 0, 0));
        Check.due("3 by 3", -2, Check.of(TextEdges.rows("3b", 3)).half(1, 0, 0));
        Check.due("9 by 9, twice", 10, Check.of(TextEdges.rows("9b", 9)).half(2, 0, 0));
        Check.due("8 by 9, twice", -2, Check.of(TextEdges.rows("8b", 9)).half(2, 0, 0));
        Check.due("9 by 8, twice", -2, Check.of(TextEdges.rows("9b", 8)).half(2, 0, 0));
        Check.due("20 by 8, twice", -2, Check.of(TextEdges.rows("20b", 8)).half(2, 0, 0));
        // a HALF of 6 by 2 would point to the chequer
        FilledHoles x = Check.of("acacac6b/cacaca6b/acacac6b/cacaca6b");
        x.hole(10, 2, 11, 3);
        x.guide(2);
        Check.due("without HALF all SOURCES are asked", 0, x.log(0, 4));
        FilledHoles then = Check.of(CHEQUER);
        then.hole(10, 2, 11, 3);
        then.guide(1);
        Check.due("with HALF", 500, then.log(0, 4));
        then.undo();
        then.fill(60);
        Check.due("plain FILLS then are not GUIDED by it", 0, then.log(0, 4));
        then.undo();
        then.guide(1);
        int n = Check.feed(then, "acacac6b/cacaca6b/acacac4b??/cacaca4b??");
        then.text(n);
        then.guide(2);
        Check.due("nor is a PICTURE without HALF", 0, then.log(0, 4));
    }

    /**
     * 110 all over in HALF but for its first ROW and column, so HALF points from (8, 2) to (2, 2). To the left a
     * chequer of 100 and 120, in which just q is as 110 all over as the surroundings of (16, 4) are.
     */
    private static FilledHoles pointed(int qx, int qy) {
        String even = "/uukmkmkmkm10l";
        String odd = "/uumkmkmkmk10l";
        FilledHoles x = Check.of("20u/20u" + (even + odd).repeat(4));
        int[][] five = {{-1, -1}, {0, -1}, {1, -1}, {-1, 0}, {-1, 1}};
        for (int[] step : five) {
            x.paint(qx + step[0], qy + step[1], 110);
        }
        for (int i = 0; i < 16; i++) {
            balance(x, 1 + i % 4, 1 + i / 4);
        }
        x.hole(16, 4, 17, 5);
        return x;
    }

    /** One DOT that is not 110 is so changed that HALF has 110 there. */
    private static void balance(FilledHoles x, int column, int row) {
        int off = 440;
        int free = -1;
        for (int i = 0; i < 4; i++) {
            int tone = x.dot(2 * column + i % 2, 2 * row + i / 2, 0);
            off -= tone;
            free = tone != 110 ? i : free;
        }
        if (off != 0 && free >= 0) {
            int tone = x.dot(2 * column + free % 2, 2 * row + free / 2, 0);
            x.paint(2 * column + free % 2, 2 * row + free / 2, tone + off);
        }
    }

    private static void whereHalfPoints() {
        Sentences.of(TERMS, "FILLS of the PICTURE GUIDED by it: for p at (x, y) be h the DOT (x by 2, y by 2) (cut) "
                + "of HALF: if that was filled in there, with the PARENT (u, v):");
        FilledHoles x = pointed(4, 4);
        for (int i = 0; i < 50; i++) {
            int due = i == 28 ? -1 : i < 10 || i % 10 == 0 ? 200 : 110;
            Check.due("HALF (" + i % 10 + ", " + i / 10 + ")", due, x.half(1, i % 10, i / 10));
        }
        Check.due("NEXT: x", 16, x.next(0));
        Check.due("NEXT: y", 4, x.next(1));
        Check.due("GUIDED", 1, x.guide(1));
        Check.due("x of the BEST", 4, x.log(0, 2));
        Check.due("y of the BEST", 4, x.log(0, 3));
        Check.due("DIFFERENCE", 0, x.log(0, 4));
    }

    private static void whereHalfPointsInAll() {
        Sentences.of(TERMS, "of the DOTS from 2 u less 1 to 2 u and 2, 2 v less 1 to 2 v and 2, in order, only those "
                + "are asked (by all WAYS) that are SOURCES for p (whatever REACH is);");
        int[][] within = {{3, 4}, {6, 4}, {4, 3}, {4, 6}, {3, 3}, {6, 6}, {5, 5}};
        for (int[] q : within) {
            FilledHoles x = pointed(q[0], q[1]);
            x.guide(1);
            Check.due("within: x of the BEST, " + q[0] + " " + q[1], q[0], x.log(0, 2));
            Check.due("within: y of the BEST, " + q[0] + " " + q[1], q[1], x.log(0, 3));
            Check.due("within: DIFFERENCE", 0, x.log(0, 4));
        }
        int[][] beyond = {{2, 4}, {4, 2}, {7, 4}, {4, 7}, {7, 7}};
        for (int[] q : beyond) {
            FilledHoles x = pointed(q[0], q[1]);
            Check.due("it is as good", 0, x.difference(16, 4, q[0], q[1], 0));
            x.guide(1);
            Check.due("beyond: DIFFERENCE, " + q[0] + " " + q[1], 1, x.log(0, 4) > 0 ? 1 : 0);
            Check.due("beyond: asked are", 1, isAsked(x) ? 1 : 0);
        }
        // by all WAYS: turned about, (4, 4) is as good with what is to its right and below
        FilledHoles turned = pointed(4, 4);
        turned.set(4, 3);
        turned.guide(1);
        Check.due("by all WAYS", 0, turned.log(0, 4));
    }

    private static boolean isAsked(FilledHoles x) {
        return x.log(0, 2) >= 3 && x.log(0, 2) <= 6 && x.log(0, 3) >= 3 && x.log(0, 3) <= 6;
    }

    private static void whateverReachIs() {
        Sentences.of(TERMS, "(whatever REACH is);");
        FilledHoles x = Check.of(CHEQUER);
        x.hole(10, 2, 11, 3);
        x.set(1, 2);
        // HALF points from (5, 1) by 2 to (3, 1), so x 5 to 8 are asked, by 5 from (10, 2)
        Check.due("plain: the BEST by 2", 8, x.next(3));
        x.guide(1);
        Check.due("GUIDED: (7, 1), by 3", 7, x.log(0, 2));
        x.undo();
        x.set(1, 3);
        Check.due("plain: the BEST by 3", 7, x.next(3));
    }

    private static void pointingToNone() {
        Sentences.of(TERMS, "if there are none, or h was not filled in, all SOURCES, as ever.");
        FilledHoles x = Check.of("12b/12b/12b/12b/12b/12b");
        x.hole(10, 2, 11, 3);
        x.hole(1, 1, 1, 1);
        x.hole(4, 1, 4, 1);
        x.hole(1, 4, 1, 4);
        x.hole(4, 4, 4, 4);
        Check.due("FILLS", 5, x.guide(1));
        Check.due("the last", 10, x.log(0, 0));
        Check.due("the first of all SOURCES", 61, 10 * x.log(0, 2) + x.log(0, 3));
        x.undo();
        x.set(2, 1);
        x.guide(1);
        Check.due("FROM 1 there are some where HALF points", 11, 10 * x.log(0, 2) + x.log(0, 3));
    }

    private static void notFilledInThere() {
        Sentences.of(TERMS, "or h was not filled in, all SOURCES, as ever.");
        FilledHoles x = Check.of(CHEQUER);
        x.hole(10, 2, 11, 2);
        // h, (5, 1), is KNOWN by (10, 3), (11, 3)
        Check.due("h is KNOWN", 10, x.half(1, 5, 1));
        x.guide(1);
        Check.due("DIFFERENCE", 0, x.log(0, 4));
        Check.due("the BEST of all", 7, x.log(0, 2));
        x.undo();
        x.hole(10, 3, 11, 3);
        Check.due("h is MISSING", -1, x.half(1, 5, 1));
        x.guide(1);
        Check.due("where HALF points", 500, x.log(0, 4));
    }

    private static void parts() {
        Sentences.of(TERMS, "PARTS: MISSING DOTS that hang together (left, right, above, below), numbered in order of "
                + "their first ones.");
        FilledHoles none = new FilledHoles();
        Check.due("none", 0, none.told(6));
        none.hole(0, 0, 7, 7);
        Check.due("all in one", 1, none.told(6));
        Check.due("of 64", 64, none.part(0, 0));
        FilledHoles aslant = Check.of("?aa/a?a/aa?");
        Check.due("aslant they do not hang together", 3, aslant.told(6));
        FilledHoles row = Check.of("aa?/?aa/aaa");
        Check.due("nor round the edge", 2, row.told(6));
        // two arms that hang together below; between them, one of its own, whose first one is ahead of none of theirs
        FilledHoles arms = Check.of("?a?a?/?aaa?/?????/aaaaa/aaaa?");
        Check.due("arms", 3, arms.told(6));
        Check.due("the left arm", 0, arms.dot(0, 0, 7));
        Check.due("the right arm", 0, arms.dot(4, 0, 7));
        Check.due("between them", 1, arms.dot(2, 0, 7));
        Check.due("below", 2, arms.dot(4, 4, 7));
        FilledHoles most = Check.of(TextEdges.rows("a?a?a?a?a?a?a?", 20));
        Check.due("seven in columns", 7, most.told(6));
        FilledHoles chequer = Check.of("a?a?a?a?/?a?a?a?a/a?a?a?a?");
        Check.due("as many as DOTS", 12, chequer.told(6));
        Check.due("the last", 11, chequer.dot(7, 2, 7));
    }

    private static void origins() {
        Sentences.of(TERMS, "ORIGIN of a DOT, given to it as it is filled in: its PARENT, if that was not filled in, "
                + "else the ORIGIN of that.");
        FilledHoles x = Check.of("7b/7b/7b");
        x.set(2, 1);
        x.set(1, 2);
        x.hole(3, 1, 3, 1);
        x.fill(1);
        Check.due("PARENT", 1, x.dot(3, 1, 3));
        Check.due("the PARENT is the ORIGIN", 1, x.dot(3, 1, 5));
        x.hole(5, 1, 5, 1);
        x.fill(1);
        Check.due("PARENT, filled in", 3, x.dot(5, 1, 3));
        Check.due("the ORIGIN of that", 1, x.dot(5, 1, 5));
        x.hole(1, 1, 1, 1);
        x.fill(1);
        // (3, 1) is the first SOURCE for (1, 1) by REACH 2
        Check.due("PARENT of (1, 1)", 3, x.dot(1, 1, 3));
        Check.due("the ORIGIN of that is itself", 1, x.dot(1, 1, 5));
        x.hole(3, 1, 3, 1);
        Check.due("PARENT stays, though MISSING", 3, x.dot(5, 1, 3));
        Check.due("ORIGIN stays as given", 1, x.dot(5, 1, 5));
        x.paint(3, 1, 10);
        x.hole(5, 1, 5, 1);
        x.fill(1);
        Check.due("PARENT, painted", 3, x.dot(5, 1, 3));
        Check.due("is the ORIGIN", 3, x.dot(5, 1, 5));
    }

    private static void truth() {
        Sentences.of(TERMS, "TRUTH: a PICTURE that was kept (see keep()).");
        FilledHoles x = Check.of("7a/7a/7a");
        Check.due("none", 0, x.told(14));
        x.keep();
        x.paint(5, 1, 30);
        x.hole(5, 1, 5, 1);
        x.fill(1);
        Check.due("as it was kept", 0, x.flaw());
        x.undo();
        x.paint(5, 1, 30);
        x.keep();
        x.hole(5, 1, 5, 1);
        x.fill(1);
        Check.due("as it was kept later", 900, x.flaw());
    }

    private static void flaws() {
        Sentences.of(TERMS, "FLAW: of all DOTS that were filled in TONE less that of TRUTH, squared, together");
        FilledHoles x = Check.of("9a/9a/9a");
        x.paint(5, 1, 255);
        x.paint(7, 0, 3);
        x.keep();
        Check.due("none filled in", 0, x.flaw());
        x.hole(5, 1, 5, 1);
        x.fill(1);
        Check.due("255, squared", 65025, x.flaw());
        x.hole(7, 0, 7, 0);
        x.fill(1);
        Check.due("and 3, squared", 65034, x.flaw());
        x.paint(0, 0, 99);
        Check.due("not of painted ones", 65034, x.flaw());
        x.hole(5, 1, 5, 1);
        Check.due("nor of MISSING ones", 9, x.flaw());
        FilledHoles corners = new FilledHoles();
        corners.paint(0, 0, 5);
        corners.paint(7, 7, 2);
        corners.keep();
        corners.hole(0, 0, 0, 0);
        corners.hole(7, 7, 7, 7);
        corners.fill(60);
        Check.due("the first DOT and the last", 29, corners.flaw());
    }

    private static void flawsOfMissingOnes() {
        Sentences.of(TERMS, "(of those that TRUTH has MISSING, none).");
        FilledHoles x = Check.of("9b/6b?2b/9b");
        x.keep();
        x.fill(1);
        Check.due("it is filled in", 1, x.told(4));
        Check.due("no FLAW", 0, x.flaw());
        x.paint(4, 2, 0);
        x.hole(4, 2, 4, 2);
        x.fill(1);
        Check.due("filled in as it was", 0, x.flaw());
    }

    private static void askedNothingStays() {
        Sentences.of(TERMS, "Asked, nothing stays changed. \"In thought\" what is to be done is done, and told, and "
                + "is not so then.");
        FilledHoles twin = Refusals.busy();
        String due = State.of(twin);
        int dueUndo = twin.undo();
        String dueThen = State.of(twin);
        Refusals.Act[] asking = {
            x -> x.told(5), x -> x.told(6), x -> x.dot(5, 3, 7), x -> x.rank(5, 3, 6), x -> x.next(6),
            x -> x.search(5, 3, 8), x -> x.difference(5, 3, 1, 1, 15), x -> x.front(0, 2), x -> x.part(0, 5),
            x -> x.ring(0, 3), x -> x.log(0, 8), x -> x.half(1, 1, 1), x -> x.ahead(60, 0), x -> x.ahead(1, 3),
            x -> x.flaw(), x -> x.flawBy(0), x -> x.flawBy(1), x -> x.flawBy(2), x -> x.tune(0), x -> x.tune(2),
            x -> x.reach(5, 3, 0), x -> x.reach(5, 3, 1), x -> x.seams(0), x -> x.favourite(0), x -> x.turning(0),
            x -> x.turning(1), x -> x.lent(1, 1), x -> x.print(), x -> x.status(0), x -> x.fault()};
        for (int i = 0; i < asking.length; i++) {
            FilledHoles x = Refusals.busy();
            Refusals.Act act = asking[i];
            long first = Check.answer(() -> act.on(x));
            Check.same("asked " + i + ", nothing stays changed", due, State.of(x));
            Check.dueOf("asked " + i + " again", first, () -> act.on(x));
            Check.due("undo after " + i, dueUndo, x.undo());
            Check.same("asked " + i + ", taken back", dueThen, State.of(x));
        }
    }
}
