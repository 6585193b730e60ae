/** The edges that "Terms", ==== 2., names up to the DOT that is NEXT. */
final class RankEdges {
    private static final String TERMS = "Terms";

    private RankEdges() {
    }

    static void run() {
        sure();
        sureAsItWasGiven();
        theFront();
        ofAnyMissingOne();
        steady();
        slopesNotAtTheEdges();
        slopesWithKnownOnesAround();
        slopesBySides();
        theSteepest();
        withoutSlopes();
        outward();
        outwardUpAndDown();
        whatThePictureDoesNotHave();
        flow();
        ranked();
        theNextOne();
    }

    private static void sure() {
        Sentences.of(TERMS, "SURE of a DOT: 1,000, if it is KNOWN, 0, if it is MISSING;");
        FilledHoles x = Check.of("aaaa/a?aa/aaaa");
        Check.due("KNOWN", 1000, x.dot(0, 0, 1));
        Check.due("MISSING", 0, x.dot(1, 1, 1));
        x.paint(1, 1, 0);
        Check.due("painted", 1000, x.dot(1, 1, 1));
        x.hole(0, 0, 0, 0);
        Check.due("of a HOLE", 0, x.dot(0, 0, 1));
    }

    private static void sureAsItWasGiven() {
        Sentences.of(TERMS, "of one that was filled in what it was given then.");
        FilledHoles x = new FilledHoles();
        x.hole(4, 4, 4, 4);
        x.fill(1);
        Check.due("8,000 by 9", 888, x.dot(4, 4, 1));
        x.hole(5, 5, 5, 5);
        Check.due("with one MISSING beside it", 888, x.dot(4, 4, 1));
        x.set(0, 2);
        Check.due("by another SIZE", 888, x.dot(4, 4, 1));
        x.set(0, 1);
        x.fill(1);
        // 7 times 1,000 and 888, by 9
        Check.due("of the one beside it", 876, x.dot(5, 5, 1));
        Check.due("as given", 888, x.dot(4, 4, 1));
    }

    private static void theFront() {
        Sentences.of(TERMS, "THE FRONT: all MISSING DOTS that have a KNOWN one next to them "
                + "(left, right, above or below), in order.");
        FilledHoles x = new FilledHoles();
        Check.due("nothing MISSING", 0, x.told(5));
        x.hole(0, 0, 7, 7);
        Check.due("nothing KNOWN", 0, x.told(5));
        x.paint(3, 3, 1);
        int[][] beside = {{3, 2}, {2, 3}, {4, 3}, {3, 4}};
        Check.due("one KNOWN: four", 4, x.told(5));
        for (int k = 0; k < 4; k++) {
            Check.due("of THE FRONT", 1, x.dot(beside[k][0], beside[k][1], 8));
        }
        Check.due("not aslant", 0, x.dot(2, 2, 8) + x.dot(4, 2, 8) + x.dot(2, 4, 8) + x.dot(4, 4, 8));
        Check.due("not by two", 0, x.dot(1, 3, 8) + x.dot(5, 3, 8) + x.dot(3, 1, 8) + x.dot(3, 5, 8));
        Check.due("not the KNOWN one", 0, x.dot(3, 3, 8));
        x.hole(3, 3, 3, 3);
        x.paint(7, 7, 1);
        Check.due("one KNOWN in a corner: two", 2, x.told(5));
        Check.due("the ROW does not go on", 0, x.dot(0, 7, 8));
        x.paint(0, 0, 1);
        Check.due("two corners: four", 4, x.told(5));
        FilledHoles corners = new FilledHoles();
        corners.hole(0, 0, 0, 0);
        Check.due("the first DOT", 1, corners.told(5));
        corners.hole(7, 7, 7, 7);
        Check.due("and the last", 2, corners.told(5));
        FilledHoles y = Check.of("8a/8a/8a/8a/5a3?/5a3?/5a3?");
        Check.due("five of nine", 5, y.told(5));
        // (5, 4) gives (5, 4), (6, 4), (5, 5), (6, 5); of the other five (7, 6) has none of these beside it
        y.fill(1);
        Check.due("beside what was filled in", 4, y.told(5));
        Check.due("beside none", 0, y.dot(7, 6, 8));
    }

    private static void ofAnyMissingOne() {
        Sentences.of(TERMS, "Of a DOT of THE FRONT (and of any MISSING one likewise):");
        FilledHoles x = Check.of("8z/8a/8a/5a3?/5a3?/5a3?/8a");
        // (6, 4) has nothing but MISSING ones in its PATCH, by SIZE 2 sixteen DOTS are KNOWN of 5 by 5, less the edge
        Check.due("not of THE FRONT", 0, x.dot(6, 4, 8));
        Check.due("STEADY", 0, x.rank(6, 4, 0));
        Check.due("FLOW", 1, x.rank(6, 4, 5));
        Check.due("RANK", 0, x.rank(6, 4, 6));
        x.set(0, 2);
        // x 4 to 7, y 2 to 6: above four, below four, to the left three, of 20
        Check.due("STEADY by SIZE 2", 550, x.rank(6, 4, 0));
        Check.due("RANK by SIZE 2", 550, x.rank(6, 4, 6));
    }

    private static void steady() {
        Sentences.of(TERMS, "STEADY: SURE of all DOTS of its PATCH together, by how many these are (cut).");
        FilledHoles x = new FilledHoles();
        x.hole(4, 4, 4, 4);
        x.hole(0, 0, 0, 0);
        x.hole(4, 0, 4, 0);
        x.hole(7, 4, 7, 4);
        x.hole(7, 7, 7, 7);
        Check.due("8,000 by 9", 888, x.rank(4, 4, 0));
        Check.due("3,000 by 4", 750, x.rank(0, 0, 0));
        Check.due("5,000 by 6", 833, x.rank(4, 0, 0));
        Check.due("5,000 by 6", 833, x.rank(7, 4, 0));
        Check.due("3,000 by 4", 750, x.rank(7, 7, 0));
        x.hole(0, 0, 7, 7);
        Check.due("0 by 9", 0, x.rank(4, 4, 0));
        Check.due("0 by 4", 0, x.rank(0, 0, 0));
        x.paint(1, 1, 0);
        Check.due("1,000 by 9", 111, x.rank(2, 2, 0));
        Check.due("1,000 by 4", 250, x.rank(0, 0, 0));
    }

    private static void slopesNotAtTheEdges() {
        Sentences.of(TERMS, "SLOPE: of each KNOWN DOT of its PATCH that is not at the PICTURE's edges,");
        // along each edge TONES differ, but no SLOPE is there; one DOT inwards there is one, of 200 across the edge
        FilledHoles top = Check.of("a?aaaaaa/8a/8a/8a");
        top.paint(0, 0, 200);
        top.paint(2, 0, 200);
        Check.due("top: gx", 0, top.rank(1, 0, 1));
        Check.due("top: gy at (2, 1)", -200, top.rank(1, 0, 2));
        FilledHoles left = Check.of("4a/?3a/4a/4a/4a");
        left.paint(0, 0, 200);
        left.paint(0, 2, 200);
        Check.due("left: gy", 0, left.rank(0, 1, 2));
        Check.due("left: gx at (1, 2)", -200, left.rank(0, 1, 1));
        FilledHoles bottom = Check.of("8a/8a/8a/6a?a");
        bottom.paint(7, 3, 200);
        bottom.paint(5, 3, 200);
        Check.due("bottom: gx", 0, bottom.rank(6, 3, 1));
        Check.due("bottom: gy at (5, 2)", 200, bottom.rank(6, 3, 2));
        FilledHoles right = Check.of("4a/4a/4a/3a?/4a");
        right.paint(3, 4, 200);
        right.paint(3, 2, 200);
        Check.due("right: gy", 0, right.rank(3, 3, 2));
        Check.due("right: gx at (2, 2)", 200, right.rank(3, 3, 1));
        // what is beyond the end of a ROW is not the next one's first DOT, nor the other way round
        FilledHoles ends = Check.of("u5a/u5a/u3a?a/u5a/u5a");
        Check.due("the right edge: gx", 0, ends.rank(4, 2, 1));
        FilledHoles starts = Check.of("5au/5au/a?3au/5au/5au");
        Check.due("the left edge: gx", 0, starts.rank(1, 2, 1));
        FilledHoles least = Check.of("az?/aza/aza");
        // (1, 1) alone is not at the edges
        Check.due("3 by 3: gx", 0, least.rank(2, 0, 1));
        least.paint(2, 1, 70);
        Check.due("3 by 3: gx at (1, 1)", 70, least.rank(2, 0, 1));
    }

    /** (4, 4) has a SLOPE of 100; with any of the five DOTS MISSING it has none. */
    private static void slopesWithKnownOnesAround() {
        Sentences.of(TERMS, "and has KNOWN ones to the left, right, above and below, (gx, gy):");
        int[][] needed = {{4, 4}, {3, 4}, {5, 4}, {4, 3}, {4, 5}};
        for (int[] hole : needed) {
            FilledHoles x = new FilledHoles();
            x.hole(3, 3, 3, 3);
            x.paint(5, 4, 100);
            Check.due("gx at (4, 4)", 100, x.rank(3, 3, 1));
            x.hole(hole[0], hole[1], hole[0], hole[1]);
            Check.due("without (" + hole[0] + ", " + hole[1] + ")", 0, x.rank(3, 3, 1));
        }
        int[][] free = {{5, 5}, {5, 3}, {3, 5}, {6, 4}, {4, 6}};
        for (int[] hole : free) {
            FilledHoles x = new FilledHoles();
            x.hole(3, 3, 3, 3);
            x.paint(5, 4, 100);
            x.hole(hole[0], hole[1], hole[0], hole[1]);
            Check.due("(" + hole[0] + ", " + hole[1] + ") is not needed", 100, x.rank(3, 3, 1));
        }
        FilledHoles filled = new FilledHoles();
        filled.hole(3, 4, 3, 4);
        filled.fill(1);
        filled.hole(3, 3, 3, 3);
        filled.paint(5, 4, 100);
        Check.due("one filled in is KNOWN", 100, filled.rank(3, 3, 1));
    }

    private static void slopesBySides() {
        Sentences.of(TERMS, "TONE to the right less that to the left, TONE below less that above;");
        FilledHoles x = new FilledHoles();
        x.hole(3, 3, 3, 3);
        x.paint(5, 4, 7);
        x.paint(3, 4, 255);
        x.paint(4, 5, 5);
        x.paint(4, 3, 255);
        Check.due("gx: 7 less 255", -248, x.rank(3, 3, 1));
        Check.due("gy: 5 less 255", -250, x.rank(3, 3, 2));
        FilledHoles y = new FilledHoles();
        y.hole(3, 3, 3, 3);
        y.paint(5, 4, 255);
        y.paint(4, 5, 255);
        Check.due("gx: 255 less 0", 255, y.rank(3, 3, 1));
        Check.due("gy: 255 less 0", 255, y.rank(3, 3, 2));
    }

    /** The DOTS that have four KNOWN ones in the PATCH of (3, 3) are (2, 2), (4, 2), (2, 4), (4, 4). */
    private static void theSteepest() {
        Sentences.of(TERMS, "that one of which gx and gy, without their signs, together are the most, "
                + "of alike ones the first;");
        FilledHoles x = new FilledHoles();
        x.hole(3, 3, 3, 3);
        x.paint(3, 2, 60);
        Check.due("(2, 2) ahead of (4, 2), which has -60", 60, x.rank(3, 3, 1));
        x.paint(3, 4, 60);
        Check.due("and of (2, 4), (4, 4)", 60, x.rank(3, 3, 1));
        x.paint(4, 5, 1);
        Check.due("one more at (4, 4): gx", -60, x.rank(3, 3, 1));
        Check.due("one more at (4, 4): gy", 1, x.rank(3, 3, 2));
        x.paint(2, 5, 1);
        Check.due("alike at (2, 4), ahead of it: gx", 60, x.rank(3, 3, 1));
        x.paint(2, 1, 61);
        Check.due("without its sign at (2, 2): gx", 60, x.rank(3, 3, 1));
        Check.due("without its sign at (2, 2): gy", -61, x.rank(3, 3, 2));
        x.paint(5, 2, 121);
        // (4, 2): 121 less 60 is 61, which is less than 121 at (2, 2)
        Check.due("the most stays: gy", -61, x.rank(3, 3, 2));
    }

    private static void withoutSlopes() {
        Sentences.of(TERMS, "(0, 0) without any.");
        FilledHoles x = Check.of("zaz/a?a/zaz");
        Check.due("gx", 0, x.rank(1, 1, 1));
        Check.due("gy", 0, x.rank(1, 1, 2));
        Check.due("FLOW", 1, x.rank(1, 1, 5));
        FilledHoles y = new FilledHoles();
        y.hole(3, 3, 3, 3);
        y.paint(5, 4, 100);
        y.paint(4, 5, 50);
        y.hole(0, 0, 0, 0);
        Check.due("(3, 3) has one: gx", 100, y.rank(3, 3, 1));
        Check.due("(0, 0) then has none: gx", 0, y.rank(0, 0, 1));
        Check.due("(3, 3) has one: gy", 50, y.rank(3, 3, 2));
        Check.due("(0, 0) then has none: gy", 0, y.rank(0, 0, 2));
        y.hole(0, 0, 7, 7);
        Check.due("nothing KNOWN: gx", 0, y.rank(3, 3, 1));
        Check.due("nothing KNOWN: gy", 0, y.rank(3, 3, 2));
    }

    private static void outward() {
        Sentences.of(TERMS, "OUTWARD (nx, ny): nx: 1, if the one to the right is MISSING, less 1, if the one to the "
                + "left is;");
        FilledHoles x = Check.of("8a/a3?4a/8a/aa?5a");
        Check.due("the right one is", 1, x.rank(1, 1, 3));
        Check.due("both are", 0, x.rank(2, 1, 3));
        Check.due("the left one is", -1, x.rank(3, 1, 3));
        Check.due("neither is", 0, x.rank(2, 3, 3));
    }

    private static void outwardUpAndDown() {
        Sentences.of(TERMS, "ny: likewise below, above.");
        FilledHoles x = Check.of("5a/a?aaa/a?a?a/a?aaa/5a");
        Check.due("the one below is", 1, x.rank(1, 1, 4));
        Check.due("both are", 0, x.rank(1, 2, 4));
        Check.due("the one above is", -1, x.rank(1, 3, 4));
        Check.due("neither is", 0, x.rank(3, 2, 4));
    }

    private static void whatThePictureDoesNotHave() {
        Sentences.of(TERMS, "(What the PICTURE does not have is not MISSING.)");
        FilledHoles x = new FilledHoles();
        int[][] corners = {{0, 0}, {7, 0}, {0, 7}, {7, 7}};
        for (int[] at : corners) {
            x.hole(at[0], at[1], at[0], at[1]);
        }
        for (int[] at : corners) {
            Check.due("nx in a corner", 0, x.rank(at[0], at[1], 3));
            Check.due("ny in a corner", 0, x.rank(at[0], at[1], 4));
        }
        x.hole(0, 0, 7, 7);
        int[][] due = {{1, 1}, {-1, 1}, {1, -1}, {-1, -1}};
        for (int i = 0; i < 4; i++) {
            Check.due("all MISSING: nx", due[i][0], x.rank(corners[i][0], corners[i][1], 3));
            Check.due("all MISSING: ny", due[i][1], x.rank(corners[i][0], corners[i][1], 4));
        }
    }

    /** A HOLE of two by two, by SIZE 1; (4, 4) has the SLOPE for (3, 3), having nx -1, ny -1. */
    private static void flow() {
        Sentences.of(TERMS, "FLOW: gx times ny less gy times nx, without its sign, and 1.");
        int[][] slopes = {{0, 0, 1}, {1, 0, 2}, {0, 1, 2}, {50, 0, 51}, {0, 30, 31}, {50, 30, 21}, {30, 50, 21}, {40, 40, 1},
            {255, 0, 256}};
        for (int[] slope : slopes) {
            FilledHoles x = new FilledHoles();
            x.hole(2, 2, 3, 3);
            x.paint(5, 4, slope[0]);
            x.paint(4, 5, slope[1]);
            Check.due("nx", -1, x.rank(3, 3, 3));
            Check.due("ny", -1, x.rank(3, 3, 4));
            Check.due("gx", slope[0], x.rank(3, 3, 1));
            Check.due("gy", slope[1], x.rank(3, 3, 2));
            Check.due("FLOW", slope[2], x.rank(3, 3, 5));
        }
        FilledHoles most = new FilledHoles();
        most.hole(2, 2, 3, 3);
        most.paint(5, 4, 255);
        most.paint(4, 3, 255);
        Check.due("255 times -1 less -255 times -1, and 1", 511, most.rank(3, 3, 5));
    }

    private static void ranked() {
        Sentences.of(TERMS, "RANK: STEADY times FLOW (by RANKED, see set(): 0 both, 1 STEADY alone, 2 FLOW alone).");
        FilledHoles x = new FilledHoles();
        x.hole(2, 2, 3, 3);
        x.paint(5, 4, 50);
        Check.due("both: 555 times 51", 555 * 51, x.rank(3, 3, 6));
        Check.due("front's RANK", 555 * 51, x.front(0, 2));
        x.set(3, 1);
        Check.due("STEADY alone", 555, x.rank(3, 3, 6));
        Check.due("next's RANK", 555, x.next(2));
        x.set(3, 2);
        Check.due("FLOW alone", 51, x.rank(3, 3, 6));
        x.set(3, 0);
        x.hole(0, 0, 7, 7);
        x.set(3, 2);
        Check.due("FLOW alone, STEADY being 0", 1, x.rank(3, 3, 6));
        x.set(3, 1);
        Check.due("STEADY alone", 0, x.rank(3, 3, 6));
    }

    /** By SIZE 3 the corner, which is not of THE FRONT, has as great a FLOW as (1, 1), and is ahead of it. */
    private static void theNextOne() {
        Sentences.of(TERMS, "The DOT that is NEXT: that of THE FRONT of the greatest RANK, of alike ones the first.");
        FilledHoles x = new FilledHoles();
        x.hole(0, 0, 1, 1);
        x.paint(3, 2, 100);
        x.paint(2, 1, 100);
        x.set(0, 3);
        x.set(3, 2);
        Check.due("the corner's RANK", 201, x.rank(0, 0, 6));
        Check.due("that of (1, 1)", 201, x.rank(1, 1, 6));
        Check.due("that of (1, 0)", 1, x.rank(1, 0, 6));
        Check.due("NEXT: x", 1, x.next(0));
        Check.due("NEXT: y", 1, x.next(1));
        FilledHoles y = new FilledHoles();
        y.hole(6, 2, 6, 2);
        y.hole(2, 3, 2, 3);
        y.hole(2, 6, 2, 6);
        y.hole(0, 0, 0, 0);
        Check.due("alike: the first, x", 6, y.next(0));
        Check.due("alike: the first, y", 2, y.next(1));
        FilledHoles last = new FilledHoles();
        last.hole(0, 0, 0, 0);
        last.hole(6, 6, 6, 6);
        Check.due("the greatest, though the last", 6, last.next(0));
    }
}
