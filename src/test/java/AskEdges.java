/** The edges that promises 12 to 22 name: what an object is asked of how it is. */
final class AskEdges {
    private static final long NO = Check.NO_SUCH;
    private static final long BAD = Check.BAD_ARGUMENT;
    /** W 7, H 3: TONES 0, 10, .. 60 from left to right, (5, 1) MISSING. */
    static final String RAMP = "abcdefg/abcde?g/abcdefg";

    private AskEdges() {
    }

    static void run() {
        told();
        toldAfterUndo();
        dots();
        dotsByFill();
        ranksOfMissingOnes();
        nextOnes();
        noNextOnes();
        searches();
        searchesWithoutSources();
        differencesByWays();
        differencesOfNoSource();
        fronts();
        frontsThatThereAreNot();
        parts();
        rings();
        ringsWithoutAny();
        logs();
        logsAtMost();
        halves();
        noSuchHalves();
    }

    static void all(String what, int[] due, java.util.function.IntUnaryOperator asked) {
        for (int i = 0; i < due.length; i++) {
            Check.due(what + " " + i, due[i], asked.applyAsInt(i));
        }
    }

    private static void told() {
        Sentences.of("Promise 12", "0 W, 1 H, 2 KNOWN DOTS, 3 MISSING, 4 filled in, 5 DOTS of THE FRONT, 6 PARTS, "
                + "7 FILLS so far (since text()), 8 how many can be taken back, 9 bytes of the TAPE, 10 SIZE, "
                + "11 REACH, 12 FROM, 13 RANKED, 14 1 there is a TRUTH, 0 not, 15 DIFFERENCES of all FILLS so far "
                + "together, 16 TURNS, 17 WEIGHED, 18 SHIFTED.");
        FilledHoles x = Check.of(RAMP);
        all("with one MISSING: told", new int[] {7, 3, 20, 1, 0, 1, 1, 0, 0, 0, 1, 20, 0, 0, 0, 0, 0, 0, 0}, x::told);
        x.fill(1);
        x.feed(0, 0, 0, 0, 0);
        x.keep();
        x.hole(0, 0, 2, 2);
        int[] settings = {3, 9, 1, 2, 3, 1, 1};
        for (int what = 0; what < 7; what++) {
            x.set(what, settings[what]);
        }
        all("then", new int[] {7, 3, 12, 9, 1, 3, 1, 1, 2, 20, 3, 9, 1, 2, 1, 3200, 3, 1, 1}, x::told);
        x.hole(0, 0, 6, 2);
        all("nothing KNOWN", new int[] {7, 3, 0, 21, 0, 0, 1, 1, 3, 20}, x::told);
        int[] wrong = {-1, 19, Integer.MIN_VALUE, Integer.MAX_VALUE};
        for (int what : wrong) {
            Check.dueOf("told(" + what + ")", BAD, () -> x.told(what));
        }
        Check.due("refused", 4, x.status(1));
    }

    private static void toldAfterUndo() {
        Sentences.of("Promise 12", "(undo() takes 7, 15, what log() tells back, too.)");
        FilledHoles x = Check.of(RAMP);
        x.fill(1);
        x.hole(5, 1, 5, 1);
        x.fill(1);
        Check.due("FILLS", 2, x.told(7));
        Check.due("DIFFERENCES", 6400, x.told(15));
        x.undo();
        Check.due("FILLS", 1, x.told(7));
        Check.due("DIFFERENCES", 3200, x.told(15));
        Check.due("log", 5, x.log(0, 0));
        Check.dueOf("log of one taken back", NO, () -> x.log(1, 0));
        x.undo();
        Check.due("a HOLE taken back takes no FILL back", 1, x.told(7));
        x.undo();
        Check.due("FILLS", 0, x.told(7));
        Check.due("DIFFERENCES", 0, x.told(15));
        Check.dueOf("log", NO, () -> x.log(0, 0));
        Check.due("favourite", -1, x.favourite(0));
        x.fill(1);
        Check.due("the first FILL again", 1, x.dot(5, 1, 9));
    }

    private static void dots() {
        Sentences.of("Promise 13", "Of a DOT: 0 TONE (NONE: MISSING), 1 SURE, 2 1 it was filled in, 0 not, 3, 4 x, y "
                + "of its PARENT (NONE), 5, 6 of its ORIGIN (NONE), 7 its PART (NONE), 8 1 it is of THE FRONT, 0 not,");
        FilledHoles x = Check.of(RAMP);
        all("MISSING: dot", new int[] {-1, 0, 0, -1, -1, -1, -1, 0, 1, 0}, what -> x.dot(5, 1, what));
        all("KNOWN: dot", new int[] {60, 1000, 0, -1, -1, -1, -1, -1, 0, 0}, what -> x.dot(6, 2, what));
        x.fill(1);
        all("filled in: dot", new int[] {30, 888, 1, 3, 1, 3, 1, -1, 0, 1}, what -> x.dot(5, 1, what));
        x.hole(4, 0, 6, 2);
        all("MISSING again: dot", new int[] {-1, 0, 0, -1, -1, -1, -1, 0, 0, 0}, what -> x.dot(5, 1, what));
    }

    private static void dotsByFill() {
        Sentences.of("Promise 13", "9 by which FILL since text() it was filled in (1: the first; 0: it was not).");
        FilledHoles x = new FilledHoles();
        int[][] at = {{1, 1}, {4, 1}, {6, 1}};
        for (int i = 0; i < 3; i++) {
            x.hole(at[i][0], at[i][1], at[i][0], at[i][1]);
            x.fill(1);
        }
        for (int i = 0; i < 3; i++) {
            Check.due("FILL", i + 1, x.dot(at[i][0], at[i][1], 9));
        }
        Check.due("KNOWN", 0, x.dot(0, 0, 9));
        x.hole(1, 1, 1, 1);
        Check.due("MISSING", 0, x.dot(1, 1, 9));
        x.fill(1);
        Check.due("the fourth", 4, x.dot(1, 1, 9));
        int n = Check.feed(x, TextEdges.rows("8b", 8));
        x.text(n);
        x.hole(1, 1, 1, 1);
        x.fill(1);
        Check.due("the first since text()", 1, x.dot(1, 1, 9));
    }

    private static void ranksOfMissingOnes() {
        Sentences.of("Promise 14", "Of a MISSING DOT: 0 STEADY, 1 gx, 2 gy, 3 nx, 4 ny, 5 FLOW, 6 RANK "
                + "(0 each, if it is KNOWN).");
        FilledHoles x = new FilledHoles();
        x.hole(2, 2, 3, 3);
        x.paint(5, 4, 50);
        x.paint(4, 5, 20);
        // gx 50, gy 20 at (4, 4); -50 and 20 make 30
        all("rank", new int[] {555, 50, 20, -1, -1, 31, 555 * 31}, what -> x.rank(3, 3, what));
        all("KNOWN: rank", new int[] {0, 0, 0, 0, 0, 0, 0}, what -> x.rank(4, 4, what));
        x.fill(1);
        all("filled in: rank", new int[] {0, 0, 0, 0, 0, 0, 0}, what -> x.rank(3, 3, what));
    }

    private static void nextOnes() {
        Sentences.of("Promise 15", "Of the NEXT one: 0 x, 1 y, 2 RANK; of its SEARCH: 3, 4 x, y of the BEST, "
                + "5 its DIFFERENCE, 6 its WAY;");
        FilledHoles x = Check.of(RAMP);
        all("next", new int[] {5, 1, 888, 3, 1, 3200, 0}, x::next);
        x.set(4, 3);
        // by WAY 4 and so on columns are ROWS: no better
        Check.due("of 24 pairs", 24, x.search(5, 1, 3));
        for (int what = 3; what <= 6; what++) {
            int[] same = {0, 1, 2, 7};
            Check.due("as search() has it: " + what, x.search(5, 1, same[what - 3]), x.next(what));
        }
        x.fill(1);
        for (int what = 0; what <= 4; what++) {
            Check.due("as it was filled then", x.log(0, what), new int[] {5, 1, x.log(0, 2), 1, x.log(0, 4)}[what]);
        }
    }

    private static void noNextOnes() {
        Sentences.of("Promise 15", "NONE each: there is none such.");
        int[] none = {-1, -1, -1, -1, -1, -1, -1};
        FilledHoles known = new FilledHoles();
        all("nothing MISSING: next", none, known::next);
        known.hole(0, 0, 7, 7);
        all("nothing KNOWN: next", none, known::next);
        FilledHoles small = Check.of("5a/5a/2a?2a/5a/5a");
        all("without SOURCES: next", new int[] {2, 2, 888, -1, -1, -1, -1}, small::next);
    }

    private static void searches() {
        Sentences.of("Promise 16", "The SEARCH for any DOT (KNOWN or not):");
        FilledHoles x = Check.of(RAMP);
        all("MISSING: search", new int[] {3, 1, 3200, 3, 0, 0, 24, 0, 0}, what -> x.search(5, 1, what));
        all("KNOWN: search", new int[] {1, 1, 0, 3, 2, 0, 9, 0, 0}, what -> x.search(1, 1, what));
        // the corner (0, 0): 0, 10 as against 10, 20, then 20, 30, then 30, 40
        all("a corner: search", new int[] {1, 1, 400, 3, 2, 0, 4, 0, 0}, what -> x.search(0, 0, what));
        x.fill(1);
        Check.due("one filled in: SOURCES", 3, x.search(5, 1, 3));
        Check.due("one filled in: LOOKED", 1, x.search(5, 1, 6) >= 9 ? 1 : 0);
    }

    private static void searchesWithoutSources() {
        Sentences.of("Promise 16", "0, 1 x, y of the BEST, 2 its DIFFERENCE (NONE each without SOURCES), 3 SOURCES "
                + "(each by each WAY), 4 those SKIPPED, 5 STOPPED, 6 LOOKED, 7 the WAY of the BEST (NONE), "
                + "8 its SHIFT (0 without).");
        int[] none = {-1, -1, -1, 0, 0, 0, 0, -1, 0};
        FilledHoles x = Check.of("5a/5a/2a?2a/5a/5a");
        x.set(4, 3);
        x.set(6, 1);
        all("MISSING: search", none, what -> x.search(2, 2, what));
        all("KNOWN: search", none, what -> x.search(0, 0, what));
        FilledHoles far = Check.of(RAMP);
        far.set(1, 1);
        far.set(6, 1);
        for (int i = 0; i <= 8; i++) {
            Check.due("one that has a SOURCE, asked ahead of it", -10, far.search(0, 0, 8));
            Check.due("none by REACH: search " + i, none[i], far.search(5, 1, i));
        }
        FilledHoles turned = Check.of(RAMP);
        turned.set(4, 3);
        Check.due("each by each WAY", 24, turned.search(5, 1, 3));
        turned.set(6, 1);
        Check.due("SHIFT", 40, turned.search(5, 1, 8));
    }

    private static void differencesByWays() {
        Sentences.of("Promise 17", "Of a DOT p and a DOT q by a WAY (0 to 7, whatever TURNS are), what is 2 times the "
                + "WAY: DIFFERENCE, and 1 more: BOUND;");
        FilledHoles x = Check.of("aaaaaa/aaaaab/aaaaaa");
        // p (4, 1) has 10 to its right; q (1, 1) has nothing: 100, BOUND 100 by 9
        for (int what = 0; what <= 15; what++) {
            Check.due("what " + what, what % 2 == 0 ? 100 : 11, x.difference(4, 1, 1, 1, what));
        }
        x.paint(1, 0, 10);
        // q has 10 above: there the PLACE is by the WAYS that have (0, -1) for (1, 0): 6 and 7
        for (int way = 0; way <= 7; way++) {
            Check.due("WAY " + way, way >= 6 ? 0 : 200, x.difference(4, 1, 1, 1, 2 * way));
            Check.due("BOUND of WAY " + way, 0, x.difference(4, 1, 1, 1, 2 * way + 1));
        }
        Check.due("TURNS", 0, x.told(16));
        // the corner (0, 0) has four DOTS, to the right and below; what q has to its right is of them by half the WAYS
        FilledHoles corner = Check.of("6a/6a/6a");
        corner.paint(5, 1, 10);
        int[] apart = {100, 0, 0, 100, 100, 0, 0, 100};
        for (int way = 0; way <= 7; way++) {
            Check.due("a corner, WAY " + way, apart[way], corner.difference(0, 0, 4, 1, 2 * way));
            Check.due("a corner, BOUND of WAY " + way, apart[way] / 4, corner.difference(0, 0, 4, 1, 2 * way + 1));
        }
        corner.set(6, 1);
        for (int way = 0; way <= 7; way++) {
            // -10 by 4 (cut) is -2: 8 once, 2 three times; together 2, squared, by 4
            Check.due("SHIFTED, WAY " + way, apart[way] == 0 ? 0 : 76, corner.difference(0, 0, 4, 1, 2 * way));
            Check.due("SHIFTED, BOUND of WAY " + way, apart[way] / 100, corner.difference(0, 0, 4, 1, 2 * way + 1));
        }
        int[] wrong = {-1, 16, -2, 17, Integer.MIN_VALUE, Integer.MAX_VALUE};
        for (int what : wrong) {
            Check.dueOf("what " + what, BAD, () -> x.difference(4, 1, 1, 1, what));
        }
    }

    private static void differencesOfNoSource() {
        Sentences.of("Promise 17", "NONE: q is no SOURCE for p.");
        FilledHoles x = Check.of(RAMP);
        for (int what = 0; what <= 15; what++) {
            Check.due("not WHOLE, what " + what, -1, x.difference(1, 1, 0, 1, what));
            Check.due("with one MISSING, what " + what, -1, x.difference(1, 1, 4, 1, what));
        }
        x.fill(1);
        Check.due("with one filled in", -1, x.difference(1, 1, 4, 1, 0));
        x.set(2, 1);
        Check.due("FROM 1", 1, x.difference(1, 1, 4, 1, 0) >= 0 ? 1 : 0);
        x.set(1, 2);
        Check.due("beyond REACH", -1, x.difference(1, 1, 4, 1, 0));
        Check.due("by REACH", 1, x.difference(2, 1, 4, 1, 0) >= 0 ? 1 : 0);
        Check.due("it is no refusal", 0, x.status(0) + x.status(1));
    }

    private static void fronts() {
        Sentences.of("Promise 18", "The k-th of THE FRONT by RANK (0: the NEXT one; of alike ones in order): 0 x, 1 y, "
                + "2 RANK;");
        FilledHoles x = new FilledHoles();
        int[][] holes = {{0, 0}, {3, 0}, {5, 2}, {7, 0}, {2, 4}, {5, 7}, {6, 5}};
        for (int[] at : holes) {
            x.hole(at[0], at[1], at[0], at[1]);
        }
        int[][] due = {{5, 2, 888}, {2, 4, 888}, {6, 5, 888}, {3, 0, 833}, {5, 7, 833}, {0, 0, 750}, {7, 0, 750}};
        for (int i = 0; i < due.length; i++) {
            int k = i;
            all("front " + k, due[k], what -> x.front(k, what));
        }
        all("the NEXT one", due[0], x::next);
    }

    private static void frontsThatThereAreNot() {
        Sentences.of("Promise 18", "NONE: there are not so many, or k is below 0.");
        FilledHoles x = new FilledHoles();
        int[] beyond = {0, 1, -1, Integer.MAX_VALUE, Integer.MIN_VALUE};
        for (int k : beyond) {
            Check.due("no FRONT: " + k, -1, x.front(k, 0) + x.front(k, 1) - x.front(k, 2));
        }
        x.hole(1, 1, 1, 1);
        x.hole(5, 5, 5, 5);
        Check.due("the last", 5, x.front(1, 0));
        int[] others = {2, 3, 400, Integer.MAX_VALUE, -1, -2, Integer.MIN_VALUE};
        for (int k : others) {
            for (int what = 0; what <= 2; what++) {
                Check.due("front(" + k + ", " + what + ")", -1, x.front(k, what));
            }
        }
        Check.due("it is no refusal", 0, x.status(0) + x.status(1));
        Check.dueOf("what 3", BAD, () -> x.front(0, 3));
        Check.dueOf("what -1", BAD, () -> x.front(0, -1));
        Check.dueOf("what 3, there being no k-th", BAD, () -> x.front(-1, 3));
        Check.due("refused", 3, x.status(1));
    }

    private static void parts() {
        Sentences.of("Promise 19", "Of a PART: 0 DOTS, 1 the least x, 2 the least y, 3 the greatest x, 4 the greatest "
                + "y, 5 its DOTS of THE FRONT.");
        FilledHoles x = new FilledHoles();
        Check.dueOf("none", NO, () -> x.part(0, 0));
        x.hole(0, 0, 7, 7);
        all("all: part", new int[] {64, 0, 0, 7, 7, 0}, what -> x.part(0, what));
        x.paint(7, 7, 1);
        all("all but one: part", new int[] {63, 0, 0, 7, 7, 2}, what -> x.part(0, what));
        Check.dueOf("no other", NO, () -> x.part(1, 0));
        FilledHoles y = Check.of("a?a?/?a??/aaa?");
        all("the first: part", new int[] {1, 1, 0, 1, 0, 1}, what -> y.part(0, what));
        all("the second: part", new int[] {4, 2, 0, 3, 2, 3}, what -> y.part(1, what));
        all("the third: part", new int[] {1, 0, 1, 0, 1, 1}, what -> y.part(2, what));
        int[] none = {3, -1, Integer.MIN_VALUE, Integer.MAX_VALUE};
        for (int part : none) {
            Check.dueOf("part(" + part + ", 0)", NO, () -> y.part(part, 0));
            Check.dueOf("part(" + part + ", 6)", NO, () -> y.part(part, 6));
        }
        Check.dueOf("what 6", BAD, () -> y.part(2, 6));
        Check.dueOf("what -1", BAD, () -> y.part(0, -1));
        Check.due("refused", 8, y.status(0));
        Check.due("refused", 2, y.status(1));
    }

    private static void rings() {
        Sentences.of("Promise 20", "Of the RING of a PART (all KNOWN DOTS that have a DOT of it next to them, left, "
                + "right, above or below):");
        FilledHoles x = Check.of("zbz/c?d/zez");
        // not those aslant
        all("four: ring", new int[] {4, 10, 40, 25}, what -> x.ring(0, what));
        FilledHoles once = Check.of("b?c/?d?/e?f");
        // each of four PARTS has three of the five KNOWN ones
        all("the first: ring", new int[] {3, 10, 30, 20}, what -> once.ring(0, what));
        all("the last: ring", new int[] {3, 30, 50, 40}, what -> once.ring(3, what));
        FilledHoles round = Check.of("???/?b?/???");
        all("one, beside four DOTS of it: ring", new int[] {1, 10, 10, 10}, what -> round.ring(0, what));
        FilledHoles corner = Check.of("aa?/aaa/aaz");
        corner.paint(1, 0, 255);
        all("a corner: ring", new int[] {2, 0, 255, 127}, what -> corner.ring(0, what));
        FilledHoles filled = new FilledHoles();
        filled.hole(3, 3, 3, 3);
        filled.fill(1);
        filled.hole(4, 3, 4, 3);
        Check.due("one filled in is KNOWN", 4, filled.ring(0, 0));
        Check.dueOf("no such PART", NO, () -> filled.ring(1, 9));
        Check.dueOf("what 4", BAD, () -> filled.ring(0, 4));
        Check.dueOf("what -1", BAD, () -> filled.ring(0, -1));
    }

    private static void ringsWithoutAny() {
        Sentences.of("Promise 20", "0 how many, 1 the least TONE, 2 the greatest, 3 TONES together by how many (cut) "
                + "(NONE each without any, but 0).");
        FilledHoles x = Check.of("3?/3?/3?");
        all("ring", new int[] {0, -1, -1, -1}, what -> x.ring(0, what));
        FilledHoles zero = Check.of("3a/a?a/3a");
        all("of TONE 0: ring", new int[] {4, 0, 0, 0}, what -> zero.ring(0, what));
        zero.paint(1, 0, 255);
        all("255 by 4 (cut): ring", new int[] {4, 0, 255, 63}, what -> zero.ring(0, what));
    }

    private static void logs() {
        Sentences.of("Promise 21", "0, 1 x, y, 2, 3 those of the BEST, 4 DIFFERENCE, 5 DOTS that were filled in, "
                + "6 STEADY, 7 the WAY, 8 SHIFT.");
        FilledHoles x = Check.of(RAMP);
        Check.dueOf("none", NO, () -> x.log(0, 0));
        x.fill(1);
        all("log", new int[] {5, 1, 3, 1, 3200, 1, 888, 0, 0}, what -> x.log(0, what));
        x.undo();
        x.set(6, 1);
        x.fill(1);
        all("SHIFTED: log", new int[] {5, 1, 1, 1, 0, 1, 888, 0, 40}, what -> x.log(0, what));
        x.hole(0, 0, 6, 2);
        Check.due("it stays told, though MISSING", 5, x.log(0, 0));
        int[] none = {1, -1, 30, Integer.MIN_VALUE, Integer.MAX_VALUE};
        for (int k : none) {
            Check.dueOf("log(" + k + ", 0)", NO, () -> x.log(k, 0));
            Check.dueOf("log(" + k + ", 9)", NO, () -> x.log(k, 9));
        }
        Check.dueOf("what 9", BAD, () -> x.log(0, 9));
        Check.dueOf("what -1", BAD, () -> x.log(0, -1));
        Check.due("refused", 11, x.status(0));
        Check.due("refused", 2, x.status(1));
    }

    private static void logsAtMost() {
        Sentences.of("Promise 21", "Of the k-th latest FILL since text() (0 the latest; 30 at most):");
        FilledHoles x = Check.of(TextEdges.rows("20b", 5));
        x.set(2, 1);
        for (int i = 0; i < 65; i++) {
            int at = 1 + i % 18;
            x.hole(at, 2, at, 2);
            x.fill(1);
            int fills = i + 1;
            Check.due("the latest", at, x.log(0, 0));
            int last = Math.min(fills, 30) - 1;
            Check.due("the last that is told, of " + fills, 1 + (i - last) % 18, x.log(last, 0));
            Check.dueOf("one more", NO, () -> x.log(last + 1, 0));
        }
        int n = Check.feed(x, TextEdges.rows("20b", 5));
        x.text(n);
        Check.dueOf("none since text()", NO, () -> x.log(0, 0));
    }

    private static void halves() {
        Sentences.of("Promise 22", "HALF, and HALF of that (level 1, 2), as the PICTURE is: TONE of a DOT of it "
                + "(NONE: MISSING);");
        FilledHoles x = Check.of(TextEdges.rows("9b", 9));
        Check.due("HALF", 10, x.half(1, 4, 4));
        Check.due("HALF of that", 10, x.half(2, 2, 2));
        x.hole(0, 0, 1, 1);
        Check.due("MISSING", -1, x.half(1, 0, 0));
        Check.due("HALF of that has three others", 10, x.half(2, 0, 0));
        x.hole(0, 0, 3, 3);
        Check.due("MISSING in HALF of that", -1, x.half(2, 0, 0));
        x.fill(60);
        Check.due("as the PICTURE is", 10, x.half(2, 0, 0));
        x.paint(0, 0, 255);
        // 255 and three times 10 by 4 is 71; that and three times 10 by 4 is 25
        Check.due("HALF", 71, x.half(1, 0, 0));
        Check.due("HALF of that", 25, x.half(2, 0, 0));
    }

    private static void noSuchHalves() {
        Sentences.of("Promise 22", "-2: it has no such DOT, or there is no such HALF.");
        FilledHoles x = Check.of(TextEdges.rows("9b", 9));
        int[] outside = {5, -1, Integer.MIN_VALUE, Integer.MAX_VALUE};
        for (int at : outside) {
            Check.due("x " + at, -2, x.half(1, at, 0));
            Check.due("y " + at, -2, x.half(1, 0, at));
            Check.due("level 2, x " + at, -2, x.half(2, at, 0));
            Check.due("level 2, y " + at, -2, x.half(2, 0, at));
        }
        Check.due("level 2 has 3 by 3", -2, x.half(2, 3, 0));
        FilledHoles eight = new FilledHoles();
        Check.due("8 by 8 has a HALF", 0, eight.half(1, 3, 3));
        Check.due("but no HALF of that", -2, eight.half(2, 0, 0));
        FilledHoles four = Check.of(TextEdges.rows("4b", 4));
        Check.due("4 by 4 has none", -2, four.half(1, 0, 0));
        Check.due("it is no refusal", 0, x.status(0) + x.status(1));
        int[] wrong = {0, 3, -1, Integer.MIN_VALUE, Integer.MAX_VALUE};
        for (int level : wrong) {
            Check.dueOf("level " + level, BAD, () -> x.half(level, 0, 0));
            Check.dueOf("level " + level + ", no such DOT", BAD, () -> x.half(level, -1, 0));
        }
        Check.due("refused", 10, x.status(1));
    }
}
