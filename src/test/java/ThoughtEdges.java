/** The edges that promises 23 to 33 name: what is asked in thought, sums over the PICTURE, refusals. */
final class ThoughtEdges {
    private static final long NO = Check.NO_SUCH;
    private static final long BAD = Check.BAD_ARGUMENT;

    private ThoughtEdges() {
    }

    static void run() {
        ahead();
        aheadAtMost();
        aheadWithoutTruth();
        aheadWithoutAny();
        flaw();
        flawWithoutTruth();
        flawBy();
        flawByWithoutTruth();
        tune();
        tuneByFlaw();
        tuneAlike();
        reach();
        reachOfNone();
        seams();
        noSeams();
        favourites();
        noFavourite();
        turning();
        turningAlike();
        lent();
        prints();
        status();
        uses();
    }

    private static void ahead() {
        Sentences.of("Promise 23", "In thought: n FILLS (1 to 60), or as far as that goes: 0 MISSING then, 1 FILLS, "
                + "2 their DIFFERENCES together,");
        FilledHoles x = Check.of(AskEdges.RAMP);
        x.hole(1, 1, 1, 1);
        // (1, 1) is the first of two alike ones; its SOURCE is (3, 1), 20 apart eight times
        AskEdges.all("one: ahead", new int[] {1, 1, 3200, -1, 888}, what -> x.ahead(1, what));
        AskEdges.all("two: ahead", new int[] {0, 2, 6400, -1, 888}, what -> x.ahead(2, what));
        AskEdges.all("as far as that goes: ahead", new int[] {0, 2, 6400, -1, 888}, what -> x.ahead(60, what));
        Check.due("it is not so then", 2, x.told(3));
        x.fill(1);
        Check.due("of FILLS in thought alone", 1, x.ahead(60, 1));
        Check.due("of FILLS in thought alone", 3200, x.ahead(60, 2));
        int[] wrong = {0, -1, 61, Integer.MIN_VALUE, Integer.MAX_VALUE};
        for (int n : wrong) {
            Check.dueOf("n " + n, BAD, () -> x.ahead(n, 0));
        }
        int[] whats = {-1, 5, Integer.MIN_VALUE, Integer.MAX_VALUE};
        for (int what : whats) {
            Check.dueOf("what " + what, BAD, () -> x.ahead(1, what));
        }
        Check.due("refused", 9, x.status(1));
    }

    private static void aheadAtMost() {
        Sentences.of("Promise 23", "n FILLS (1 to 60), or as far as that goes:");
        FilledHoles x = ChangeEdges.large();
        Check.due("60 FILLS", 60, x.ahead(60, 1));
        Check.due("59 FILLS", 59, x.ahead(59, 1));
        int missing = x.ahead(60, 0);
        int differences = x.ahead(60, 2);
        int flaw = x.ahead(60, 3);
        int sure = x.ahead(60, 4);
        Check.due("there are more", 1, missing > 0 ? 1 : 0);
        x.fill(60);
        Check.due("MISSING as it is then", x.told(3), missing);
        Check.due("DIFFERENCES as they are then", x.told(15), differences);
        Check.due("FLAW as it is then", x.flaw(), flaw);
        int least = 1000;
        for (int i = 0; i < 280; i++) {
            int of = x.dot(6 + i % 14, i / 14, 1);
            least = of > 0 ? Math.min(least, of) : least;
        }
        Check.due("the least SURE as it is then", least, sure);
    }

    private static void aheadWithoutTruth() {
        Sentences.of("Promise 23", "3 FLAW (NONE without TRUTH),");
        FilledHoles x = Check.of("9b/9b/9b");
        x.paint(5, 1, 40);
        Check.due("without TRUTH", -1, x.ahead(1, 3));
        x.keep();
        Check.due("with TRUTH, none filled in", 0, x.ahead(1, 3));
        x.hole(5, 1, 5, 1);
        Check.due("with one", 900, x.ahead(1, 3));
        x.fill(1);
        x.paint(7, 0, 12);
        x.keep();
        x.hole(7, 0, 7, 0);
        // TRUTH has (5, 1) as it was filled in now
        Check.due("another TRUTH", 4, x.ahead(1, 3));
    }

    private static void aheadWithoutAny() {
        Sentences.of("Promise 23", "4 the least SURE of those filled in (NONE: there are none).");
        FilledHoles x = new FilledHoles();
        AskEdges.all("nothing MISSING: ahead", new int[] {0, 0, 0, -1, -1}, what -> x.ahead(60, what));
        x.hole(0, 0, 7, 7);
        AskEdges.all("nothing KNOWN: ahead", new int[] {64, 0, 0, -1, -1}, what -> x.ahead(60, what));
        FilledHoles y = new FilledHoles();
        y.hole(0, 0, 0, 0);
        y.hole(5, 5, 5, 5);
        Check.due("the first is of 888", 888, y.ahead(1, 4));
        Check.due("the second of 750", 750, y.ahead(2, 4));
    }

    private static void flaw() {
        Sentences.of("Promise 24", "FLAW as it is;");
        FilledHoles x = Check.of("9b/9b/9b");
        x.paint(5, 1, 40);
        x.keep();
        Check.due("none filled in", 0, x.flaw());
        x.hole(5, 1, 5, 1);
        Check.due("MISSING", 0, x.flaw());
        x.fill(1);
        Check.due("10 as against 40", 900, x.flaw());
        x.undo();
        Check.due("taken back", 0, x.flaw());
    }

    private static void flawWithoutTruth() {
        Sentences.of("Promise 24", "NONE without TRUTH.");
        FilledHoles x = new FilledHoles();
        Check.due("at first", -1, x.flaw());
        x.hole(3, 3, 3, 3);
        x.fill(1);
        Check.due("with one filled in", -1, x.flaw());
        x.keep();
        Check.due("with TRUTH", 0, x.flaw());
        int n = Check.feed(x, "3a/3a/3a");
        x.text(n);
        Check.due("TRUTH is none by another W", -1, x.flaw());
    }

    private static void flawBy() {
        Sentences.of("Promise 25", "In thought: GUIDED (levels 1, 2) or plain (0) FILLS as far as that goes: "
                + "FLAW less FLAW as it is;");
        FilledHoles x = Check.of("acacac6b/cacaca6b/acacac6b/cacaca6b/acacac6b/cacaca6b");
        x.paint(7, 4, 40);
        x.keep();
        Check.due("nothing MISSING: plain", 0, x.flawBy(0));
        Check.due("nothing MISSING: GUIDED", 0, x.flawBy(1));
        x.hole(10, 2, 11, 3);
        Check.due("plain", 0, x.flawBy(0));
        Check.due("GUIDED", 400, x.flawBy(1));
        Check.due("GUIDED, there being one HALF", 400, x.flawBy(2));
        Check.due("it is not so then", 4, x.told(3));
        x.guide(1);
        Check.due("FLAW as it is", 400, x.flaw());
        x.hole(7, 4, 7, 4);
        Check.due("less FLAW as it is", x.ahead(60, 3) - 400, x.flawBy(0));
        Check.due("more than 60 FILLS", ChangeEdges.large().tune(2), flawOfLarge());
        int[] wrong = {-1, 3, Integer.MIN_VALUE, Integer.MAX_VALUE};
        for (int levels : wrong) {
            Check.dueOf("levels " + levels, BAD, () -> x.flawBy(levels));
        }
        Check.due("refused", 4, x.status(1));
    }

    /** By the SIZE that tune() takes, to the end. */
    private static int flawOfLarge() {
        FilledHoles x = ChangeEdges.large();
        x.set(0, x.tune(0));
        int flaw = x.flawBy(0);
        while (x.fill(60) > 0) {
            Check.due("until there are none", 1, x.told(7) > 0 ? 1 : 0);
        }
        Check.due("as by fill()", x.flaw(), flaw);
        return flaw;
    }

    private static void flawByWithoutTruth() {
        Sentences.of("Promise 25", "NONE - 999999999 without TRUTH.");
        FilledHoles x = new FilledHoles();
        for (int levels = 0; levels <= 2; levels++) {
            Check.due("levels " + levels, -1000000000, x.flawBy(levels));
        }
        Check.dueOf("levels 3 without TRUTH", BAD, () -> x.flawBy(3));
        Check.dueOf("levels -1 without TRUTH", BAD, () -> x.flawBy(-1));
        x.keep();
        Check.due("with TRUTH", 0, x.flawBy(0));
    }

    /** In four ROWS only SIZE 1 has SOURCES: it leaves fewest MISSING, though it has the greater FLAW. */
    private static void tune() {
        Sentences.of("Promise 26", "In thought: SIZE (1 to 3) by which FILLS as far as that goes leave fewest DOTS "
                + "MISSING,");
        FilledHoles x = Check.of("9b/9b/7bcb/9b");
        x.keep();
        x.hole(7, 2, 7, 2);
        for (int size = 1; size <= 3; size++) {
            x.set(0, size);
            AskEdges.all("whatever SIZE is: tune", new int[] {1, 0, 100}, x::tune);
            Check.due("SIZE stays", size, x.told(10));
        }
        Check.due("it is not so then", 1, x.told(3));
        FilledHoles large = ChangeEdges.large();
        Check.due("more than 60 FILLS", 0, large.tune(1));
        int[] wrong = {-1, 3, Integer.MIN_VALUE, Integer.MAX_VALUE};
        for (int what : wrong) {
            Check.dueOf("what " + what, BAD, () -> x.tune(what));
        }
        Check.due("refused", 4, x.status(1));
    }

    /** What is two DOTS away tells which of two is right; by SIZE 1 the first is taken, and is wrong. */
    private static void tuneByFlaw() {
        Sentences.of("Promise 26", "of these by which FLAW (0 without TRUTH) is least,");
        FilledHoles x = Check.of(TextEdges.rows("15a", 5));
        x.paint(2, 2, 99);
        x.paint(7, 2, 50);
        x.paint(12, 2, 50);
        x.paint(5, 0, 200);
        x.paint(10, 0, 200);
        x.hole(12, 2, 12, 2);
        AskEdges.all("without TRUTH: tune", new int[] {1, 0, 0}, x::tune);
        x.undo();
        x.keep();
        x.hole(12, 2, 12, 2);
        AskEdges.all("with TRUTH: tune", new int[] {2, 0, 0}, x::tune);
        AskEdges.all("three DOTS away: tune", new int[] {3, 0, 0}, farAway(3)::tune);
        // by each SIZE the first is taken: 50 too little
        AskEdges.all("four DOTS away: tune", new int[] {1, 0, 2500}, farAway(4)::tune);
        FilledHoles chequer = Check.of(GuidedEdges.CHEQUER);
        chequer.keep();
        chequer.hole(10, 2, 11, 3);
        // GUIDED, SIZE 1 would have a FLAW, and SIZE 2, which has no HALF to go by, would be better
        AskEdges.all("FILLS that are not GUIDED: tune", new int[] {1, 0, 0}, chequer::tune);
    }

    /** (14, 4) is as (9, 4) by what is so many DOTS away from both, and as nothing at all by less. */
    private static FilledHoles farAway(int steps) {
        FilledHoles x = Check.of(TextEdges.rows("20a", 9));
        x.paint(7, 4, 50);
        x.paint(14, 4, 50);
        x.paint(7 - steps, 4 - steps, 200);
        x.paint(14 - steps, 4 - steps, 200);
        x.keep();
        x.hole(14, 4, 14, 4);
        return x;
    }

    private static void tuneAlike() {
        Sentences.of("Promise 26", "of alike ones the least SIZE (what 0), MISSING then (1), FLAW (2).");
        FilledHoles x = new FilledHoles();
        x.keep();
        AskEdges.all("nothing MISSING: tune", new int[] {1, 0, 0}, x::tune);
        x.hole(0, 0, 7, 7);
        AskEdges.all("nothing KNOWN: tune", new int[] {1, 64, 0}, x::tune);
        FilledHoles flat = Check.of(TextEdges.rows("20b", 20));
        flat.keep();
        flat.hole(18, 18, 18, 18);
        AskEdges.all("each as good: tune", new int[] {1, 0, 0}, flat::tune);
        FilledHoles none = Check.of("5a/5a/2a?2a/5a/5a");
        AskEdges.all("none goes: tune", new int[] {1, 1, 0}, none::tune);
    }

    private static void reach() {
        Sentences.of("Promise 27", "The least REACH by which the SEARCH for a DOT has a SOURCE (what 0), by which it "
                + "has the BEST that it has by 20 (1);");
        FilledHoles x = new FilledHoles();
        Check.due("itself, and 1 is the least REACH", 1, x.reach(4, 4, 0));
        Check.due("the corner's", 1, x.reach(0, 0, 0));
        Check.due("the BEST is (1, 1)", 3, x.reach(4, 4, 1));
        Check.due("the BEST is itself", 1, x.reach(1, 1, 1));
        Check.due("up and down", 5, x.reach(1, 6, 1));
        Check.due("left and right", 6, x.reach(7, 1, 1));
        FilledHoles far = Check.of(TextEdges.rows("20b", 20));
        far.hole(3, 0, 19, 2);
        far.hole(0, 3, 19, 19);
        Check.due("(1, 1) alone is a SOURCE", 18, far.reach(19, 19, 0));
        Check.due("it is the BEST", 18, far.reach(19, 19, 1));
        far.set(1, 17);
        Check.due("none by 17", 0, far.search(19, 19, 3));
        Check.due("whatever REACH is", 18, far.reach(19, 19, 0));
        Check.due("whatever REACH is, the BEST", 18, far.reach(19, 19, 1));
        far.set(1, 18);
        Check.due("one by 18", 1, far.search(19, 19, 3));
        Check.due("REACH stays", 18, far.told(11));
        int[] wrong = {-1, 2, Integer.MIN_VALUE, Integer.MAX_VALUE};
        for (int what : wrong) {
            Check.dueOf("what " + what, BAD, () -> x.reach(0, 0, what));
            Check.dueOf("no such DOT, what " + what, NO, () -> x.reach(0, 8, what));
        }
        Check.due("refused", 4, x.status(0));
        Check.due("refused", 4, x.status(1));
    }

    private static void reachOfNone() {
        Sentences.of("Promise 27", "NONE: there is none.");
        FilledHoles x = Check.of("5a/5a/2a?2a/5a/5a");
        for (int i = 0; i < 25; i++) {
            Check.due("a SOURCE", -1, x.reach(i % 5, i / 5, 0));
            Check.due("the BEST", -1, x.reach(i % 5, i / 5, 1));
        }
        FilledHoles size = Check.of(TextEdges.rows("20b", 6));
        size.set(0, 3);
        Check.due("by SIZE 3 in six ROWS", -1, size.reach(9, 3, 0));
        FilledHoles from = Check.of("3b/b?b/3b");
        Check.due("with one MISSING", -1, from.reach(0, 0, 0));
        from.paint(1, 1, 0);
        Check.due("with all KNOWN", 1, from.reach(0, 0, 0));
    }

    private static void seams() {
        Sentences.of("Promise 28", "SEAMS: of each two DOTS next to one another (right, below), both KNOWN, of which "
                + "just one was filled in: TONE of the one less that of the other, without its sign, together "
                + "(what 0); how many such there are (1);");
        FilledHoles x = Check.of(AskEdges.RAMP);
        x.fill(1);
        // 30 beside 40 and 60, below 50, above 50
        AskEdges.all("seams", new int[] {80, 4, 30}, x::seams);
        x.hole(5, 0, 5, 0);
        AskEdges.all("one beside it MISSING: seams", new int[] {60, 3, 30}, x::seams);
        x.undo();
        x.paint(5, 0, 255);
        AskEdges.all("without its sign: seams", new int[] {10 + 30 + 20 + 225, 4, 225}, x::seams);
        FilledHoles corner = Check.of("?aaaaa/6a/6a/6a");
        corner.fill(1);
        corner.paint(1, 0, 7);
        corner.paint(0, 1, 8);
        AskEdges.all("a corner: seams", new int[] {15, 2, 8}, corner::seams);
        FilledHoles last = Check.of("6a/6a/6a/5a?");
        last.fill(1);
        last.paint(4, 3, 7);
        last.paint(5, 2, 9);
        AskEdges.all("the last corner: seams", new int[] {16, 2, 9}, last::seams);
        FilledHoles two = new FilledHoles();
        two.hole(3, 3, 4, 3);
        two.fill(60);
        Check.due("two filled in make none between them", 6, two.seams(1));
        two.hole(0, 4, 0, 4);
        two.hole(7, 3, 7, 3);
        two.fill(60);
        Check.due("nor does the end of a ROW with the next one's", 12, two.seams(1));
    }

    private static void noSeams() {
        Sentences.of("Promise 28", "the greatest of these (2; 0).");
        FilledHoles x = new FilledHoles();
        AskEdges.all("none filled in: seams", new int[] {0, 0, 0}, x::seams);
        x.paint(3, 3, 255);
        AskEdges.all("painted: seams", new int[] {0, 0, 0}, x::seams);
        x.hole(0, 0, 7, 7);
        AskEdges.all("nothing KNOWN: seams", new int[] {0, 0, 0}, x::seams);
        FilledHoles flat = new FilledHoles();
        flat.hole(3, 3, 3, 3);
        flat.fill(1);
        AskEdges.all("of alike TONES: seams", new int[] {0, 4, 0}, flat::seams);
        int[] wrong = {-1, 3, Integer.MIN_VALUE, Integer.MAX_VALUE};
        for (int what : wrong) {
            Check.dueOf("what " + what, BAD, () -> x.seams(what));
        }
        Check.due("refused", 4, x.status(1));
    }

    /** (4, 1) is as (1, 1) by WAY 1; by TURNS 0 there is WAY 0 alone. */
    private static void favourites() {
        Sentences.of("Promise 29", "The WAY that most of the latest FILLS that log() tells had, of alike many the "
                + "least");
        FilledHoles x = Check.of("abccba/deffed/ghiihg");
        x.set(4, 1);
        for (int i = 0; i < 20; i++) {
            x.hole(4, 1, 4, 1);
            x.fill(1);
        }
        Check.due("WAY 1", 1, x.favourite(0));
        Check.due("20 times", 20, x.favourite(1));
        x.set(4, 0);
        for (int i = 1; i <= 15; i++) {
            x.hole(4, 1, 4, 1);
            x.fill(1);
            // of 30 FILLS at most
            int ones = Math.min(20, 30 - i);
            Check.due("WAY after " + i, i < ones ? 1 : 0, x.favourite(0));
            Check.due("how many after " + i, Math.max(ones, i), x.favourite(1));
        }
        Check.due("15 each: the least", 0, x.favourite(0));
        x.undo();
        Check.due("undo() takes one back: 16 and 14", 1, x.favourite(0));
        Check.due("how many then", 16, x.favourite(1));
        x.undo();
        Check.due("the HOLE was no FILL", 16, x.favourite(1));
    }

    private static void noFavourite() {
        Sentences.of("Promise 29", "(NONE: there are none) (what 0), how many had it (1).");
        FilledHoles x = new FilledHoles();
        Check.due("none", -1, x.favourite(0));
        Check.due("none had it", 0, x.favourite(1));
        x.hole(3, 3, 3, 3);
        x.fill(1);
        Check.due("WAY 0", 0, x.favourite(0));
        Check.due("one had it", 1, x.favourite(1));
        x.undo();
        Check.due("taken back", -1, x.favourite(0));
        int[] wrong = {-1, 2, Integer.MIN_VALUE, Integer.MAX_VALUE};
        for (int what : wrong) {
            Check.dueOf("what " + what, BAD, () -> x.favourite(what));
        }
        Check.due("refused", 4, x.status(1));
    }

    private static void turning() {
        Sentences.of("Promise 30", "In thought: TURNS (0 to 3) by which FILLS as far as that goes have the least "
                + "DIFFERENCES together,");
        String[] shown = {"abc/def/ghi", "cba/fed/ihg", "ihg/fed/cba", "ghi/def/abc", "adg/beh/cfi", "gda/heb/ifc"};
        int[] due = {0, 1, 2, 2, 3, 3};
        for (int i = 0; i < shown.length; i++) {
            String[] rows = shown[i].split("/");
            FilledHoles x = Check.of("abc" + rows[0] + "/def" + rows[1] + "/ghi" + rows[2]);
            x.hole(4, 1, 4, 1);
            for (int turns = 0; turns <= 3; turns++) {
                x.set(4, turns);
                Check.due("TURNS, whatever they are", due[i], x.turning(0));
                Check.due("DIFFERENCES", 0, x.turning(1));
                Check.due("TURNS stay", turns, x.told(16));
            }
            Check.due("it is not so then", 1, x.told(3));
        }
        FilledHoles x = Check.of(AskEdges.RAMP);
        x.fill(1);
        x.hole(5, 1, 5, 1);
        Check.due("of FILLS in thought alone", 3200, x.turning(1));
        FilledHoles chequer = Check.of(GuidedEdges.CHEQUER);
        chequer.hole(10, 2, 11, 3);
        Check.due("FILLS that are not GUIDED", 0, chequer.turning(1));
    }

    private static void turningAlike() {
        Sentences.of("Promise 30", "of alike ones the least TURNS (what 0), these DIFFERENCES (1).");
        FilledHoles x = new FilledHoles();
        Check.due("nothing MISSING", 0, x.turning(0));
        Check.due("no DIFFERENCES", 0, x.turning(1));
        x.hole(3, 3, 5, 5);
        Check.due("each as good", 0, x.turning(0));
        x.hole(0, 0, 7, 7);
        Check.due("nothing KNOWN", 0, x.turning(0));
        int[] wrong = {-1, 2, Integer.MIN_VALUE, Integer.MAX_VALUE};
        for (int what : wrong) {
            Check.dueOf("what " + what, BAD, () -> x.turning(what));
        }
        Check.due("refused", 4, x.status(1));
    }

    /** (4, 4) was filled in from (1, 1). */
    private static void lent() {
        Sentences.of("Promise 31", "How many DOTS that were filled in have their ORIGIN in the PATCH of a DOT.");
        FilledHoles x = new FilledHoles();
        Check.due("none filled in", 0, x.lent(1, 1));
        x.hole(4, 4, 4, 4);
        x.fill(1);
        Check.due("ORIGIN", 11, 10 * x.dot(4, 4, 5) + x.dot(4, 4, 6));
        for (int size = 1; size <= 3; size++) {
            x.set(0, size);
            for (int i = 0; i < 64; i++) {
                boolean within = i % 8 <= 1 + size && i / 8 <= 1 + size;
                within = within && i % 8 >= 1 - size && i / 8 >= 1 - size;
                Check.due("lent(" + i % 8 + ", " + i / 8 + ") by SIZE " + size, within ? 1 : 0, x.lent(i % 8, i / 8));
            }
        }
        x.hole(4, 4, 4, 4);
        Check.due("MISSING", 0, x.lent(1, 1));
        int[][] wrong = {{8, 0}, {0, 8}, {-1, 0}, {0, -1}, {Integer.MAX_VALUE, 0}, {0, Integer.MIN_VALUE}};
        for (int[] at : wrong) {
            Check.dueOf("lent(" + at[0] + ", " + at[1] + ")", NO, () -> x.lent(at[0], at[1]));
        }
        Check.due("refused", 6, x.status(0));
        FilledHoles corner = new FilledHoles();
        corner.hole(0, 0, 0, 0);
        corner.hole(7, 7, 7, 7);
        corner.fill(2);
        Check.due("the first DOT and the last", 2, corner.lent(corner.dot(0, 0, 5), corner.dot(0, 0, 6))
                + (corner.dot(0, 0, 5) == corner.dot(7, 7, 5) ? 0 : 1));
        FilledHoles four = new FilledHoles();
        four.hole(4, 4, 5, 5);
        four.fill(1);
        Check.due("four of one FILL", 4, four.lent(1, 1));
        Check.due("one of them", 1, four.lent(0, 0));
    }

    private static void prints() {
        Sentences.of("Promise 32", "From 0 on, of all DOTS in order: 31 times what there is, and TONE "
                + "(NONE: MISSING).");
        FilledHoles x = Check.of("3a/3a/3a");
        Check.due("all 0", 0, x.print());
        x.paint(2, 2, 1);
        Check.due("the last", 1, x.print());
        x.paint(0, 0, 1);
        Check.due("the first: 31, eight times", 852891037441L + 1, x.print());
        x.hole(2, 2, 2, 2);
        Check.due("the last MISSING", 852891037441L - 1, x.print());
        x.hole(0, 0, 2, 2);
        Check.due("all MISSING", -(26439622160671L - 1) / 30, x.print());
        FilledHoles large = Check.of(TextEdges.rows("20z", 20));
        long due = 0;
        for (int i = 0; i < 400; i++) {
            due = due * 31 + 250;
        }
        Check.due("more than a long holds: what is left of it", due, large.print());
    }

    private static void status() {
        Sentences.of("Promise 33", "How many calls were refused: 0 NoSuchElementException, 1 IllegalArgumentException; "
                + "NONE for others.");
        FilledHoles x = new FilledHoles();
        Check.due("none", 0, x.status(0));
        Check.due("none", 0, x.status(1));
        for (int i = 1; i <= 20; i++) {
            Check.answer(() -> x.lent(8, 0));
            Check.due("NoSuchElementException", i, x.status(0));
            Check.answer(() -> x.fill(61));
            Check.due("IllegalArgumentException", i, x.status(1));
        }
        int[] others = {2, 3, -1, Integer.MIN_VALUE, Integer.MAX_VALUE};
        for (int what : others) {
            Check.due("status(" + what + ")", -1, x.status(what));
        }
        Check.due("status() is never refused", 20, x.status(1));
        Check.feed(x, "3a/3a/3a");
        x.text(8);
        x.paint(0, 0, 9);
        x.undo();
        Check.due("they stay by text() and undo()", 20, x.status(0));
        Check.due("they stay by text() and undo()", 20, x.status(1));
        FilledHoles other = new FilledHoles();
        Check.due("each object has its own", 0, other.status(0) + other.status(1));
    }

    private static void uses() {
        Sentences.of("What it is", "An object is used for at most 512 calls after it has been made;");
        FilledHoles x = new FilledHoles();
        for (int i = 1; i <= 509; i++) {
            int tone = i % 256;
            if (i % 3 == 0) {
                Check.answer(() -> x.paint(8, 0, tone));
            } else {
                x.paint(0, 0, tone);
            }
        }
        Check.due("the 510th call", 169, x.status(0));
        Check.due("the 511th call", 0, x.undo());
        // the 509th call is taken back, the 508th is not
        Check.due("the 512th call", 508 % 256, x.dot(0, 0, 0));
    }
}
