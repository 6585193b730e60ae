/** Each call on the least and on the greatest PICTURE, all KNOWN and all MISSING; and what is done in thought as told. */
final class LimitEdges {
    private static final String TERMS = "Terms";

    private LimitEdges() {
    }

    static void run() {
        greatest();
        greatestAllMissing();
        greatestChequered();
        least();
        inThoughtAsThen();
        inThoughtGuidedAsThen();
        turnsInThought();
    }

    private static void greatest() {
        Sentences.of(TERMS, "A PICTURE has W by H DOTS (3 to 20 each;");
        FilledHoles x = Check.of(TextEdges.rows("20b", 20));
        x.keep();
        x.hole(19, 19, 19, 19);
        AskEdges.all("one MISSING: told", new int[] {20, 20, 399, 1, 0, 1, 1}, x::told);
        AskEdges.all("rank", new int[] {750, 0, 0, 0, 0, 1, 750}, what -> x.rank(19, 19, what));
        AskEdges.all("next", new int[] {19, 19, 750, 1, 1, 0, 0}, x::next);
        AskEdges.all("search", new int[] {1, 1, 0, 323, 322, 0, 3, 0, 0}, what -> x.search(19, 19, what));
        AskEdges.all("front", new int[] {19, 19, 750}, what -> x.front(0, what));
        AskEdges.all("part", new int[] {1, 19, 19, 19, 19, 1}, what -> x.part(0, what));
        AskEdges.all("ring", new int[] {2, 10, 10, 10}, what -> x.ring(0, what));
        AskEdges.all("ahead", new int[] {0, 1, 0, 0, 750}, what -> x.ahead(60, what));
        AskEdges.all("tune", new int[] {1, 0, 0}, x::tune);
        AskEdges.all("turning", new int[] {0, 0}, x::turning);
        AskEdges.all("reach", new int[] {2, 18}, what -> x.reach(19, 19, what));
        AskEdges.all("flawBy", new int[] {0, 0, 0}, x::flawBy);
        Check.due("half", 10, x.half(1, 9, 9));
        Check.due("half of that", 10, x.half(2, 4, 4));
        Check.due("guide", 1, x.guide(2));
        AskEdges.all("filled in: dot", new int[] {10, 750, 1, 1, 1, 1, 1, -1, 0, 1}, what -> x.dot(19, 19, what));
        AskEdges.all("log", new int[] {19, 19, 1, 1, 0, 1, 750, 0, 0}, what -> x.log(0, what));
        AskEdges.all("seams", new int[] {0, 2, 0}, x::seams);
        Check.due("lent", 1, x.lent(2, 2));
        Check.due("not lent", 0, x.lent(19, 19));
        Check.due("flaw", 0, x.flaw());
        Check.due("undo", 1, x.undo());
    }

    private static void greatestAllMissing() {
        Sentences.of(TERMS, "or MISSING.");
        FilledHoles x = Check.of(TextEdges.rows("20?", 20));
        AskEdges.all("told", new int[] {20, 20, 0, 400, 0, 0, 1}, x::told);
        AskEdges.all("part", new int[] {400, 0, 0, 19, 19, 0}, what -> x.part(0, what));
        AskEdges.all("ring", new int[] {0, -1, -1, -1}, what -> x.ring(0, what));
        AskEdges.all("rank", new int[] {0, 0, 0, -1, -1, 1, 0}, what -> x.rank(19, 19, what));
        AskEdges.all("next", new int[] {-1, -1, -1, -1, -1, -1, -1}, x::next);
        AskEdges.all("tune", new int[] {1, 400, 0}, x::tune);
        Check.due("half", -1, x.half(2, 4, 4));
        Check.due("guide", 0, x.guide(2));
        Check.due("fill", 0, x.fill(60));
        Check.due("keep", 0, x.keep());
        Check.due("hole", 0, x.hole(0, 0, 19, 19));
        Check.due("undo", -1, x.undo());
        Check.due("flawBy", 0, x.flawBy(2));
        x.paint(10, 10, 7);
        AskEdges.all("one KNOWN: ring", new int[] {1, 7, 7, 7}, what -> x.ring(0, what));
        Check.due("one KNOWN: FRONT", 4, x.told(5));
        Check.due("one KNOWN: fill", 0, x.fill(60));
    }

    /** 200 PARTS of one DOT each, all of THE FRONT. */
    private static void greatestChequered() {
        Sentences.of(TERMS, "PARTS: MISSING DOTS that hang together (left, right, above, below)");
        FilledHoles x = Check.of(TextEdges.rows("20b", 20));
        for (int i = 0; i < 400; i += 2) {
            int at = i / 20 % 2 == 0 ? i : i + 1;
            x.hole(at % 20, at / 20, at % 20, at / 20);
        }
        Check.due("PARTS", 200, x.told(6));
        Check.due("FRONT", 200, x.told(5));
        AskEdges.all("the last: part", new int[] {1, 19, 19, 19, 19, 1}, what -> x.part(199, what));
        AskEdges.all("the last: ring", new int[] {2, 10, 10, 10}, what -> x.ring(199, what));
        Check.dueOf("none beyond", Check.NO_SUCH, () -> x.part(200, 0));
        // STEADY: 444 within, at the edges 500, in two corners 500
        AskEdges.all("front", new int[] {0, 0, 500}, what -> x.front(0, what));
        AskEdges.all("the last of THE FRONT", new int[] {18, 18, 444}, what -> x.front(199, what));
        Check.due("no more", -1, x.front(200, 0));
        Check.due("no SOURCE", 0, x.fill(60));
    }

    private static void least() {
        Sentences.of(TERMS, "(3 to 20 each; 8 by 8 at first)");
        FilledHoles x = Check.of("3b/bb?/3b");
        AskEdges.all("told", new int[] {3, 3, 8, 1, 0, 1, 1}, x::told);
        AskEdges.all("rank", new int[] {833, 0, 0, 0, 0, 1, 833}, what -> x.rank(2, 1, what));
        AskEdges.all("next", new int[] {2, 1, 833, -1, -1, -1, -1}, x::next);
        Check.due("fill", 0, x.fill(60));
        Check.due("guide", 0, x.guide(2));
        AskEdges.all("tune", new int[] {1, 1, 0}, x::tune);
        AskEdges.all("reach", new int[] {-1, -1}, what -> x.reach(1, 1, what));
        x.paint(2, 1, 10);
        AskEdges.all("all KNOWN: reach", new int[] {1, 1}, what -> x.reach(2, 2, what));
        AskEdges.all("all KNOWN: search", new int[] {1, 1, 0, 1, 0, 0, 9, 0, 0}, what -> x.search(1, 1, what));
    }

    /** TONES without a pattern, so that each setting tells; part of it filled in before, two HOLES MISSING. */
    private static FilledHoles uneven(int[] settings) {
        StringBuilder text = new StringBuilder();
        int seed = 7;
        for (int i = 0; i < 12 * 11; i++) {
            text.append(i > 0 && i % 12 == 0 ? "/" : "");
            seed = (seed * 75 + 74) % 65537;
            text.append((char) ('a' + seed % 26));
        }
        FilledHoles x = Check.of(text.toString());
        x.keep();
        x.hole(1, 1, 2, 2);
        x.fill(60);
        x.hole(7, 3, 10, 7);
        x.hole(3, 8, 5, 9);
        for (int what = 0; what < 7; what++) {
            x.set(what, settings[what]);
        }
        return x;
    }

    private static final int[][] SETTINGS = {{1, 20, 0, 0, 0, 0, 0}, {2, 20, 0, 0, 0, 0, 0}, {1, 4, 0, 0, 0, 0, 0},
        {1, 20, 1, 0, 0, 0, 0}, {1, 20, 0, 1, 0, 0, 0}, {1, 20, 0, 2, 0, 0, 0}, {1, 20, 0, 0, 3, 0, 0},
        {1, 20, 0, 0, 0, 1, 0}, {1, 20, 0, 0, 0, 0, 1}};

    /** What is told in thought is what fill() does then, by whatever settings; and each of them makes a difference. */
    private static void inThoughtAsThen() {
        Sentences.of(TERMS, "\"In thought\" what is to be done is done, and told, and is not so then.");
        java.util.Set<String> seen = new java.util.HashSet<>();
        for (int[] settings : SETTINGS) {
            FilledHoles x = uneven(settings);
            String name = java.util.Arrays.toString(settings);
            int fills = x.told(7);
            int differences = x.told(15);
            int flaw = x.flaw();
            int[] thought = {x.ahead(60, 0), x.ahead(60, 1), x.ahead(60, 2), x.ahead(60, 3), x.flawBy(0)};
            x.fill(60);
            AskEdges.all(name + ": then", new int[] {x.told(3), x.told(7) - fills, x.told(15) - differences, x.flaw(),
                x.flaw() - flaw}, i -> thought[i]);
            seen.add(x.print() + " " + x.told(15));
        }
        Check.due("settings that make a difference", SETTINGS.length, seen.size());
    }

    private static void inThoughtGuidedAsThen() {
        Sentences.of("Promise 25", "In thought: GUIDED (levels 1, 2)");
        for (int[] settings : SETTINGS) {
            for (int levels = 1; levels <= 2; levels++) {
                FilledHoles x = uneven(settings);
                int flaw = x.flaw();
                int thought = x.flawBy(levels);
                x.guide(levels);
                Check.due(java.util.Arrays.toString(settings) + " at " + levels, x.flaw() - flaw, thought);
            }
        }
    }

    private static void turnsInThought() {
        Sentences.of("Promise 30", "TURNS (0 to 3) by which FILLS as far as that goes have the least DIFFERENCES");
        for (int[] settings : SETTINGS) {
            int least = Integer.MAX_VALUE;
            int best = -1;
            for (int turns = 0; turns <= 3; turns++) {
                FilledHoles x = uneven(settings);
                x.set(4, turns);
                int before = x.told(15);
                x.fill(60);
                if (x.told(15) - before < least) {
                    least = x.told(15) - before;
                    best = turns;
                }
            }
            FilledHoles x = uneven(settings);
            Check.due("TURNS by " + java.util.Arrays.toString(settings), best, x.turning(0));
            Check.due("DIFFERENCES by " + java.util.Arrays.toString(settings), least, x.turning(1));
        }
    }
}
