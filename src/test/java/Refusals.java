/** Every kind of call that is refused: by which exception, that all stays as it was, and how status() counts it. */
final class Refusals {
    /** One call of an object. */
    interface Act {
        long on(FilledHoles x);
    }

    /** A call that is refused, as it is written. */
    private record Refused(String call, Act act) {
    }

    private static final int MIN = Integer.MIN_VALUE;
    private static final int MAX = Integer.MAX_VALUE;

    private Refusals() {
    }

    static void run() {
        noSuchDots();
        noSuchPartsAndFills();
        aheadOfOthers();
        otherArguments();
        otherNumbers();
        otherWhats();
    }

    /** An object of 6 by 5 that has some of all there is: FILLS, TRUTH, HOLES, a FAULT, bytes, refusals. */
    static FilledHoles busy() {
        FilledHoles x = Check.of("abcdef/bcdefg/cdefgh/defghi/efghij");
        x.keep();
        x.set(1, 7);
        x.set(3, 1);
        x.set(4, 1);
        x.set(5, 1);
        x.hole(4, 1, 4, 1);
        x.fill(1);
        x.paint(0, 0, 33);
        x.hole(4, 3, 5, 4);
        Check.feed(x, "abc/def/gh!");
        x.text(11);
        x.feed(0x33612f33, 0x612f3361, 0, 0, 0);
        Check.answer(() -> x.dot(9, 9, 0));
        Check.answer(() -> x.fill(0));
        Check.answer(() -> x.fill(0));
        return x;
    }

    /** Each on an object of its own, which is then held against one that was not asked. */
    private static void refused(long due, Refused... calls) {
        FilledHoles twin = busy();
        String dueState = State.of(twin);
        int dueUndo = twin.undo();
        String dueThen = State.of(twin);
        boolean noSuch = due == Check.NO_SUCH;
        for (Refused refused : calls) {
            FilledHoles x = busy();
            Check.dueOf(refused.call(), due, () -> refused.act().on(x));
            Check.due(refused.call() + ": NoSuchElementException counted", noSuch ? 2 : 1, x.status(0));
            Check.due(refused.call() + ": IllegalArgumentException counted", noSuch ? 2 : 3, x.status(1));
            Check.same(refused.call() + ": all stays", dueState, State.of(x));
            Check.due(refused.call() + ": what can be taken back stays", dueUndo, x.undo());
            Check.same(refused.call() + ": taken back", dueThen, State.of(x));
        }
    }

    private static void noSuchDots() {
        Sentences.of("Promise 6", "NoSuchElementException: no such DOT");
        int[][] none = {{6, 0}, {0, 5}, {-1, 0}, {0, -1}, {MAX, 0}, {0, MIN}};
        for (int[] at : none) {
            int a = at[0];
            int b = at[1];
            String dot = "(" + a + ", " + b;
            refused(Check.NO_SUCH,
                    new Refused("hole" + dot + ", 5, 4)", x -> x.hole(a, b, 5, 4)),
                    new Refused("hole(0, 0, to" + dot + "))", x -> x.hole(0, 0, a, b)),
                    new Refused("paint" + dot + ", 1)", x -> x.paint(a, b, 1)),
                    new Refused("dot" + dot + ", 0)", x -> x.dot(a, b, 0)),
                    new Refused("rank" + dot + ", 0)", x -> x.rank(a, b, 0)),
                    new Refused("search" + dot + ", 0)", x -> x.search(a, b, 0)),
                    new Refused("difference" + dot + ", 1, 1, 0)", x -> x.difference(a, b, 1, 1, 0)),
                    new Refused("difference(1, 1, at" + dot + "), 0)", x -> x.difference(1, 1, a, b, 0)),
                    new Refused("reach" + dot + ", 0)", x -> x.reach(a, b, 0)),
                    new Refused("lent" + dot + ")", x -> x.lent(a, b)));
        }
    }

    /** There are one PART and one FILL. */
    private static void noSuchPartsAndFills() {
        Sentences.of("Promise 6", "PART, FILL (so below, ahead of others).");
        int[] none = {1, 2, -1, 30, MIN, MAX};
        for (int k : none) {
            refused(Check.NO_SUCH,
                    new Refused("part(" + k + ", 0)", x -> x.part(k, 0)),
                    new Refused("ring(" + k + ", 0)", x -> x.ring(k, 0)),
                    new Refused("log(" + k + ", 0)", x -> x.log(k, 0)));
        }
    }

    private static void aheadOfOthers() {
        Sentences.of("Promise 6", "(so below, ahead of others).");
        refused(Check.NO_SUCH,
                new Refused("hole(6, 4, 0, 0)", x -> x.hole(6, 4, 0, 0)),
                new Refused("hole(5, 4, -1, 0)", x -> x.hole(5, 4, -1, 0)),
                new Refused("paint(6, 0, 256)", x -> x.paint(6, 0, 256)),
                new Refused("dot(6, 0, 10)", x -> x.dot(6, 0, 10)),
                new Refused("rank(0, 5, 7)", x -> x.rank(0, 5, 7)),
                new Refused("search(-1, 0, 9)", x -> x.search(-1, 0, 9)),
                new Refused("difference(6, 0, 1, 1, 16)", x -> x.difference(6, 0, 1, 1, 16)),
                new Refused("difference(1, 1, 6, 0, -1)", x -> x.difference(1, 1, 6, 0, -1)),
                new Refused("part(1, 6)", x -> x.part(1, 6)),
                new Refused("ring(-1, 4)", x -> x.ring(-1, 4)),
                new Refused("log(1, 9)", x -> x.log(1, 9)),
                new Refused("reach(0, -1, 2)", x -> x.reach(0, -1, 2)));
    }

    private static void otherArguments() {
        Sentences.of("Promise 5", "IllegalArgumentException: another argument (so below).");
        int[] least = {1, 1, 0, 0, 0, 0, 0};
        int[] most = {3, 20, 1, 2, 3, 1, 1};
        for (int i = 0; i < 7; i++) {
            int what = i;
            refused(Check.BAD_ARGUMENT,
                    new Refused("set(" + what + ", below)", x -> x.set(what, least[what] - 1)),
                    new Refused("set(" + what + ", above)", x -> x.set(what, most[what] + 1)),
                    new Refused("set(" + what + ", MIN)", x -> x.set(what, MIN)),
                    new Refused("set(" + what + ", MAX)", x -> x.set(what, MAX)));
        }
        refused(Check.BAD_ARGUMENT,
                new Refused("set(-1, 1)", x -> x.set(-1, 1)),
                new Refused("set(7, 1)", x -> x.set(7, 1)),
                new Refused("hole(1, 0, 0, 0)", x -> x.hole(1, 0, 0, 0)),
                new Refused("hole(0, 1, 0, 0)", x -> x.hole(0, 1, 0, 0)),
                new Refused("hole(5, 4, 4, 3)", x -> x.hole(5, 4, 4, 3)),
                new Refused("paint(4, 3, 256)", x -> x.paint(4, 3, 256)),
                new Refused("paint(4, 3, -1)", x -> x.paint(4, 3, -1)),
                new Refused("paint(0, 0, MIN)", x -> x.paint(0, 0, MIN)));
    }

    private static void otherNumbers() {
        Sentences.of("Promise 5", "another argument (so below).");
        int[] fills = {0, -1, 61, MIN, MAX};
        for (int n : fills) {
            refused(Check.BAD_ARGUMENT,
                    new Refused("fill(" + n + ")", x -> x.fill(n)),
                    new Refused("ahead(" + n + ", 0)", x -> x.ahead(n, 0)),
                    new Refused("text(not " + n + ")", x -> x.text(n == 0 ? 21 : n)));
        }
        int[] levels = {-1, 3, MIN, MAX};
        for (int n : levels) {
            refused(Check.BAD_ARGUMENT,
                    new Refused("guide(" + n + ")", x -> x.guide(n)),
                    new Refused("half(" + n + ", 0, 0)", x -> x.half(n, 0, 0)),
                    new Refused("flawBy(" + n + ")", x -> x.flawBy(n)));
        }
        refused(Check.BAD_ARGUMENT,
                new Refused("guide(0)", x -> x.guide(0)),
                new Refused("half(0, 0, 0)", x -> x.half(0, 0, 0)),
                new Refused("half(3, -1, -1)", x -> x.half(3, -1, -1)));
    }

    /** Of each call the first what beyond those told, and what is below 0. */
    private static void otherWhats() {
        Sentences.of("Promise 5", "IllegalArgumentException: another argument");
        int[] beyond = {0, 1, MAX - 100};
        for (int more : beyond) {
            refused(Check.BAD_ARGUMENT,
                    new Refused("told(19)", x -> x.told(19 + more)),
                    new Refused("dot(.., 10)", x -> x.dot(0, 0, 10 + more)),
                    new Refused("rank(KNOWN, 7)", x -> x.rank(0, 0, 7 + more)),
                    new Refused("rank(MISSING, 7)", x -> x.rank(4, 3, 7 + more)),
                    new Refused("next(7)", x -> x.next(7 + more)),
                    new Refused("search(.., 9)", x -> x.search(4, 3, 9 + more)),
                    new Refused("difference(.., 16)", x -> x.difference(4, 3, 1, 1, 16 + more)),
                    new Refused("difference(no SOURCE, 16)", x -> x.difference(4, 3, 0, 0, 16 + more)),
                    new Refused("front(0, 3)", x -> x.front(0, 3 + more)),
                    new Refused("front(-1, 3)", x -> x.front(-1, 3 + more)),
                    new Refused("part(0, 6)", x -> x.part(0, 6 + more)),
                    new Refused("ring(0, 4)", x -> x.ring(0, 4 + more)),
                    new Refused("log(0, 9)", x -> x.log(0, 9 + more)),
                    new Refused("ahead(1, 5)", x -> x.ahead(1, 5 + more)),
                    new Refused("tune(3)", x -> x.tune(3 + more)),
                    new Refused("reach(.., 2)", x -> x.reach(0, 0, 2 + more)),
                    new Refused("seams(3)", x -> x.seams(3 + more)),
                    new Refused("favourite(2)", x -> x.favourite(2 + more)),
                    new Refused("turning(2)", x -> x.turning(2 + more)));
        }
        int[] below = {-1, -2, MIN};
        for (int what : below) {
            refused(Check.BAD_ARGUMENT,
                    new Refused("told(" + what + ")", x -> x.told(what)),
                    new Refused("dot(.., " + what + ")", x -> x.dot(0, 0, what)),
                    new Refused("rank(KNOWN, " + what + ")", x -> x.rank(0, 0, what)),
                    new Refused("rank(MISSING, " + what + ")", x -> x.rank(4, 3, what)),
                    new Refused("next(" + what + ")", x -> x.next(what)),
                    new Refused("search(.., " + what + ")", x -> x.search(4, 3, what)),
                    new Refused("difference(.., " + what + ")", x -> x.difference(4, 3, 1, 1, what)),
                    new Refused("front(0, " + what + ")", x -> x.front(0, what)),
                    new Refused("part(0, " + what + ")", x -> x.part(0, what)),
                    new Refused("ring(0, " + what + ")", x -> x.ring(0, what)),
                    new Refused("log(0, " + what + ")", x -> x.log(0, what)),
                    new Refused("ahead(1, " + what + ")", x -> x.ahead(1, what)),
                    new Refused("tune(" + what + ")", x -> x.tune(what)),
                    new Refused("reach(.., " + what + ")", x -> x.reach(0, 0, what)),
                    new Refused("seams(" + what + ")", x -> x.seams(what)),
                    new Refused("favourite(" + what + ")", x -> x.favourite(what)),
                    new Refused("turning(" + what + ")", x -> x.turning(what)));
        }
    }
}
