import java.util.ArrayDeque;
import java.util.Deque;

/** The edges that promises 1 to 11 name: what changes the object. */
final class ChangeEdges {
    private static final long NO = Check.NO_SUCH;
    private static final long BAD = Check.BAD_ARGUMENT;

    private ChangeEdges() {
    }

    static void run() {
        aNewObject();
        bytesOfANumber();
        bytesThereAre();
        noMoreThanThreeHundred();
        theFirstBytes();
        settingsStay();
        nothingToTakeBack();
        truthByWAndH();
        missingByText();
        faultsLessTen();
        bytesThatThereAreNot();
        placeOfTheFault();
        noFault();
        settings();
        otherSettings();
        holes();
        noSuchDot();
        backwards();
        paintings();
        paintedFromMissing();
        kept();
        fills();
        fillsAtMost();
        guidedFills();
        asManyHalvesAsThereAre();
        takenBack();
        changesThatCount();
        tenAtMost();
        noneToTakeBack();
    }

    /** H 20, W 20; all but the first six columns are MISSING: more than 60 FILLS by SIZE 1. */
    static FilledHoles large() {
        FilledHoles x = Check.of("20a/20b/20c/20a/20b/20c/20a/20b/20c/20a/20b/20c/20a/20b/20c/20a/20b/20c/20a/20b");
        x.keep();
        x.hole(6, 0, 19, 19);
        return x;
    }

    private static void aNewObject() {
        Sentences.of("Promise 1", "As told above (at first), no TRUTH.");
        FilledHoles x = new FilledHoles();
        int[] due = {8, 8, 64, 0, 0, 0, 0, 0, 0, 0, 1, 20, 0, 0, 0, 0, 0, 0, 0};
        for (int what = 0; what < due.length; what++) {
            Check.due("told(" + what + ")", due[what], x.told(what));
        }
        Check.due("flaw()", -1, x.flaw());
        Check.due("fault()", -1, x.fault());
        Check.due("undo()", -1, x.undo());
        Check.due("print()", 0, x.print());
        Check.due("status()", 0, x.status(0) + x.status(1));
        Check.dueOf("log()", NO, () -> x.log(0, 0));
        Check.dueOf("part()", NO, () -> x.part(0, 0));
        Check.due("next()", -1, x.next(0));
    }

    private static void bytesOfANumber() {
        Sentences.of("Promise 2", "Twenty bytes come on the TAPE, of each number the highest first:");
        FilledHoles x = new FilledHoles();
        // "abcd" "efgh" "ij/k" "lmno" "pqrs"; then "t/uv" "wxyz" "a???"
        x.feed(0x61626364, 0x65666768, 0x696a2f6b, 0x6c6d6e6f, 0x70717273);
        x.feed(0x742f7576, 0x7778797a, 0x613f3f3f, 0, 0);
        Check.due("text", 3, x.text(32));
        for (int i = 0; i < 26; i++) {
            Check.due("byte " + i, 10 * i, x.dot(i % 10, i / 10, 0));
        }
        Check.due("byte 28", 0, x.dot(6, 2, 0));
        FilledHoles negative = new FilledHoles();
        // a number below 0 has a first byte of 128 or more, which can't stand in a TEXT
        negative.feed(0x61616161, 0xffffffff, Integer.MIN_VALUE, 0, 0);
        Check.due("FAULT", -9, negative.text(20));
        Check.due("its place", 4, negative.fault());
    }

    private static void bytesThereAre() {
        Sentences.of("Promise 2", "how many there are;");
        FilledHoles x = new FilledHoles();
        for (int i = 1; i <= 15; i++) {
            Check.due("feed", 20 * i, x.feed(i, i, i, i, i));
            Check.due("told", 20 * i, x.told(9));
        }
        x.text(0);
        Check.due("from an empty TAPE", 20, x.feed(0, 0, 0, 0, 0));
    }

    private static void noMoreThanThreeHundred() {
        Sentences.of("Promise 2", "NONE, doing nothing, if there would be more than 300.");
        FilledHoles x = new FilledHoles();
        String text = TextEdges.rows("abcdefghijkl3m", 19) + "/abcdefghijklmn?";
        Check.feed(x, text.substring(0, 280));
        Check.due("280", 280, x.told(9));
        Check.due("just 300", 300, feedLast(x, text));
        Check.due("more", -1, x.feed(0x21212121, 0x21212121, 0x21212121, 0x21212121, 0x21212121));
        Check.due("and more", -1, x.feed(0, 0, 0, 0, 0));
        Check.due("the TAPE stays", 300, x.told(9));
        Check.due("its bytes stay", 1, x.text(300));
        Check.due("there is room again", 20, x.feed(0, 0, 0, 0, 0));
        Check.due("it is no refusal", 0, x.status(0) + x.status(1));
    }

    private static long feedLast(FilledHoles x, String text) {
        Check.feed(x, text.substring(280));
        return x.told(9);
    }

    private static void theFirstBytes() {
        Sentences.of("Promise 3", "The first n bytes of the TAPE (empty then) are the PICTURE");
        FilledHoles x = new FilledHoles();
        Check.feed(x, "4a/4b/4c/4d!");
        Check.due("the first eight", 0, x.text(8));
        Check.due("H", 3, x.told(1));
        Check.due("the TAPE is empty", 0, x.told(9));
        Check.feed(x, "5a/5b/5c/5d/5e/5f/5g");
        Check.due("all of it", 0, x.text(20));
        Check.due("H", 7, x.told(1));
        Check.due("the TAPE is empty", 0, x.told(9));
        Check.feed(x, "9");
        Check.due("none of it", -9, x.text(0));
        Check.due("the TAPE is empty", 0, x.told(9));
        Check.feed(x, "3a/3?/3c");
        Check.due("what was left is not ahead of it", 3, x.text(8));
        // a greater PICTURE, then a lesser one, leaves nothing of the greater one
        Check.feed(x, TextEdges.rows("20z", 20));
        x.text(79);
        Check.feed(x, "3b/3b/3b");
        x.text(8);
        Check.due("KNOWN", 9, x.told(2));
        Check.due("MISSING", 0, x.told(3));
        Check.due("half", -2, x.half(1, 0, 0));
    }

    private static void settingsStay() {
        Sentences.of("Promise 3", "(SIZE .. stay;");
        FilledHoles x = new FilledHoles();
        int[] values = {3, 11, 1, 2, 3, 1, 1};
        int[] told = {10, 11, 12, 13, 16, 17, 18};
        for (int what = 0; what < 7; what++) {
            x.set(what, values[what]);
        }
        Check.feed(x, "3a/3b/3c");
        x.text(8);
        for (int what = 0; what < 7; what++) {
            Check.due("setting " + what, values[what], x.told(told[what]));
        }
        Check.feed(x, "3a/3b/3");
        x.text(7);
        for (int what = 0; what < 7; what++) {
            Check.due("after a FAULT, setting " + what, values[what], x.told(told[what]));
        }
    }

    private static void nothingToTakeBack() {
        Sentences.of("Promise 3", "nothing can be taken back;");
        FilledHoles x = new FilledHoles();
        for (int i = 0; i < 11; i++) {
            x.paint(i % 8, 0, 9);
        }
        Check.due("ten", 10, x.told(8));
        Check.feed(x, TextEdges.rows("8b", 8));
        x.text(23);
        Check.due("none", 0, x.told(8));
        Check.due("undo", -1, x.undo());
        Check.due("as the text has it", 10, x.dot(0, 0, 0));
        x.paint(0, 0, 1);
        Check.due("one", 1, x.told(8));
        x.undo();
        Check.due("undo goes back to the text", 10, x.dot(0, 0, 0));
        Check.due("and no further", -1, x.undo());
    }

    private static void truthByWAndH() {
        Sentences.of("Promise 3", "TRUTH is none, if it has another W or H):");
        String[] texts = {"5a/5a/5a/5a", "4a/4a/4a/4a", "6a/6a/6a/6a", "5a/5a/5a", "5a/5a/5a/5a/5a", "4a/4a/4a/4a/4a"};
        int[] due = {1, 0, 0, 0, 0, 0};
        for (int i = 0; i < texts.length; i++) {
            FilledHoles x = Check.of("5b/5b/5b/5b");
            x.keep();
            int n = Check.feed(x, texts[i]);
            x.text(n);
            Check.due("TRUTH then: " + texts[i], due[i], x.told(14));
            Check.due("FLAW then: " + texts[i], due[i] - 1, x.flaw());
        }
        FilledHoles x = Check.of("7b/7b/7b");
        x.keep();
        int n = Check.feed(x, "7c/4c?2c/7c");
        x.text(n);
        x.fill(1);
        Check.due("it is the same TRUTH", 100, x.flaw());
        n = Check.feed(x, "7c/7c/7c/7c");
        x.text(n);
        n = Check.feed(x, "7c/7c/7c");
        x.text(n);
        Check.due("it does not come again", 0, x.told(14));
    }

    private static void missingByText() {
        Sentences.of("Promise 3", "how many DOTS are MISSING;");
        FilledHoles x = new FilledHoles();
        String[] texts = {"3a/3a/3a", "aaa/a?a/aaa", "3?/3?/3?", TextEdges.rows("20?", 20)};
        int[] due = {0, 1, 9, 400};
        for (int i = 0; i < texts.length; i++) {
            int n = Check.feed(x, texts[i]);
            Check.due(texts[i], due[i], x.text(n));
            Check.due("told", due[i], x.told(3));
        }
    }

    private static void faultsLessTen() {
        Sentences.of("Promise 3", "or the FAULT less 10 (all stays).");
        String[] texts = {"aaA", "aa1a", "3a/4a", "aa/3a", "3a/3a"};
        for (int kind = 1; kind <= 5; kind++) {
            FilledHoles x = Refusals.busy();
            FilledHoles twin = Refusals.busy();
            twin.text(0);
            x.text(0);
            int n = Check.feed(x, texts[kind - 1]);
            Check.due(texts[kind - 1], kind - 10, x.text(n));
            // but for the place of the FAULT
            Check.same("all stays", State.of(twin).replaceFirst("\\| -?[0-9]+", "|"),
                    State.of(x).replaceFirst("\\| -?[0-9]+", "|"));
            Check.due("a FAULT is no refusal", twin.status(0) + 10 * twin.status(1), x.status(0) + 10 * x.status(1));
            Check.due("undo", twin.undo(), x.undo());
            Check.due("as it was", twin.print(), x.print());
        }
    }

    private static void bytesThatThereAreNot() {
        Sentences.of("Promise 3", "IllegalArgumentException: n is not 0 to the TAPE's bytes (it stays).");
        FilledHoles x = new FilledHoles();
        Check.dueOf("1 of 0", BAD, () -> x.text(1));
        Check.dueOf("-1 of 0", BAD, () -> x.text(-1));
        Check.due("0 of 0 is a FAULT", -9, x.text(0));
        Check.feed(x, "3a/3?/3c");
        int[] wrong = {-1, 21, 300, 301, Integer.MIN_VALUE, Integer.MAX_VALUE};
        for (int n : wrong) {
            Check.dueOf("text(" + n + ")", BAD, () -> x.text(n));
            Check.due("the TAPE stays", 20, x.told(9));
            Check.due("the FAULT stays", 0, x.fault());
        }
        Check.due("refused", 8, x.status(1));
        Check.due("its bytes stay", 3, x.text(8));
    }

    private static void placeOfTheFault() {
        Sentences.of("Promise 4", "The place of the FAULT of the latest text();");
        FilledHoles x = new FilledHoles();
        Check.feed(x, "!");
        x.text(1);
        Check.due("the first byte", 0, x.fault());
        Check.feed(x, "abc/def/ghi/j");
        x.text(13);
        Check.due("the length", 13, x.fault());
        String long300 = TextEdges.rows("abcdefghijkl3m", 19) + "/abcdefghijklmn!";
        Check.feed(x, long300);
        x.text(300);
        Check.due("the last of 300 bytes", 299, x.fault());
        Check.due("asked again", 299, x.fault());
        Check.answer(() -> x.text(1));
        Check.due("a refused text() has none", 299, x.fault());
        x.undo();
        x.feed(0, 0, 0, 0, 0);
        Check.due("nor has another call", 299, x.fault());
    }

    private static void noFault() {
        Sentences.of("Promise 4", "NONE without.");
        FilledHoles x = new FilledHoles();
        Check.due("without a text()", -1, x.fault());
        Check.feed(x, "3a/3a/3a");
        x.text(8);
        Check.due("without a FAULT", -1, x.fault());
        x.text(0);
        Check.due("with one", 0, x.fault());
        Check.feed(x, "3a/3a/3a");
        x.text(8);
        Check.due("without a FAULT again", -1, x.fault());
    }

    private static void settings() {
        Sentences.of("Promise 5", "0 SIZE, 1 REACH, 2 FROM, 3 RANKED (0 to 2), 4 TURNS (0 to 3), 5 WEIGHED (0, 1), "
                + "6 SHIFTED (0, 1) from now on: what it was.");
        int[] first = {1, 20, 0, 0, 0, 0, 0};
        int[] least = {1, 1, 0, 0, 0, 0, 0};
        int[] most = {3, 20, 1, 2, 3, 1, 1};
        int[] told = {10, 11, 12, 13, 16, 17, 18};
        FilledHoles x = new FilledHoles();
        for (int what = 0; what < 7; what++) {
            int was = first[what];
            for (int v = least[what]; v <= most[what]; v++) {
                Check.due("set(" + what + ", " + v + ")", was, x.set(what, v));
                Check.due("told", v, x.told(told[what]));
                was = v;
            }
            for (int other = what + 1; other < 7; other++) {
                Check.due("no other", first[other], x.told(told[other]));
            }
        }
        Check.due("it is not to be taken back", 0, x.told(8));
    }

    private static void otherSettings() {
        Sentences.of("Promise 5", "IllegalArgumentException: another argument (so below).");
        int[] least = {1, 1, 0, 0, 0, 0, 0};
        int[] most = {3, 20, 1, 2, 3, 1, 1};
        int[] told = {10, 11, 12, 13, 16, 17, 18};
        FilledHoles x = new FilledHoles();
        int refused = 0;
        for (int i = 0; i < 7; i++) {
            int what = i;
            int was = x.told(told[what]);
            int[] wrong = {least[what] - 1, most[what] + 1, Integer.MIN_VALUE, Integer.MAX_VALUE};
            for (int v : wrong) {
                Check.dueOf("set(" + what + ", " + v + ")", BAD, () -> x.set(what, v));
                refused++;
                Check.due("it stays", was, x.told(told[what]));
            }
        }
        int[] others = {-1, 7, 10, Integer.MIN_VALUE, Integer.MAX_VALUE};
        for (int what : others) {
            Check.dueOf("set(" + what + ", 1)", BAD, () -> x.set(what, 1));
            refused++;
        }
        Check.due("refused", refused, x.status(1));
        Check.due("none otherwise", 0, x.status(0));
    }

    private static void holes() {
        Sentences.of("Promise 6", "The DOTS from (x, y) to (toX, toY) are MISSING (a HOLE): how many were not.");
        FilledHoles x = new FilledHoles();
        Check.due("one DOT", 1, x.hole(0, 0, 0, 0));
        Check.due("again", 0, x.hole(0, 0, 0, 0));
        Check.due("a ROW, with it", 7, x.hole(0, 0, 7, 0));
        Check.due("the last DOT", 1, x.hole(7, 7, 7, 7));
        Check.due("a column", 6, x.hole(7, 0, 7, 7));
        Check.due("MISSING", 15, x.told(3));
        Check.due("all", 49, x.hole(0, 0, 7, 7));
        Check.due("all again", 0, x.hole(0, 0, 7, 7));
        Check.due("MISSING", 64, x.told(3));
        FilledHoles y = new FilledHoles();
        y.hole(2, 3, 4, 5);
        for (int i = 0; i < 64; i++) {
            boolean within = i % 8 >= 2 && i % 8 <= 4 && i / 8 >= 3 && i / 8 <= 5;
            Check.due("DOT " + i, within ? -1 : 0, y.dot(i % 8, i / 8, 0));
        }
        FilledHoles filled = new FilledHoles();
        filled.hole(3, 3, 3, 3);
        filled.fill(1);
        Check.due("one that was filled in", 1, filled.hole(3, 3, 3, 3));
        Check.due("it is no more", 0, filled.told(4));
        Check.due("its FILL stays told", 1, filled.told(7));
    }

    private static void noSuchDot() {
        Sentences.of("Promise 6", "NoSuchElementException: no such DOT, PART, FILL (so below, ahead of others).");
        FilledHoles x = new FilledHoles();
        int[][] wrong = {{-1, 0, 7, 7}, {0, -1, 7, 7}, {0, 0, 8, 7}, {0, 0, 7, 8}, {8, 0, 8, 0}, {0, 8, 0, 8},
            {5, 5, -1, 5}, {5, 5, 5, -1}, {8, 8, 0, 0}, {Integer.MIN_VALUE, 0, 0, 0},
            {0, 0, Integer.MAX_VALUE, Integer.MAX_VALUE}};
        for (int[] at : wrong) {
            Check.dueOf("hole(" + at[0] + ", " + at[1] + ", " + at[2] + ", " + at[3] + ")", NO,
                    () -> x.hole(at[0], at[1], at[2], at[3]));
        }
        Check.due("nothing is MISSING", 0, x.told(3));
        Check.due("refused", wrong.length, x.status(0));
        Check.due("ahead of others", 0, x.status(1));
    }

    private static void backwards() {
        Sentences.of("Promise 6", "IllegalArgumentException: the second is to the left or above the first.");
        FilledHoles x = new FilledHoles();
        int[][] wrong = {{1, 0, 0, 0}, {0, 1, 0, 0}, {7, 7, 0, 0}, {4, 4, 3, 7}, {4, 4, 7, 3}};
        for (int[] at : wrong) {
            Check.dueOf("hole(" + at[0] + ", " + at[1] + ", " + at[2] + ", " + at[3] + ")", BAD,
                    () -> x.hole(at[0], at[1], at[2], at[3]));
        }
        Check.due("nothing is MISSING", 0, x.told(3));
        Check.due("refused", wrong.length, x.status(1));
        Check.due("none otherwise", 0, x.status(0));
        Check.due("alike is neither", 1, x.hole(4, 4, 4, 4));
    }

    private static void paintings() {
        Sentences.of("Promise 7", "A DOT is KNOWN with a TONE, not filled in, SURE 1,000: TONE that it had;");
        FilledHoles x = new FilledHoles();
        Check.due("at first", 0, x.paint(7, 7, 255));
        Check.due("255", 255, x.paint(7, 7, 0));
        Check.due("0", 0, x.paint(7, 7, 128));
        Check.due("TONE", 128, x.dot(7, 7, 0));
        x.hole(3, 3, 3, 3);
        x.fill(1);
        Check.due("it was filled in", 1, x.dot(3, 3, 2));
        Check.due("with TONE", 0, x.paint(3, 3, 0));
        int[] due = {0, 1000, 0, -1, -1, -1, -1, -1, 0, 0};
        for (int what = 0; what <= 9; what++) {
            Check.due("dot " + what, due[what], x.dot(3, 3, what));
        }
        Check.dueOf("TONE 256", BAD, () -> x.paint(3, 3, 256));
        Check.dueOf("TONE -1", BAD, () -> x.paint(3, 3, -1));
        Check.dueOf("no such DOT", NO, () -> x.paint(8, 3, 256));
        Check.due("TONE stays", 0, x.dot(3, 3, 0));
    }

    private static void paintedFromMissing() {
        Sentences.of("Promise 7", "NONE: it was MISSING.");
        FilledHoles x = Check.of("3?/3?/3?");
        for (int i = 0; i < 9; i++) {
            Check.due("it was MISSING", -1, x.paint(i % 3, i / 3, i));
        }
        Check.due("none more", 0, x.told(3));
        for (int i = 0; i < 9; i++) {
            Check.due("it was not", i, x.paint(i % 3, i / 3, 0));
        }
    }

    private static void kept() {
        Sentences.of("Promise 8", "The PICTURE as it is is TRUTH from now on: how many DOTS are KNOWN.");
        FilledHoles x = new FilledHoles();
        Check.due("all", 64, x.keep());
        x.hole(0, 0, 7, 6);
        Check.due("eight", 8, x.keep());
        x.hole(0, 0, 7, 7);
        Check.due("none", 0, x.keep());
        Check.due("there is a TRUTH", 1, x.told(14));
        Check.due("FLAW", 0, x.flaw());
        FilledHoles y = Check.of(TextEdges.rows("20b", 20));
        Check.due("all of 400", 400, y.keep());
        y.hole(4, 4, 4, 4);
        y.fill(1);
        Check.due("with one filled in", 400, y.keep());
        Check.due("keep() is not to be taken back", 2, y.told(8));
    }

    private static void fills() {
        Sentences.of("Promise 9", "So many FILLS (1 to 60), or as far as that goes: how many.");
        FilledHoles x = new FilledHoles();
        x.hole(1, 1, 1, 1);
        x.hole(4, 4, 4, 4);
        x.hole(6, 1, 6, 1);
        Check.due("one", 1, x.fill(1));
        Check.due("MISSING", 2, x.told(3));
        Check.due("as far as that goes", 2, x.fill(3));
        Check.due("none", 0, x.fill(1));
        Check.due("none", 0, x.fill(60));
        int[] wrong = {0, -1, 61, Integer.MIN_VALUE, Integer.MAX_VALUE};
        for (int n : wrong) {
            Check.dueOf("fill(" + n + ")", BAD, () -> x.fill(n));
        }
        Check.due("refused", 5, x.status(1));
    }

    private static void fillsAtMost() {
        Sentences.of("Promise 9", "So many FILLS (1 to 60)");
        FilledHoles x = large();
        Check.due("60 at most", 60, x.fill(60));
        Check.due("FILLS", 60, x.told(7));
        Check.due("there are more", 1, x.told(3) > 0 ? 1 : 0);
        int more = x.fill(60);
        Check.due("they go on", 60 + more, x.told(7));
        x.undo();
        Check.due("one call is taken back", 60, x.told(7));
        Check.due("59", 59, large().fill(59));
    }

    private static void guidedFills() {
        Sentences.of("Promise 10", "FILLS, GUIDED at so many LEVELS (1, 2;");
        FilledHoles x = large();
        int fills = x.guide(1);
        Check.due("more than 60, as far as that goes", 1, fills > 60 ? 1 : 0);
        Check.due("none MISSING", 0, x.told(3));
        Check.due("FILLS of the PICTURE alone", fills, x.told(7));
        Check.due("none more", 0, x.guide(2));
        Check.due("taken back at once", 280, x.undo());
        int[] wrong = {0, 3, -1, Integer.MIN_VALUE, Integer.MAX_VALUE};
        for (int levels : wrong) {
            Check.dueOf("guide(" + levels + ")", BAD, () -> x.guide(levels));
        }
        Check.due("refused", 5, x.status(1));
    }

    private static void asManyHalvesAsThereAre() {
        Sentences.of("Promise 10", "as many as there are HALVES of 3 by 3 at least), as far as that goes: how many.");
        String chequer = "acacac6b/cacaca6b/acacac6b/cacaca6b/acacac6b/cacaca6b";
        FilledHoles one = Check.of(chequer);
        one.hole(10, 2, 11, 3);
        Check.due("two LEVELS, one HALF", 1, one.guide(2));
        Check.due("GUIDED by that", 500, one.log(0, 4));
        FilledHoles none = Check.of("acacac6b/cacaca6b/acacac6b/cacaca6b");
        none.hole(10, 2, 11, 3);
        Check.due("two LEVELS, no HALF", 1, none.guide(2));
        Check.due("plain", 0, none.log(0, 4));
        FilledHoles all = new FilledHoles();
        all.hole(0, 0, 7, 7);
        Check.due("nothing KNOWN", 0, all.guide(1));
        FilledHoles small = Check.of("3a/a?a/3a");
        Check.due("no SOURCE", 0, small.guide(2));
    }

    private static void takenBack() {
        Sentences.of("Promise 11", "The PICTURE is as ahead of the latest hole() by which any DOT was not MISSING, "
                + "paint(), fill(), guide() with any FILL");
        FilledHoles x = Check.of("abcdef/bcdefg/cdefgh/defghi/efghij");
        String start = State.of(x);
        x.hole(4, 2, 5, 4);
        long holed = x.print();
        x.paint(0, 0, 99);
        x.fill(1);
        x.guide(1);
        Check.due("four", 4, x.told(8));
        x.undo();
        x.undo();
        Check.due("painted still", 99, x.dot(0, 0, 0));
        Check.due("FILLS", 0, x.told(7));
        x.undo();
        Check.due("the HOLE alone", holed, x.print());
        Check.due("MISSING", 0, x.undo());
        Check.same("as it was", start, State.of(x));
    }

    private static void changesThatCount() {
        Sentences.of("Promise 11", "hole() by which any DOT was not MISSING, paint(), fill(), guide() with any FILL");
        FilledHoles x = Check.of("3a/a?a/3a");
        x.hole(1, 1, 1, 1);
        Check.due("a HOLE of MISSING ones does not", 0, x.told(8));
        x.fill(60);
        Check.due("fill() without a FILL does not", 0, x.told(8));
        x.guide(1);
        Check.due("guide() without a FILL does not", 0, x.told(8));
        x.set(2, 1);
        x.keep();
        x.feed(0, 0, 0, 0, 0);
        Check.answer(() -> x.paint(0, 0, 256));
        Check.answer(() -> x.hole(2, 2, 1, 1));
        Check.due("nor do others, nor refused ones", 0, x.told(8));
        x.paint(0, 0, 0);
        Check.due("paint() with the same TONE does", 1, x.told(8));
        x.hole(0, 1, 1, 1);
        Check.due("a HOLE with one that was not does", 2, x.told(8));
        Check.due("MISSING", 1, x.undo());
        Check.due("MISSING", 1, x.undo());
        Check.due("undo is not to be undone", -1, x.undo());
        x.set(2, 0);
        FilledHoles y = new FilledHoles();
        y.hole(3, 3, 3, 3);
        y.fill(1);
        Check.due("fill() with a FILL does", 2, y.told(8));
        y.hole(3, 3, 3, 3);
        y.guide(1);
        Check.due("guide() with a FILL does", 4, y.told(8));
        y.undo();
        nothingIsLostByThoseThatDoNot();
    }

    private static void nothingIsLostByThoseThatDoNot() {
        FilledHoles x = new FilledHoles();
        for (int i = 1; i <= 15; i++) {
            x.paint(0, 0, i);
        }
        x.fill(60);
        x.guide(2);
        Check.answer(() -> x.paint(0, 0, 256));
        Check.due("ten still", 10, x.told(8));
        for (int i = 14; i >= 5; i--) {
            Check.due("MISSING", 0, x.undo());
            Check.due("TONE", i, x.dot(0, 0, 0));
        }
        Check.due("none", -1, x.undo());
    }

    /** Held against a row of ten that is kept beside it, far beyond where what is kept begins again. */
    private static void tenAtMost() {
        Sentences.of("Promise 11", "(the latest 10 can be taken back):");
        FilledHoles x = new FilledHoles();
        Deque<Integer> due = new ArrayDeque<>();
        int tone = 0;
        for (int i = 1; i <= 120; i++) {
            boolean back = i > 14 && (i % 7 < 3 || i > 100);
            if (back && due.isEmpty()) {
                Check.due("none", -1, x.undo());
            } else if (back) {
                Check.due("taken back", 0, x.undo());
                tone = due.removeLast();
            } else {
                due.addLast(tone);
                tone = i;
                x.paint(0, 0, tone);
                if (due.size() > 10) {
                    due.removeFirst();
                }
            }
            Check.due("TONE at " + i, tone, x.dot(0, 0, 0));
            Check.due("how many at " + i, due.size(), x.told(8));
        }
    }

    private static void noneToTakeBack() {
        Sentences.of("Promise 11", "MISSING DOTS; NONE: there is none.");
        FilledHoles x = new FilledHoles();
        Check.due("at first", -1, x.undo());
        x.hole(0, 0, 7, 7);
        x.paint(0, 0, 1);
        Check.due("MISSING", 64, x.undo());
        Check.due("MISSING", 0, x.undo());
        Check.due("none", -1, x.undo());
        Check.due("all stays", 64, x.told(2));
        Check.due("it is no refusal", 0, x.status(0) + x.status(1));
    }
}
