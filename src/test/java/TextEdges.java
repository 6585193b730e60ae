/** The edges that "Terms", ==== 1., names: of a PICTURE, of a TEXT and its FAULTS, of SIZE. */
final class TextEdges {
    private static final long NO = Check.NO_SUCH;
    private static final long BAD = Check.BAD_ARGUMENT;
    private static final String TERMS = "Terms";

    private TextEdges() {
    }

    static void run() {
        sidesOfAPicture();
        tonesOfADot();
        allKnownAtFirst();
        inOrder();
        threeHundredBytes();
        rowsOfAText();
        dotsOfARow();
        itemsOfARow();
        lettersOfADot();
        theFirstFaultFromTheLeft();
        whatCannotStand();
        endsTooEarly();
        placeOfANumber();
        numbersThatAreNone();
        dotsTooMany();
        laterRowsTooLong();
        runsTooLong();
        rowsTooMany();
        rowsTooShort();
        rowsTooFew();
        sizes();
        wholePatches();
    }

    static String rows(String row, int count) {
        return row + ("/" + row).repeat(count - 1);
    }

    private static void good(String text, int missing) {
        FilledHoles x = new FilledHoles();
        int n = Check.feed(x, text);
        Check.due("text " + text, missing, x.text(n));
        Check.due("no FAULT in " + text, -1, x.fault());
    }

    private static void fault(String text, int kind, int place) {
        FilledHoles x = new FilledHoles();
        int n = Check.feed(x, text);
        Check.due("text " + text, kind - 10, x.text(n));
        Check.due("its place in " + text, place, x.fault());
        Check.due("the PICTURE stays: " + text, 64, x.told(2));
    }

    private static void sidesOfAPicture() {
        Sentences.of(TERMS, "A PICTURE has W by H DOTS (3 to 20 each; 8 by 8 at first), x from 0 on to the right, "
                + "y from 0 on down.");
        FilledHoles first = new FilledHoles();
        Check.due("W at first", 8, first.told(0));
        Check.due("H at first", 8, first.told(1));
        Check.due("the last DOT", 0, first.dot(7, 7, 0));
        Check.dueOf("x 8", NO, () -> first.dot(8, 7, 0));
        Check.dueOf("y 8", NO, () -> first.dot(7, 8, 0));
        Check.dueOf("x -1", NO, () -> first.dot(-1, 0, 0));
        Check.dueOf("y -1", NO, () -> first.dot(0, -1, 0));
        FilledHoles least = Check.of("abc/def/ghi");
        Check.due("x to the right", 20, least.dot(2, 0, 0));
        Check.due("y down", 60, least.dot(0, 2, 0));
        Check.dueOf("x 3", NO, () -> least.dot(3, 0, 0));
        Check.dueOf("y 3", NO, () -> least.dot(0, 3, 0));
        FilledHoles most = Check.of(rows("19ab", 19) + "/19ac");
        Check.due("W", 20, most.told(0));
        Check.due("H", 20, most.told(1));
        Check.due("DOTS", 400, most.told(2));
        Check.due("the last DOT", 20, most.dot(19, 19, 0));
        Check.dueOf("x 20", NO, () -> most.dot(20, 0, 0));
        Check.dueOf("y 20", NO, () -> most.dot(0, 20, 0));
        FilledHoles wide = Check.of("20a/20a/20z");
        Check.due("20 by 3: the last DOT", 250, wide.dot(19, 2, 0));
        Check.dueOf("20 by 3: y 3", NO, () -> wide.dot(0, 3, 0));
        FilledHoles high = Check.of(rows("aab", 20));
        Check.due("3 by 20: the last DOT", 10, high.dot(2, 19, 0));
        Check.dueOf("3 by 20: x 3", NO, () -> high.dot(3, 0, 0));
    }

    private static void tonesOfADot() {
        Sentences.of(TERMS, "A DOT is KNOWN, with a TONE (0 to 255), or MISSING.");
        FilledHoles x = new FilledHoles();
        x.paint(1, 1, 255);
        Check.due("the greatest TONE", 255, x.dot(1, 1, 0));
        Check.dueOf("beyond it", BAD, () -> x.paint(1, 1, 256));
        x.paint(1, 1, 0);
        Check.due("the least TONE is KNOWN", 64, x.told(2));
        Check.dueOf("below it", BAD, () -> x.paint(1, 1, -1));
        x.hole(1, 1, 1, 1);
        Check.due("MISSING", -1, x.dot(1, 1, 0));
        Check.due("KNOWN and MISSING", 64, x.told(2) + x.told(3));
    }

    private static void allKnownAtFirst() {
        Sentences.of(TERMS, "(All KNOWN, 0, at first.)");
        FilledHoles x = new FilledHoles();
        Check.due("KNOWN", 64, x.told(2));
        Check.due("MISSING", 0, x.told(3));
        for (int i = 0; i < 64; i++) {
            Check.due("TONE of " + i, 0, x.dot(i % 8, i / 8, 0));
            Check.due("SURE of " + i, 1000, x.dot(i % 8, i / 8, 1));
        }
        for (int what = 2; what <= 9; what++) {
            Check.due("dot(7, 7, " + what + ")", what >= 3 && what <= 7 ? -1 : 0, x.dot(7, 7, what));
        }
    }

    private static void inOrder() {
        Sentences.of(TERMS, "In order: by y, then by x.");
        FilledHoles x = new FilledHoles();
        x.hole(0, 1, 0, 1);
        x.hole(7, 0, 7, 0);
        x.hole(2, 1, 2, 1);
        x.set(3, 2);
        int[][] due = {{7, 0}, {0, 1}, {2, 1}};
        for (int k = 0; k < 3; k++) {
            Check.due("front x " + k, due[k][0], x.front(k, 0));
            Check.due("front y " + k, due[k][1], x.front(k, 1));
            Check.due("PART of " + k, k, x.dot(due[k][0], due[k][1], 7));
        }
    }

    /** 20 ROWS of 15 DOTS: 19 of them in 14 bytes, one in 15, with 19 strokes between: 300. */
    private static void threeHundredBytes() {
        Sentences.of(TERMS, "A TEXT has up to 300 bytes");
        String text = rows("abcdefghijkl3m", 19) + "/abcdefghijklmn?";
        Check.due("bytes", 300, text.length());
        FilledHoles x = new FilledHoles();
        Check.feed(x, text);
        Check.due("all of the TAPE", 1, x.text(300));
        Check.due("W", 15, x.told(0));
        Check.due("H", 20, x.told(1));
        Check.due("the last but one", 130, x.dot(13, 19, 0));
        Check.due("the last", -1, x.dot(14, 19, 0));
        Check.feed(x, text);
        Check.due("one byte less", -6, x.text(299));
        Check.due("its place", 299, x.fault());
    }

    private static void rowsOfAText() {
        Sentences.of(TERMS, "ROW { \"/\" ROW }, 3 to 20 ROWS (the first is y 0)");
        fault(rows("abc", 2), 5, 7);
        good(rows("abc", 3), 0);
        good(rows("abc", 4), 0);
        good(rows("abc", 19), 0);
        good(rows("ab?", 20), 20);
        fault(rows("abc", 21), 3, 79);
        FilledHoles x = Check.of("aaa/bbb/ccc/ddd");
        for (int y = 0; y < 4; y++) {
            Check.due("ROW " + y, 10 * y, x.dot(1, y, 0));
        }
    }

    private static void dotsOfARow() {
        Sentences.of(TERMS, "of 3 to 20 DOTS each, all of as many as the first one");
        fault(rows("ab", 3), 4, 2);
        good(rows("abc", 3), 0);
        good(rows("19ab", 3), 0);
        good(rows("abcdefghijklmnopqrst", 3), 0);
        fault("abcdefghijklmnopqrstu", 3, 20);
        fault("4a/3a/4a", 4, 5);
        fault("4a/5a/4a", 3, 3);
        good("4a/2ab?/2a2a/aaaa", 1);
    }

    private static void itemsOfARow() {
        Sentences.of(TERMS, "ROW: ITEM, one or more of: a DOT, or a number (2 to 20), then a DOT: so many alike.");
        fault("", 1, 0);
        fault("/3a/3a", 1, 0);
        fault("3a//3a", 1, 3);
        fault("3a/3a/", 1, 6);
        good("3a/3a/3a", 0);
        good("a2a/2aa/aaa", 0);
        good("20a/20a/20a", 0);
        good("9a11b/11?9c/10d10e", 11);
        fault("1aaa", 2, 0);
        fault("21a", 2, 0);
        FilledHoles x = Check.of("a2b3c?2?/9d/9e");
        int[] due = {0, 10, 10, 20, 20, 20, -1, -1, -1};
        for (int i = 0; i < due.length; i++) {
            Check.due("DOT " + i, due[i], x.dot(i, 0, 0));
        }
        Check.due("W", 9, x.told(0));
        Check.due("the last of a ROW that is one run", 30, x.dot(8, 1, 0));
    }

    private static void lettersOfADot() {
        Sentences.of(TERMS, "DOT: a small letter (\"a\" TONE 0, \"b\" 10, .. \"z\" 250), or \"?\" (MISSING).");
        FilledHoles x = Check.of("abcdefghi/jklmnopqr/stuvwxyz?");
        for (int i = 0; i < 26; i++) {
            Check.due("letter " + i, 10 * i, x.dot(i % 9, i / 9, 0));
        }
        Check.due("?", -1, x.dot(8, 2, 0));
        // what is next to them among the bytes, and the same letters with their highest bit set
        char[] others = {'`', '{', '>', '@', 'A', 'Z', ' ', '.', ':', 0, 10, 127, 128, 'a' + 128, '?' + 128, 255};
        for (char other : others) {
            fault("a" + other + "a/aaa/aaa", 1, 1);
        }
    }

    private static void theFirstFaultFromTheLeft() {
        Sentences.of(TERMS, "FAULTS, the first from the left, at its byte:");
        fault("aA1/b", 1, 1);
        fault("a1bA/b", 2, 1);
        fault("20abA/1c", 3, 3);
        fault("aa/1bA", 4, 2);
        fault("aaa/bbbA", 1, 7);
        fault("aaa/bbb", 5, 7);
        fault("aaa/bb/bA", 4, 6);
        fault("aaa/bbbb1c", 3, 7);
    }

    private static void whatCannotStand() {
        Sentences.of(TERMS, "1 what can't stand there");
        fault("/", 1, 0);
        fault("3/aa", 1, 1);
        fault("aaa/3/aa", 1, 5);
        fault("aaa//aaa", 1, 4);
        fault("aaa/aaa/ aa", 1, 8);
        fault("aaa/aaa/aaa ", 1, 11);
        fault("2A", 1, 1);
        fault("12 a", 1, 2);
        fault("-3a", 1, 0);
        fault("aa?a??/!", 1, 7);
    }

    private static void endsTooEarly() {
        Sentences.of(TERMS, "(at the length, if the text ends too early;");
        fault("", 1, 0);
        fault("3", 1, 1);
        fault("20", 1, 2);
        fault("aaa/", 1, 4);
        fault("aaa/aaa/", 1, 8);
        fault("aaa/aaa/aaa/", 1, 12);
        fault("aaa/aaa/a2", 1, 10);
        FilledHoles x = new FilledHoles();
        Check.feed(x, "aaa/aaa/aaa");
        Check.due("at the length that text() is told", -9, x.text(8));
        Check.due("its place", 8, x.fault());
    }

    private static void placeOfANumber() {
        Sentences.of(TERMS, "a number's place is its first digit)");
        fault("aa21a", 2, 2);
        fault("aa100a", 2, 2);
        fault("aaa/0a", 2, 4);
        fault("15a10a", 3, 3);
    }

    private static void numbersThatAreNone() {
        Sentences.of(TERMS, "2 a number that is none such;");
        int[] none = {0, 1, 21, 22, 99, 100, 200, 256 + 2, 1 << 16, Integer.MAX_VALUE};
        for (int number : none) {
            fault("a" + number + "b/aaa/aaa", 2, 1);
        }
        // as ints these are 2, and as longs
        fault("a4294967298b", 2, 1);
        fault("a18446744073709551618b", 2, 1);
        fault("a" + "9".repeat(290), 2, 1);
        fault("1", 2, 0);
        fault("1/", 2, 0);
        fault("00a", 2, 0);
        for (int number = 2; number <= 20; number++) {
            String row = number + "a" + "bb";
            if (number <= 18) {
                good(rows(row, 3), 0);
            } else {
                good(rows(number + "?", 3), 3 * number);
            }
        }
    }

    private static void dotsTooMany() {
        Sentences.of(TERMS, "3 a DOT beyond the 20th of a ROW,");
        fault("20aa", 3, 3);
        fault("20a?", 3, 3);
        fault("aaaaaaaaaaaaaaaaaaaaa", 3, 20);
        fault("19aaa", 3, 4);
        fault("10a10aa", 3, 6);
        good(rows("19aa", 3), 0);
    }

    private static void laterRowsTooLong() {
        Sentences.of(TERMS, "of a later one beyond as many as the first one has");
        fault("aaa/aaaa", 3, 7);
        fault("aaa/aaa/aaa?", 3, 11);
        fault("19a/19aa", 3, 7);
        fault("20a/20aa", 3, 7);
        good("19a/18aa/17aaa", 0);
    }

    private static void runsTooLong() {
        Sentences.of(TERMS, "(of a run: at its number)");
        fault("19a2a", 3, 3);
        fault("18aa2a", 3, 4);
        fault("20a20a", 3, 3);
        good(rows("18a2a", 3), 0);
        fault("aaa/4a", 3, 4);
        fault("aaa/aa2a", 3, 6);
        fault("aaa/a20a", 3, 5);
        // without a DOT behind it no DOT is beyond
        fault("19a2/", 1, 4);
        fault("aaa/4", 1, 5);
    }

    private static void rowsTooMany() {
        Sentences.of(TERMS, "a 21st ROW (at the \"/\" ahead of it);");
        good(rows("3a", 20), 0);
        fault(rows("3a", 21), 3, 59);
        fault(rows("3a", 22), 3, 59);
        fault(rows("3a", 20) + "/", 3, 59);
        fault(rows("3a", 20) + "/A", 3, 59);
        fault(rows("3a", 20) + "a", 3, 59);
        fault(rows("3a", 19) + "/", 1, 57);
    }

    private static void rowsTooShort() {
        Sentences.of(TERMS, "4 a ROW that has fewer than 3, or than the first one has "
                + "(at the \"/\" behind it, or the length);");
        fault("a/aaa/aaa", 4, 1);
        fault("2a/aaa/aaa", 4, 2);
        fault("a", 4, 1);
        fault("aa", 4, 2);
        fault("aaa/aa", 4, 6);
        fault("aaa/aa/aaa", 4, 6);
        fault("aaa/aaa/2a", 4, 10);
        fault("20a/19a/20a", 4, 7);
        fault("20a/20a/19a", 4, 11);
        fault("4a/aaa/4a", 4, 6);
        fault(rows("3a", 19) + "/2a", 4, 59);
        good("3a/3a/a2a", 0);
    }

    private static void rowsTooFew() {
        Sentences.of(TERMS, "5 fewer than 3 ROWS (at the length).");
        fault("3a", 5, 2);
        fault("aaa", 5, 3);
        fault("3a/3a", 5, 5);
        fault("20?/20?", 5, 7);
        good("20?/20?/20?", 60);
    }

    /** In a PICTURE of 7 by 7 with one corner MISSING: how many DOTS are there, by SIZE, in its PATCH. */
    private static void sizes() {
        Sentences.of(TERMS, "SIZE (1 to 3; 1 at first): the PATCH of a DOT: all DOTS by SIZE at most to the left and "
                + "right, up and down of it, that the PICTURE has, in order.");
        FilledHoles x = Check.of(rows("7a", 7));
        Check.due("SIZE at first", 1, x.told(10));
        Check.dueOf("SIZE 0", BAD, () -> x.set(0, 0));
        Check.dueOf("SIZE 4", BAD, () -> x.set(0, 4));
        x.hole(0, 0, 0, 0);
        int[] steady = {750, 888, 937};
        for (int size = 1; size <= 3; size++) {
            x.set(0, size);
            Check.due("the corner's STEADY by SIZE " + size, steady[size - 1], x.rank(0, 0, 0));
        }
        x.hole(3, 3, 3, 3);
        // the corner is in the PATCH of (3, 3) by SIZE 3 alone
        int[] middle = {8000 / 9, 24000 / 25, 47000 / 49};
        for (int size = 1; size <= 3; size++) {
            x.set(0, size);
            Check.due("the middle's STEADY by SIZE " + size, middle[size - 1], x.rank(3, 3, 0));
        }
        FilledHoles small = Check.of("?aa/aaa/aaa");
        small.set(0, 3);
        Check.due("by SIZE 3 the PICTURE has nine", 888, small.rank(0, 0, 0));
        FilledHoles low = Check.of("20a/20a/19a?");
        low.set(0, 3);
        Check.due("in the last corner it has twelve", 916, low.rank(19, 2, 0));
    }

    private static void wholePatches() {
        Sentences.of(TERMS, "It is WHOLE, if there are none lacking at the PICTURE's edges.");
        FilledHoles x = new FilledHoles();
        int[] sources = {36, 16, 4};
        for (int size = 1; size <= 3; size++) {
            x.set(0, size);
            int edge = size;
            int last = 7 - size;
            Check.due("SOURCES by SIZE " + size, sources[size - 1], x.search(0, 0, 3));
            Check.due("the first", 0, x.difference(0, 0, edge, edge, 0));
            Check.due("the last", 0, x.difference(0, 0, last, last, 0));
            Check.due("lacking to the left", -1, x.difference(0, 0, edge - 1, edge, 0));
            Check.due("lacking above", -1, x.difference(0, 0, edge, edge - 1, 0));
            Check.due("lacking to the right", -1, x.difference(0, 0, last + 1, last, 0));
            Check.due("lacking below", -1, x.difference(0, 0, last, last + 1, 0));
        }
        int[] least = {3, 5, 7};
        for (int size = 1; size <= 3; size++) {
            int side = least[size - 1];
            FilledHoles just = Check.of(rows(side + "a", side));
            just.set(0, size);
            Check.due("just one is WHOLE", 1, just.search(0, 0, 3));
            if (size < 3) {
                just.set(0, size + 1);
                Check.due("none is", 0, just.search(0, 0, 3));
            }
        }
        FilledHoles six = Check.of(rows("20a", 6));
        six.set(0, 3);
        Check.due("none by SIZE 3 in six ROWS", 0, six.search(3, 3, 3));
    }
}
