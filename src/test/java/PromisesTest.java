/** One test or more for each promise of the document, with answers worked out by hand. */
final class PromisesTest {
    private static final long NO = Check.NO_SUCH;
    private static final long BAD = Check.BAD_ARGUMENT;

    /** W 7, H 3: TONES 0, 10, .. 60 from left to right, (5, 1) MISSING. */
    private static final String RAMP = "abcdefg/abcde?g/abcdefg";
    /** W 7, H 5: TONES 0, 20, 0, .. from left to right, (3, 2) MISSING. */
    private static final String STRIPES = "acacaca/acacaca/aca?aca/acacaca/acacaca";
    /** W 12, H 6: to the left a chequer of 0 and 20, to the right 10 all over. */
    private static final String CHEQUER = "acacac6b/cacaca6b/acacac6b/cacaca6b/acacac6b/cacaca6b";

    public static void main(String[] args) {
        aNewObject();
        feeding();
        texts();
        faults();
        settings();
        holesMade();
        painting();
        keeping();
        filling();
        fillingAsFarAsItGoes();
        guiding();
        guidingTwice();
        takingBack();
        takingBackTen();
        takingBackTheLog();
        telling();
        dots();
        origins();
        ranks();
        steepest();
        nextOnes();
        searching();
        searchingByReachAndFrom();
        searchingByWays();
        shifting();
        shiftingBeyondTheTones();
        weighing();
        differences();
        largeBounds();
        fronts();
        partsOfHoles();
        rings();
        logs();
        halves();
        aheadOfTime();
        flaws();
        flawsInThought();
        tuning();
        reaching();
        seaming();
        favourites();
        turns();
        lending();
        printing();
        refusals();
        Check.end();
    }

    private static void aNewObject() {
        FilledHoles x = new FilledHoles();
        int[] due = {8, 8, 64, 0, 0, 0, 0, 0, 0, 0, 1, 20, 0, 0, 0, 0, 0, 0, 0};
        for (int what = 0; what < due.length; what++) {
            Check.due("new: told(" + what + ")", due[what], x.told(what));
        }
        Check.due("new: dot", 0, x.dot(7, 7, 0));
        Check.due("new: sure", 1000, x.dot(7, 7, 1));
        Check.due("new: fault", -1, x.fault());
        Check.due("new: flaw", -1, x.flaw());
        Check.due("new: undo", -1, x.undo());
        Check.due("new: status", 0, x.status(0) + x.status(1));
    }

    private static void feeding() {
        FilledHoles x = new FilledHoles();
        for (int i = 1; i <= 15; i++) {
            Check.due("feed", 20 * i, x.feed(-1, 0, 1, Integer.MIN_VALUE, Integer.MAX_VALUE));
        }
        Check.due("feed beyond 300", -1, x.feed(0, 0, 0, 0, 0));
        Check.due("the TAPE stays", 300, x.told(9));
        // 255 can't stand at the first byte
        Check.due("text of it", -9, x.text(300));
        Check.due("its place", 0, x.fault());
        Check.due("the TAPE is empty", 0, x.told(9));
        // "abcd" "/efg" "h/ij" "kl..": of each number the highest byte is the first
        Check.due("feed again", 20, x.feed(0x61626364, 0x2f656667, 0x682f696a, 0x6b6c0000, 0));
        Check.due("text", 0, x.text(14));
        String tones = "";
        for (int i = 0; i < 12; i++) {
            tones += (char) ('a' + x.dot(i % 4, i / 4, 0) / 10);
        }
        Check.due("in order: " + tones, 0, tones.compareTo("abcdefghijkl"));
    }

    private static void texts() {
        FilledHoles x = new FilledHoles();
        x.set(0, 2);
        x.keep();
        x.paint(0, 0, 5);
        int n = Check.feed(x, "3a2?z/6b/?4c?");
        Check.dueOf("text(-1)", BAD, () -> x.text(-1));
        Check.dueOf("text(21)", BAD, () -> x.text(21));
        Check.due("the TAPE stays", 20, x.told(9));
        Check.due("text", 4, x.text(n));
        Check.due("fault", -1, x.fault());
        Check.due("W", 6, x.told(0));
        Check.due("H", 3, x.told(1));
        Check.due("SIZE stays", 2, x.told(10));
        Check.due("none to take back", 0, x.told(8));
        Check.due("no TRUTH by another W", 0, x.told(14));
        Check.due("undo", -1, x.undo());
        Check.due("z", 250, x.dot(5, 0, 0));
        Check.due("?", -1, x.dot(3, 0, 0));
        Check.due("SURE of ?", 0, x.dot(4, 0, 1));
        Check.due("?4c?", -1, x.dot(5, 2, 0));
        x.keep();
        Check.feed(x, "6a/6b/6c");
        Check.due("text of as many DOTS", 0, x.text(8));
        Check.due("TRUTH stays", 1, x.told(14));
        Check.feed(x, "6a/6b/6c/6d");
        Check.due("text of another H", 0, x.text(11));
        Check.due("no TRUTH by another H", 0, x.told(14));
        x.keep();
        x.paint(1, 1, 77);
        Check.feed(x, "3a/3a/3A");
        Check.due("a FAULT", -9, x.text(8));
        Check.due("all stays", 77, x.dot(1, 1, 0));
        Check.due("all stays", 1, x.told(8));
        Check.due("all stays", 1, x.told(14));
        Check.due("but the TAPE", 0, x.told(9));
        Check.dueOf("text(1) of an empty TAPE", BAD, () -> x.text(1));
        Check.due("the FAULT of the latest text", 7, x.fault());
        filledInAreGoneByText();
    }

    private static void filledInAreGoneByText() {
        FilledHoles x = Check.of(STRIPES);
        x.fill(1);
        int n = Check.feed(x, STRIPES);
        Check.due("text again", 1, x.text(n));
        Check.due("FILLS since text", 0, x.told(7));
        Check.due("filled in", 0, x.told(4));
        Check.due("DIFFERENCES", 0, x.told(15));
        Check.dueOf("log", NO, () -> x.log(0, 0));
        Check.due("favourite", -1, x.favourite(0));
        x.fill(1);
        Check.due("the first since text", 1, x.dot(3, 2, 9));
    }

    private static void faults() {
        faultDue("", 1, 0);
        faultDue("/aaa", 1, 0);
        faultDue("aaa/", 1, 4);
        faultDue("aaa//", 1, 4);
        faultDue("aaa/bbb/cc", 4, 10);
        faultDue("aaa/bbb/c5", 1, 10);
        faultDue("aaa/bb5/ccc", 1, 7);
        faultDue("aAa/bbb/ccc", 1, 1);
        faultDue("a`a/bbb/ccc", 1, 1);
        faultDue("aa{/bbb/ccc", 1, 2);
        faultDue("a a/bbb/ccc", 1, 1);
        faultDue("3:/bbb/ccc", 1, 1);
        faultDue("0a/bbb/ccc", 2, 0);
        faultDue("1abb/bbb/ccc", 2, 0);
        faultDue("a21b/bbb/ccc", 2, 1);
        faultDue("a4294967298b/bbb/ccc", 2, 1);
        faultDue("99", 2, 0);
        faultDue("1/", 2, 0);
        faultDue("20ab/bbb", 3, 3);
        faultDue("19a3b/bbb", 3, 3);
        faultDue("aaa/bbbb/ccc", 3, 7);
        faultDue("aaa/b3b/ccc", 3, 5);
        faultDue("aaa/bbb/ccc/20d", 3, 12);
        faultDue("aa/aa/aa", 4, 2);
        faultDue("2a", 4, 2);
        faultDue("4a/3b/4c", 4, 5);
        faultDue("4a/4b/4c/ccc", 4, 12);
        faultDue("aaa", 5, 3);
        faultDue("3a/3a", 5, 5);
        String nineteen = "aaa";
        for (int i = 0; i < 18; i++) {
            nineteen += "/aaa";
        }
        Check.due("20 ROWS", 1, Check.of(nineteen + "/aa?").told(3));
        faultDue(nineteen + "/aaa/aaa", 3, 79);
        faultDue(nineteen + "/aaa/", 3, 79);
        faultDue(nineteen + "/aa/aaa", 4, 78);
        Check.due("20 DOTS", 20, Check.of("20a/20?/20c").told(3));
    }

    private static void faultDue(String text, int fault, int place) {
        FilledHoles x = new FilledHoles();
        int n = Check.feed(x, text);
        Check.due("FAULT of " + text, fault - 10, x.text(n));
        Check.due("its place in " + text, place, x.fault());
        Check.due("all stays: " + text, 64, x.told(2));
        Check.feed(x, "3a/3?/3c");
        Check.due("a good text", 3, x.text(8));
        Check.due("has no FAULT", -1, x.fault());
    }

    private static void settings() {
        FilledHoles x = new FilledHoles();
        int[] first = {1, 20, 0, 0, 0, 0, 0};
        int[] least = {1, 1, 0, 0, 0, 0, 0};
        int[] most = {3, 20, 1, 2, 3, 1, 1};
        int[] told = {10, 11, 12, 13, 16, 17, 18};
        for (int i = 0; i < 7; i++) {
            int what = i;
            Check.due("set " + what + " was", first[what], x.set(what, least[what]));
            Check.due("set " + what + " was", least[what], x.set(what, most[what]));
            Check.dueOf("set below", BAD, () -> x.set(what, least[what] - 1));
            Check.dueOf("set above", BAD, () -> x.set(what, most[what] + 1));
            Check.due("set " + what + " is", most[what], x.told(told[what]));
        }
        Check.dueOf("set(7, 0)", BAD, () -> x.set(7, 0));
        Check.dueOf("set(-1, 0)", BAD, () -> x.set(-1, 0));
        Check.dueOf("set(MIN, 0)", BAD, () -> x.set(Integer.MIN_VALUE, 0));
        Check.due("refused", 17, x.status(1));
    }

    private static void holesMade() {
        FilledHoles x = new FilledHoles();
        Check.due("hole", 6, x.hole(1, 2, 3, 3));
        Check.due("hole in it", 0, x.hole(2, 2, 3, 3));
        Check.due("is not to be taken back", 1, x.told(8));
        Check.due("hole beyond it", 5, x.hole(3, 3, 4, 5));
        Check.due("MISSING", 11, x.told(3));
        Check.due("MISSING one", -1, x.dot(4, 5, 0));
        Check.due("SURE of it", 0, x.dot(4, 5, 1));
        Check.due("one beside", 0, x.dot(5, 5, 0));
        Check.due("one DOT", 1, x.hole(7, 7, 7, 7));
        Check.dueOf("hole(8, 0, 0, 0)", NO, () -> x.hole(8, 0, 0, 0));
        Check.dueOf("hole(0, 0, 0, 8)", NO, () -> x.hole(0, 0, 0, 8));
        Check.dueOf("hole(0, -1, 0, 0)", NO, () -> x.hole(0, -1, 0, 0));
        Check.dueOf("hole(5, 5, 4, 5)", BAD, () -> x.hole(5, 5, 4, 5));
        Check.dueOf("hole(5, 5, 5, 4)", BAD, () -> x.hole(5, 5, 5, 4));
        FilledHoles y = Check.of(STRIPES);
        y.fill(1);
        Check.due("a filled in one again", 1, y.hole(3, 2, 3, 2));
        Check.due("it is no more filled in", 0, y.dot(3, 2, 2) + y.dot(3, 2, 9) + y.dot(3, 2, 1));
        Check.due("without a PARENT", -1, y.dot(3, 2, 3));
        Check.due("without an ORIGIN", -1, y.dot(3, 2, 6));
    }

    private static void painting() {
        FilledHoles x = Check.of(STRIPES);
        Check.due("it was MISSING", -1, x.paint(3, 2, 255));
        Check.due("TONE it had", 255, x.paint(3, 2, 0));
        Check.due("TONE it had", 0, x.paint(3, 2, 0));
        Check.due("each can be taken back", 3, x.told(8));
        Check.dueOf("paint(.., 256)", BAD, () -> x.paint(3, 2, 256));
        Check.dueOf("paint(.., -1)", BAD, () -> x.paint(3, 2, -1));
        Check.dueOf("paint(7, 0, ..)", NO, () -> x.paint(7, 0, -1));
        Check.dueOf("paint(0, 5, ..)", NO, () -> x.paint(0, 5, 1));
        x.hole(3, 2, 3, 2);
        x.fill(1);
        Check.due("TONE it was filled in with", 20, x.paint(3, 2, 9));
        Check.due("not filled in", 0, x.dot(3, 2, 2));
        Check.due("SURE", 1000, x.dot(3, 2, 1));
        Check.due("no PARENT", -1, x.dot(3, 2, 3));
        Check.due("no FILL", 0, x.dot(3, 2, 9));
    }

    private static void keeping() {
        FilledHoles x = Check.of(STRIPES);
        Check.due("KNOWN", 34, x.keep());
        Check.due("there is a TRUTH", 1, x.told(14));
        x.hole(0, 0, 6, 0);
        Check.due("KNOWN", 27, x.keep());
        Check.due("keep is not taken back", 1, x.told(8));
    }

    private static void filling() {
        FilledHoles x = Check.of(STRIPES);
        Check.dueOf("fill(0)", BAD, () -> x.fill(0));
        Check.dueOf("fill(61)", BAD, () -> x.fill(61));
        Check.due("fill(60)", 1, x.fill(60));
        Check.due("its TONE", 20, x.dot(3, 2, 0));
        Check.due("SURE: 8,000 by 9", 888, x.dot(3, 2, 1));
        Check.due("no more", 0, x.fill(1));
        Check.due("none to take back by it", 1, x.told(8));
        FilledHoles y = new FilledHoles();
        y.hole(0, 0, 7, 7);
        Check.due("nothing KNOWN: no FRONT", 0, y.fill(60));
        FilledHoles z = Check.of("5a/5a/2a?2a/5a/5a");
        Check.due("no SOURCE", 0, z.fill(1));
        Check.due("MISSING", 1, z.told(3));
    }

    /** One DOT MISSING far from the other: the FRONT's first has no SOURCE in REACH, so none is filled. */
    private static void fillingAsFarAsItGoes() {
        FilledHoles x = Check.of("20a/20a/a?18a/20a/20a");
        x.hole(18, 2, 18, 2);
        x.set(1, 1);
        // both have STEADY 888 and FLOW 1: (1, 2) is the first; each SOURCE by 1 next to it has it in its PATCH
        Check.due("NEXT", 1, x.next(0));
        Check.due("no SOURCE in REACH", -1, x.next(3));
        Check.due("FILLS", 0, x.fill(60));
        x.set(1, 2);
        // by 2 there is (3, 1)
        Check.due("FILLS", 2, x.fill(60));
        Check.due("from", 3, x.log(1, 2));
        Check.due("from", 1, x.log(1, 3));
        FilledHoles y = new FilledHoles();
        y.hole(3, 3, 4, 4);
        // (3, 3): its PATCH has all four, so one FILL is enough
        Check.due("one FILL of four DOTS", 1, y.fill(2));
        Check.due("DOTS", 4, y.log(0, 5));
        Check.due("SURE: 5,000 by 9", 555, y.dot(4, 4, 1));
        Check.due("PARENT of (4, 4)", 2, y.dot(4, 4, 3));
    }

    /** HALF is 10 all over, so it points to the chequer, which plain FILLS do not take. */
    private static void guiding() {
        FilledHoles x = Check.of(CHEQUER);
        x.keep();
        x.hole(10, 2, 11, 3);
        Check.dueOf("guide(0)", BAD, () -> x.guide(0));
        Check.dueOf("guide(3)", BAD, () -> x.guide(3));
        Check.due("guide(1)", 1, x.guide(1));
        Check.due("BEST", 1, x.log(0, 2));
        Check.due("BEST", 1, x.log(0, 3));
        Check.due("DIFFERENCE", 500, x.log(0, 4));
        Check.due("TONES", 0, x.dot(10, 2, 0));
        Check.due("TONES", 20, x.dot(11, 2, 0));
        Check.due("FLAW", 400, x.flaw());
        Check.due("to take back", 2, x.told(8));
        x.undo();
        Check.due("guide(2), there being one HALF", 1, x.guide(2));
        Check.due("DIFFERENCE", 500, x.told(15));
        Check.due("none left", 0, x.guide(1));
        Check.due("to take back", 2, x.told(8));
        x.undo();
        x.set(1, 2);
        // by REACH 2 HALF points from (5, 1) to (3, 1), so (7, 1) is asked, whatever REACH is
        Check.due("plain: the BEST", 8, x.next(3));
        Check.due("guide(1)", 1, x.guide(1));
        Check.due("the BEST", 7, x.log(0, 2));
        pointingToNone();
        FilledHoles y = Check.of("4a/a?2a/4a/4a");
        Check.due("no HALF of 3 by 3: plain", 0, y.guide(2));
        FilledHoles z = Check.of("12b/9b?2b/12b/12b");
        Check.due("a HALF of 6 by 2 is none", 1, z.guide(1));
    }

    /** HALF points to where each PATCH has a DOT that was MISSING: all SOURCES are asked. */
    private static void pointingToNone() {
        FilledHoles x = Check.of("12b/12b/12b/12b/12b/12b");
        x.hole(10, 2, 11, 3);
        x.hole(1, 1, 1, 1);
        x.hole(4, 1, 4, 1);
        x.hole(1, 4, 1, 4);
        x.hole(4, 4, 4, 4);
        Check.due("FILLS", 5, x.guide(1));
        Check.due("the last", 10, x.log(0, 0));
        Check.due("the BEST of all", 6, x.log(0, 2));
        Check.due("the BEST of all", 1, x.log(0, 3));
        x.undo();
        x.set(2, 1);
        x.guide(1);
        // FROM 1 what has been filled in is a SOURCE, too
        Check.due("the BEST where HALF points", 1, x.log(0, 2));
    }

    /** Chequers of two by two show in HALF, not in HALF of that: only at LEVELS 2 they mislead. */
    private static void guidingTwice() {
        StringBuilder text = new StringBuilder();
        for (int y = 0; y < 10; y++) {
            text.append(y == 0 ? "" : "/").append(y / 2 % 2 == 0 ? "2a2c2a2c2a2c8b" : "2c2a2c2a2c2a8b");
        }
        FilledHoles x = Check.of(text.toString());
        x.keep();
        x.hole(16, 4, 19, 7);
        Check.due("HALF shows the chequer", 20, x.half(1, 1, 0));
        Check.due("HALF of that does not", 10, x.half(2, 1, 0));
        Check.due("plain", 0, x.flawBy(0));
        Check.due("at LEVELS 1", 0, x.flawBy(1));
        Check.due("at LEVELS 2", 1, x.flawBy(2) > 0 ? 1 : 0);
        x.guide(2);
        Check.due("TONE from the chequer", 0, x.dot(16, 4, 0) % 20);
        Check.due("PARENT in it", 1, x.dot(16, 4, 3) < 12 ? 1 : 0);
    }

    private static void takingBack() {
        FilledHoles x = Check.of(STRIPES);
        x.fill(3);
        x.paint(0, 0, 99);
        x.hole(3, 1, 3, 3);
        Check.due("to take back", 3, x.told(8));
        Check.due("undo hole: MISSING", 0, x.undo());
        Check.due("filled in again", 1, x.dot(3, 2, 2));
        Check.due("its PARENT", 1, x.dot(3, 2, 3));
        Check.due("its SURE", 888, x.dot(3, 2, 1));
        Check.due("painted still", 99, x.dot(0, 0, 0));
        Check.due("undo paint: MISSING", 0, x.undo());
        Check.due("as it was", 0, x.dot(0, 0, 0));
        Check.due("FILLS", 1, x.told(7));
        Check.due("undo fill: MISSING", 1, x.undo());
        Check.due("FILLS", 0, x.told(7));
        Check.due("none more", -1, x.undo());
        Check.due("MISSING", 1, x.told(3));
        x.set(0, 2);
        x.paint(0, 0, 1);
        x.keep();
        x.undo();
        Check.due("SIZE stays", 2, x.told(10));
        Check.due("TRUTH stays", 1, x.told(14));
    }

    private static void takingBackTen() {
        FilledHoles x = new FilledHoles();
        for (int i = 1; i <= 13; i++) {
            x.paint(0, 0, i);
        }
        Check.due("ten can be", 10, x.told(8));
        Check.due("no FILL, so ten still", 0, x.fill(1));
        for (int i = 12; i >= 3; i--) {
            Check.due("undo", 0, x.undo());
            Check.due("as it was", i, x.dot(0, 0, 0));
        }
        Check.due("no more", -1, x.undo());
        Check.due("as it is", 3, x.dot(0, 0, 0));
    }

    /** More FILLS than log() tells are taken back, and those ahead of them are told again. */
    private static void takingBackTheLog() {
        FilledHoles x = new FilledHoles();
        Check.feed(x, "20a/20b/20c/20a/20b/20c/20a/20b/20c/20a/20b/20c/20a/20b/20c/20a/20b/20c/20a/20b");
        x.text(79);
        x.hole(4, 1, 4, 1);
        x.fill(1);
        int from = x.log(0, 2);
        long differences = x.told(15);
        x.hole(6, 0, 19, 19);
        int fills = x.fill(60);
        Check.due("more than 30 FILLS", 1, fills > 30 ? 1 : 0);
        Check.due("the 30th", 1, Check.answer(() -> x.log(29, 0)) >= 0 ? 1 : 0);
        Check.dueOf("the 31st", NO, () -> x.log(30, 0));
        x.undo();
        Check.due("FILLS", 1, x.told(7));
        Check.due("the one ahead", 4, x.log(0, 0));
        Check.due("the one ahead", from, x.log(0, 2));
        Check.dueOf("no other", NO, () -> x.log(1, 0));
        Check.due("DIFFERENCES", differences, x.told(15));
    }

    private static void telling() {
        FilledHoles x = Check.of("aaa?a/aaaaa/?aaa?/aaaa?");
        int[] due = {5, 4, 16, 4, 0, 4, 3, 0, 0, 0, 1, 20, 0, 0, 0, 0, 0, 0, 0};
        for (int what = 0; what < due.length; what++) {
            Check.due("told(" + what + ")", due[what], x.told(what));
        }
        x.feed(1, 2, 3, 4, 5);
        Check.due("bytes", 20, x.told(9));
        Check.dueOf("told(19)", BAD, () -> x.told(19));
        Check.dueOf("told(-1)", BAD, () -> x.told(-1));
        FilledHoles y = Check.of(RAMP);
        y.fill(1);
        Check.due("filled in", 1, y.told(4));
        Check.due("KNOWN", 21, y.told(2));
        Check.due("FILLS", 1, y.told(7));
        // the BEST is (3, 1): eight DOTS by 20
        Check.due("DIFFERENCES", 3200, y.told(15));
        y.hole(5, 1, 5, 1);
        y.fill(1);
        Check.due("DIFFERENCES together", 6400, y.told(15));
        y.hole(2, 0, 4, 2);
        Check.due("nine MISSING, eight of THE FRONT", 6, y.told(5));
    }

    private static void dots() {
        FilledHoles x = Check.of(RAMP);
        int[] missing = {-1, 0, 0, -1, -1, -1, -1, 0, 1, 0};
        for (int what = 0; what <= 9; what++) {
            Check.due("MISSING: dot " + what, missing[what], x.dot(5, 1, what));
        }
        x.fill(1);
        int[] filled = {30, 888, 1, 3, 1, 3, 1, -1, 0, 1};
        for (int what = 0; what <= 9; what++) {
            Check.due("filled in: dot " + what, filled[what], x.dot(5, 1, what));
        }
        int[] known = {60, 1000, 0, -1, -1, -1, -1, -1, 0, 0};
        for (int what = 0; what <= 9; what++) {
            Check.due("KNOWN: dot " + what, known[what], x.dot(6, 1, what));
        }
        Check.dueOf("dot(7, 0, 99)", NO, () -> x.dot(7, 0, 99));
        Check.dueOf("dot(-1, 0, 0)", NO, () -> x.dot(-1, 0, 0));
        Check.dueOf("dot(0, 3, 0)", NO, () -> x.dot(0, 3, 0));
        Check.dueOf("dot(0, -1, 0)", NO, () -> x.dot(0, -1, 0));
        Check.dueOf("dot(0, 0, 10)", BAD, () -> x.dot(0, 0, 10));
        Check.dueOf("dot(0, 0, -1)", BAD, () -> x.dot(0, 0, -1));
        FilledHoles y = new FilledHoles();
        y.hole(0, 0, 2, 2);
        Check.due("the inmost is not of THE FRONT", 0, y.dot(0, 0, 8));
        Check.due("the outmost is", 1, y.dot(2, 0, 8));
        y.hole(7, 0, 7, 0);
        Check.due("PART in order of first ones", 0, y.dot(2, 2, 7));
        Check.due("PART in order of first ones", 1, y.dot(7, 0, 7));
    }

    /** W 7, H 3: only (1, 1) is a SOURCE for (3, 1); by FROM 1 what it gave is copied on. */
    private static void origins() {
        FilledHoles x = Check.of("7b/7b/7b");
        x.set(2, 1);
        x.set(1, 2);
        x.hole(3, 0, 3, 2);
        // (3, 0), (3, 2): STEADY 666; (3, 1): 666 too; (3, 0) is NEXT and fills (3, 0), (3, 1)
        Check.due("FILLS", 2, x.fill(9));
        Check.due("the latter fills one DOT", 1, x.log(0, 5));
        Check.due("at", 3, x.log(0, 0));
        x.hole(5, 1, 5, 1);
        Check.due("FILL", 1, x.fill(1));
        // (3, 1) is the first SOURCE for (5, 1) by REACH 2
        Check.due("PARENT", 3, x.dot(5, 1, 3));
        Check.due("PARENT", 1, x.dot(5, 1, 4));
        Check.due("ORIGIN: that of the PARENT", x.dot(3, 1, 5), x.dot(5, 1, 5));
        Check.due("ORIGIN", 1, x.dot(5, 1, 5));
        int origin = x.dot(5, 1, 6);
        x.paint(3, 1, 10);
        Check.due("PARENT stays", 3, x.dot(5, 1, 3));
        Check.due("ORIGIN stays as given", 1, x.dot(5, 1, 5));
        Check.due("ORIGIN stays as given", origin, x.dot(5, 1, 6));
        x.hole(5, 1, 5, 1);
        x.fill(1);
        Check.due("PARENT, no more filled in, is the ORIGIN", 3, x.dot(5, 1, 5));
    }

    private static void ranks() {
        // an edge from 0 to 250 runs down into the hole from above
        FilledHoles x = Check.of("3a3z/3a3z/3a3z/3a3z/3?3z/6?");
        x.set(0, 1);
        // (2, 4): PATCH (1, 3) to (3, 5): KNOWN (1..3, 3), (3, 4); (2, 3) has a MISSING one below, (3, 3) has not
        Check.due("STEADY: 4,000 by 9", 444, x.rank(2, 4, 0));
        Check.due("gx", 250, x.rank(2, 4, 1));
        Check.due("nx: the left is MISSING", -1, x.rank(2, 4, 3));
        Check.due("ny: the one below is", 1, x.rank(2, 4, 4));
        x.set(0, 2);
        // now the PATCH has (2, 2): 250 less 0
        Check.due("STEADY: y 2 to 5, x 0 to 4: 12 of 20", 600, x.rank(2, 4, 0));
        Check.due("gx", 250, x.rank(2, 4, 1));
        Check.due("gy", 0, x.rank(2, 4, 2));
        Check.due("FLOW", 251, x.rank(2, 4, 5));
        Check.due("RANK", 600 * 251, x.rank(2, 4, 6));
        x.set(3, 1);
        Check.due("RANK by STEADY alone", 600, x.rank(2, 4, 6));
        x.set(3, 2);
        Check.due("RANK by FLOW alone", 251, x.rank(2, 4, 6));
        // the corner is not of THE FRONT, but MISSING; what is beyond the edges is not
        Check.due("nx", 1, x.rank(0, 5, 3));
        Check.due("ny", -1, x.rank(0, 5, 4));
        for (int what = 0; what <= 6; what++) {
            Check.due("0 each of a KNOWN one", 0, x.rank(0, 0, what));
        }
        Check.dueOf("rank(6, 0, 7)", NO, () -> x.rank(6, 0, 7));
        Check.dueOf("rank(0, 0, 7)", BAD, () -> x.rank(0, 0, 7));
        Check.dueOf("rank(0, 0, -1)", BAD, () -> x.rank(0, 0, -1));
    }

    private static void steepest() {
        // (3, 3) MISSING, SIZE 2: DOTS of (1, 1) to (5, 5) that have four KNOWN ones
        FilledHoles x = Check.of("7a/7a/7a/aaa?3a/7a/7a/7a");
        x.set(0, 2);
        x.paint(1, 2, 40);
        x.paint(5, 4, 40);
        // the most is 40: first at (1, 1): gy 40; (2, 2): gx -40; .. (1, 1) is the first
        Check.due("gx", 0, x.rank(3, 3, 1));
        Check.due("gy", 40, x.rank(3, 3, 2));
        x.paint(6, 5, 41);
        Check.due("gx at (5, 5)", 41, x.rank(3, 3, 1));
        Check.due("gy at (5, 5)", -40, x.rank(3, 3, 2));
        x.paint(6, 4, 250);
        Check.due("(5, 4)", 250, x.rank(3, 3, 1));
        x.hole(5, 4, 5, 4);
        // (5, 4) is MISSING now, (5, 3) and (5, 5) have it next to them; (1, 1) is the first again
        Check.due("gy", 40, x.rank(3, 3, 2));
        FilledHoles edge = Check.of("azaza/5a/aa?2a/5a/5a");
        // the TONES of y 0 are at the edge: no SLOPE there, but below them
        Check.due("gx", 0, edge.rank(2, 2, 1));
        Check.due("gy", -250, edge.rank(2, 2, 2));
    }

    private static void nextOnes() {
        FilledHoles x = Check.of(RAMP);
        int[] due = {5, 1, 888, 3, 1, 3200, 0};
        for (int what = 0; what <= 6; what++) {
            Check.due("next " + what, due[what], x.next(what));
        }
        Check.dueOf("next(7)", BAD, () -> x.next(7));
        Check.dueOf("next(-1)", BAD, () -> x.next(-1));
        x.fill(1);
        for (int what = 0; what <= 6; what++) {
            Check.due("none: next " + what, -1, x.next(what));
        }
        FilledHoles y = Check.of("5a/5a/2a?2a/5a/5a");
        int[] withoutSource = {2, 2, 888, -1, -1, -1, -1};
        for (int what = 0; what <= 6; what++) {
            Check.due("without SOURCES: next " + what, withoutSource[what], y.next(what));
        }
    }

    private static void searching() {
        FilledHoles x = Check.of(RAMP);
        // (1, 1), (2, 1), (3, 1): 8 times 1,600, 900, 400: each is better, to the end
        int[] due = {3, 1, 3200, 3, 0, 0, 24, 0, 0};
        for (int what = 0; what <= 8; what++) {
            Check.due("search " + what, due[what], x.search(5, 1, what));
        }
        // for (1, 1) itself the first is alike, all others have a BOUND
        int[] known = {1, 1, 0, 3, 2, 0, 9, 0, 0};
        for (int what = 0; what <= 8; what++) {
            Check.due("search for a KNOWN one " + what, known[what], x.search(1, 1, what));
        }
        stopping();
        int[] none = {-1, -1, -1, 0, 0, 0, 0, -1, 0};
        FilledHoles y = Check.of("5a/5a/2a?2a/5a/5a");
        for (int what = 0; what <= 8; what++) {
            Check.due("without SOURCES " + what, none[what], y.search(2, 2, what));
        }
        Check.dueOf("search(7, 1, 9)", NO, () -> x.search(7, 1, 9));
        Check.dueOf("search(0, 0, 9)", BAD, () -> x.search(0, 0, 9));
        Check.dueOf("search(0, 0, -1)", BAD, () -> x.search(0, 0, -1));
        // no KNOWN one in the PATCH: all are alike
        FilledHoles deep = new FilledHoles();
        deep.hole(5, 5, 7, 7);
        int[] inmost = {1, 1, 0, 27, 26, 0, 0, 0, 0};
        for (int what = 0; what <= 8; what++) {
            Check.due("without KNOWN ones " + what, inmost[what], deep.search(6, 6, what));
        }
    }

    /** TONES that differ up and down together make no BOUND, but a DIFFERENCE. */
    private static void stopping() {
        FilledHoles x = Check.of("aaab4a/aaaac2a?/3a5a/aaa5a");
        x.set(1, 20);
        // p (7, 1): its PATCH x 6 to 7, y 0 to 2: KNOWN five, all 0
        // (1, 1): 0 at once; all others are SKIPPED by a BOUND that is not below 0
        Check.due("DIFFERENCE", 0, x.search(7, 1, 2));
        Check.due("STOPPED", 0, x.search(7, 1, 5));
        Check.due("LOOKED", 5, x.search(7, 1, 6));
        // W 9: p (7, 1) sees c all round; its SOURCES are (1, 1) .. (5, 1)
        FilledHoles y = Check.of("eaeaea3c/aeaeaec?c/eaeaea3c");
        // (1, 1): 40 and 0 by turns, each 20 apart: 8 times 400, with less of a BOUND
        Check.due("the BEST", 5, y.search(7, 1, 0));
        Check.due("SOURCES", 5, y.search(7, 1, 3));
        // (2, 1) .. (4, 1) are 20 apart at each DOT: STOPPED at the eighth; (5, 1) has c at three: 5 times 400
        Check.due("DIFFERENCE", 2000, y.search(7, 1, 2));
        Check.due("STOPPED", 3, y.search(7, 1, 5));
        Check.due("SKIPPED", 0, y.search(7, 1, 4));
        Check.due("LOOKED", 40, y.search(7, 1, 6));
    }

    private static void searchingByReachAndFrom() {
        FilledHoles x = Check.of(RAMP);
        x.set(1, 2);
        Check.due("SOURCES by 2", 1, x.search(5, 1, 3));
        x.set(1, 3);
        Check.due("SOURCES by 3", 2, x.search(5, 1, 3));
        x.fill(1);
        x.set(1, 20);
        Check.due("FROM 0", 3, x.search(5, 1, 3));
        x.set(2, 1);
        Check.due("FROM 1", 5, x.search(5, 1, 3));
        x.set(0, 2);
        Check.due("SIZE 2: none is WHOLE in 3 ROWS", 0, x.search(5, 1, 3));
        FilledHoles y = new FilledHoles();
        y.set(1, 1);
        Check.due("up and down, too", 9, y.search(4, 4, 3));
        y.set(0, 3);
        Check.due("SIZE 3: (3, 3) to (4, 4)", 4, y.search(4, 4, 3));
    }

    /** To the right of "abc/def/ghi" the same as each WAY shows it. */
    private static void searchingByWays() {
        String[] shown = {"abc/def/ghi", "cba/fed/ihg", "ihg/fed/cba", "ghi/def/abc",
            "adg/beh/cfi", "cfi/beh/adg", "ifc/heb/gda", "gda/heb/ifc"};
        for (int way = 0; way < 8; way++) {
            String[] rows = shown[way].split("/");
            FilledHoles x = Check.of("abc" + rows[0] + "/def" + rows[1] + "/ghi" + rows[2]);
            for (int other = 0; other < 8; other++) {
                int difference = x.difference(4, 1, 1, 1, 2 * other);
                Check.due("WAY " + other + " of " + way, other == way ? 1 : 0, difference == 0 ? 1 : 0);
            }
            x.hole(4, 1, 4, 1);
            int least = way == 0 ? 0 : way == 1 ? 1 : way < 4 ? 2 : 3;
            for (int turns = 0; turns <= 3; turns++) {
                x.set(4, turns);
                Check.due("SOURCES", 2 << turns, x.search(4, 1, 3));
                Check.due("found by TURNS " + turns, turns >= least ? 1 : 0, x.search(4, 1, 2) == 0 ? 1 : 0);
            }
            Check.due("the WAY", way, x.search(4, 1, 7));
            Check.due("the WAY of next", way, x.next(6));
            x.hole(5, 0, 5, 0);
            x.set(3, 1);
            // (4, 1): STEADY 777, (5, 0): 500
            Check.due("FILL", 1, x.fill(1));
            Check.due("e", 40, x.dot(4, 1, 0));
            Check.due("the corner as it was", (rows[0].charAt(2) - 'a') * 10, x.dot(5, 0, 0));
            Check.due("log's WAY", way, x.log(0, 7));
        }
    }

    private static void shifting() {
        FilledHoles x = Check.of(RAMP);
        x.set(6, 1);
        int[] due = {1, 1, 0, 3, 2, 0, 8, 0, 40};
        for (int what = 0; what <= 8; what++) {
            Check.due("SHIFTED: search " + what, due[what], x.search(5, 1, what));
        }
        Check.due("BOUND", 0, x.difference(5, 1, 2, 1, 1));
        Check.due("FILL", 1, x.fill(1));
        Check.due("10 and 40", 50, x.dot(5, 1, 0));
        Check.due("log's SHIFT", 40, x.log(0, 8));
        Check.due("DIFFERENCES", 0, x.told(15));
        // q has one 10 among eight 0: -10 by 8, cut, is -1
        FilledHoles y = Check.of("baaaaa/aaaa?a/6a");
        y.set(6, 1);
        Check.due("DIFFERENCE: 7 times 1, 81", 88, y.difference(4, 1, 1, 1, 0));
        Check.due("BOUND: -2, squared, by 8", 0, y.difference(4, 1, 1, 1, 1));
        y.hole(3, 2, 3, 2);
        // now (1, 1) is the one SOURCE; seven KNOWN: -10 by 7, cut
        Check.due("SHIFT", -1, y.search(4, 1, 8));
        FilledHoles z = new FilledHoles();
        z.set(6, 1);
        z.paint(4, 4, 90);
        z.hole(5, 5, 7, 7);
        Check.due("SHIFT of another: 90 by 8", 11, z.search(4, 4, 8));
        Check.due("no SHIFT without KNOWN ones", 0, z.search(6, 6, 8));
        z.set(6, 0);
        Check.due("BOUND of another: 8,100 by 8", 1012, z.difference(4, 4, 1, 1, 1));
        Check.due("no BOUND without KNOWN ones", 0, z.difference(6, 6, 1, 1, 1));
    }

    private static void shiftingBeyondTheTones() {
        FilledHoles high = Check.of("3a3k/azak?k/3a3k");
        high.set(6, 1);
        high.fill(1);
        Check.due("SHIFT", 100, high.log(0, 8));
        Check.due("255 at most", 255, high.dot(4, 1, 0));
        FilledHoles low = Check.of("3z3a/zbza?a/3z3a");
        low.set(6, 1);
        low.fill(1);
        Check.due("SHIFT", -250, low.log(0, 8));
        Check.due("0 at least", 0, low.dot(4, 1, 0));
    }

    private static void weighing() {
        FilledHoles x = Check.of(RAMP);
        x.set(5, 1);
        Check.due("five times", 5 * 3200, x.search(5, 1, 2));
        x.fill(1);
        // (5, 1) is 30 now, SURE 888: WEIGHT 4
        Check.due("DIFFERENCE", 8 * 1600 * 5 + 400 * 4, x.difference(5, 1, 1, 1, 0));
        Check.due("BOUND: 1,680, squared, by 44", 64145, x.difference(5, 1, 1, 1, 1));
        x.set(6, 1);
        // SHIFT: 1,680 by 44, cut: 38; 2 apart eight times, -18 once
        Check.due("DIFFERENCE", 8 * 4 * 5 + 324 * 4, x.difference(5, 1, 1, 1, 0));
        Check.due("BOUND: 80 less 72, squared, by 44", 1, x.difference(5, 1, 1, 1, 1));
    }

    private static void differences() {
        FilledHoles x = Check.of(RAMP);
        Check.due("DIFFERENCE", 12800, x.difference(5, 1, 1, 1, 0));
        Check.due("BOUND", 12800, x.difference(5, 1, 1, 1, 1));
        // by WAY 1 its PATCH is 20, 10, 0: 40, 50, 60 less that: 3 times 400, 2 times 1,600, 3 times 3,600
        Check.due("WAY 1, whatever TURNS are", 15200, x.difference(5, 1, 1, 1, 2));
        Check.due("BOUND of WAY 1", 12800, x.difference(5, 1, 1, 1, 3));
        Check.due("not KNOWN all over", -1, x.difference(5, 1, 4, 1, 0));
        Check.due("not WHOLE", -1, x.difference(5, 1, 0, 1, 0));
        Check.due("not WHOLE", -1, x.difference(5, 1, 2, 0, 15));
        x.set(1, 3);
        Check.due("beyond REACH", -1, x.difference(5, 1, 1, 1, 0));
        Check.due("in REACH", 7200, x.difference(5, 1, 2, 1, 0));
        // the corner (0, 0) has four DOTS: 0, 10, 0, 10 as against 20, 30, 20, 30
        Check.due("of a PATCH that is not WHOLE", 1600, x.difference(0, 0, 2, 1, 0));
        Check.dueOf("p is no DOT", NO, () -> x.difference(7, 1, 1, 1, 99));
        Check.dueOf("q is no DOT", NO, () -> x.difference(1, 1, 1, 3, 99));
        Check.dueOf("what 16", BAD, () -> x.difference(1, 1, 1, 1, 16));
        Check.dueOf("what -1", BAD, () -> x.difference(1, 1, 1, 1, -1));
    }

    /** 49 DOTS, 255 apart, WEIGHT 5: 62,475 squared is more than an int holds. */
    private static void largeBounds() {
        FilledHoles x = Check.of("14a/14a/14a/14a/14a/14a/14a");
        for (int i = 0; i < 49; i++) {
            x.paint(7 + i % 7, i / 7, 255);
        }
        x.set(0, 3);
        x.set(5, 1);
        Check.due("DIFFERENCE", 49 * 5 * 65025, x.difference(10, 3, 3, 3, 0));
        Check.due("BOUND", 49 * 5 * 65025, x.difference(10, 3, 3, 3, 1));
        Check.due("SOURCES", 8, x.search(10, 3, 3));
        Check.due("the BEST is itself", 10, x.search(10, 3, 0));
    }

    private static void fronts() {
        FilledHoles x = Check.of(STRIPES);
        x.hole(0, 0, 0, 0);
        x.hole(6, 4, 6, 4);
        int[][] due = {{3, 2, 888}, {0, 0, 750}, {6, 4, 750}};
        for (int k = 0; k < 3; k++) {
            for (int what = 0; what < 3; what++) {
                Check.due("front " + k + " " + what, due[k][what], x.front(k, what));
            }
        }
        Check.due("not so many", -1, x.front(3, 0));
        Check.due("below 0", -1, x.front(-1, 0));
        Check.due("below 0", -1, x.front(Integer.MIN_VALUE, 2));
        Check.dueOf("front(0, 3)", BAD, () -> x.front(0, 3));
        Check.dueOf("front(99, -1)", BAD, () -> x.front(99, -1));
    }

    private static void partsOfHoles() {
        FilledHoles x = Check.of("aa?aa/a???a/aa?a?/aaaa?/?aaaa");
        Check.due("PARTS", 3, x.told(6));
        int[][] due = {{5, 1, 0, 3, 2, 4}, {2, 4, 2, 4, 3, 2}, {1, 0, 4, 0, 4, 1}};
        for (int part = 0; part < 3; part++) {
            for (int what = 0; what < 6; what++) {
                Check.due("part " + part + " " + what, due[part][what], x.part(part, what));
            }
        }
        FilledHoles y = Check.of("?aaa/aaaa/aaa?");
        int[][] corners = {{1, 0, 0, 0, 0, 1}, {1, 3, 2, 3, 2, 1}};
        for (int part = 0; part < 2; part++) {
            for (int what = 0; what < 6; what++) {
                Check.due("corner " + part + " " + what, corners[part][what], y.part(part, what));
            }
        }
        Check.dueOf("part(3, 9)", NO, () -> x.part(3, 9));
        Check.dueOf("part(-1, 0)", NO, () -> x.part(-1, 0));
        Check.dueOf("part(0, 6)", BAD, () -> x.part(0, 6));
        Check.dueOf("part(0, -1)", BAD, () -> x.part(0, -1));
    }

    private static void rings() {
        FilledHoles x = Check.of("bb?cc/b???c/bb?c?/zzzz?/?zzza");
        // of the first: (1, 0) b, (3, 0) c, (0, 1) b, (4, 1) c, (1, 2) b, (3, 2) c, (2, 3) z
        int[][] due = {{7, 10, 250, 48}, {4, 0, 250, 72}, {2, 250, 250, 250}};
        // of the second: (4, 1) c 20, (3, 2) c 20, (3, 3) z 250, (4, 4) a 0: 290 by 4
        for (int part = 0; part < 3; part++) {
            for (int what = 0; what < 4; what++) {
                Check.due("ring " + part + " " + what, due[part][what], x.ring(part, what));
            }
        }
        FilledHoles corner = Check.of("b?aa/aaaa/aaaa");
        Check.due("the corner is of the RING", 10, corner.ring(0, 2));
        Check.due("10 by 3", 3, corner.ring(0, 3));
        Check.dueOf("ring(3, 9)", NO, () -> x.ring(3, 9));
        Check.dueOf("ring(0, 4)", BAD, () -> x.ring(0, 4));
        Check.dueOf("ring(0, -1)", BAD, () -> x.ring(0, -1));
        x.hole(0, 0, 4, 4);
        int[] none = {0, -1, -1, -1};
        for (int what = 0; what < 4; what++) {
            Check.due("nothing KNOWN: ring " + what, none[what], x.ring(0, what));
        }
    }

    private static void logs() {
        FilledHoles x = Check.of(RAMP);
        Check.dueOf("no FILL", NO, () -> x.log(0, 0));
        x.fill(1);
        x.hole(4, 0, 4, 0);
        x.fill(1);
        int[] first = {5, 1, 3, 1, 3200, 1, 888, 0, 0};
        for (int what = 0; what <= 8; what++) {
            Check.due("log(1, " + what + ")", first[what], x.log(1, what));
        }
        // (4, 0): PATCH (3, 0) .. (5, 1), SURE 4,000 and 888 by 6; (2, 1) is 20 apart four times, then 0
        int[] second = {4, 0, 2, 1, 1600, 1, 814, 0, 0};
        for (int what = 0; what <= 8; what++) {
            Check.due("log(0, " + what + ")", second[what], x.log(0, what));
        }
        Check.dueOf("log(2, 9)", NO, () -> x.log(2, 9));
        Check.dueOf("log(-1, 0)", NO, () -> x.log(-1, 0));
        Check.dueOf("log(0, 9)", BAD, () -> x.log(0, 9));
        Check.dueOf("log(0, -1)", BAD, () -> x.log(0, -1));
        x.paint(0, 0, 1);
        Check.due("paint is no FILL", 4, x.log(0, 0));
    }

    private static void halves() {
        FilledHoles x = Check.of("abcde/bcdef/cd???/de???/efghi");
        // 0 10 10 20 by 4; 20 30 30 40 by 4; at the edge 40 50 by 2
        Check.due("half(1, 0, 0)", 10, x.half(1, 0, 0));
        Check.due("half(1, 1, 0)", 30, x.half(1, 1, 0));
        Check.due("half(1, 2, 0)", 45, x.half(1, 2, 0));
        Check.due("half(1, 0, 1)", 30, x.half(1, 0, 1));
        Check.due("MISSING", -1, x.half(1, 1, 1));
        Check.due("MISSING", -1, x.half(1, 2, 1));
        Check.due("half(1, 2, 2)", 80, x.half(1, 2, 2));
        Check.due("no such DOT", -2, x.half(1, 3, 0));
        Check.due("no such DOT", -2, x.half(1, 0, 3));
        Check.due("no such DOT", -2, x.half(1, -1, 0));
        Check.due("no such HALF", -2, x.half(2, 0, 0));
        Check.dueOf("half(0, ..)", BAD, () -> x.half(0, 0, 0));
        Check.dueOf("half(3, ..)", BAD, () -> x.half(3, 99, 0));
        FilledHoles y = Check.of("9b/9c/9d/9e/9f/9g/9h/9i/9j");
        Check.due("HALF of 5 by 5", 15, y.half(1, 4, 0));
        Check.due("HALF of that: 15 and 35", 25, y.half(2, 0, 0));
        Check.due("at the edges", 90, y.half(2, 2, 2));
        Check.due("no such DOT", -2, y.half(2, 3, 2));
        FilledHoles z = Check.of("20b/20c/20d/20e");
        Check.due("10 by 2 is none", -2, z.half(1, 0, 0));
    }

    private static void aheadOfTime() {
        FilledHoles x = Check.of(RAMP);
        x.set(0, 1);
        int[] due = {0, 1, 3200, -1, 888};
        for (int what = 0; what <= 4; what++) {
            Check.due("ahead " + what, due[what], x.ahead(60, what));
        }
        Check.due("in thought alone", 1, x.told(3));
        Check.due("in thought alone", 0, x.told(7) + x.told(8) + x.told(15));
        x.keep();
        Check.due("FLAW of what TRUTH has MISSING", 0, x.ahead(1, 3));
        Check.dueOf("ahead(0, 0)", BAD, () -> x.ahead(0, 0));
        Check.dueOf("ahead(61, 0)", BAD, () -> x.ahead(61, 0));
        Check.dueOf("ahead(1, 5)", BAD, () -> x.ahead(1, 5));
        Check.dueOf("ahead(1, -1)", BAD, () -> x.ahead(1, -1));
        FilledHoles corner = new FilledHoles();
        corner.hole(0, 0, 0, 0);
        corner.hole(5, 5, 5, 5);
        Check.due("the least SURE is the corner's", 750, corner.ahead(2, 4));
        corner.fill(2);
        corner.hole(5, 5, 5, 5);
        Check.due("of all that are filled in then", 750, corner.ahead(1, 4));
        FilledHoles y = new FilledHoles();
        Check.due("none filled in", -1, y.ahead(1, 4));
        y.hole(0, 0, 1, 1);
        y.hole(6, 6, 7, 7);
        // (1, 0), PATCH of six, and (0, 1) have two KNOWN ones, (1, 1) has five of nine; (6, 6) likewise
        Check.due("the least SURE", 555, y.ahead(60, 4));
        y.hole(0, 2, 0, 2);
        // now (1, 1) has four of nine
        Check.due("the least SURE, of the corner, too", 1, y.ahead(60, 4) < 555 ? 1 : 0);
        y.undo();
        Check.due("one FILL leaves four", 4, y.ahead(1, 0));
        Check.due("two leave none", 0, y.ahead(2, 0));
    }

    private static void flaws() {
        FilledHoles x = Check.of("7a/7a/7a");
        x.paint(5, 1, 7);
        x.keep();
        Check.due("none filled in", 0, x.flaw());
        x.hole(5, 1, 6, 1);
        x.fill(9);
        // 0 instead of 7, 0 as it was
        Check.due("FLAW", 49, x.flaw());
        x.paint(5, 1, 200);
        Check.due("painted is not filled in", 0, x.flaw());
        FilledHoles y = Check.of(STRIPES);
        y.keep();
        y.fill(1);
        Check.due("TRUTH has it MISSING", 0, y.flaw());
    }

    private static void flawsInThought() {
        FilledHoles x = Check.of(CHEQUER);
        Check.due("without TRUTH", -1000000000, x.flawBy(0));
        Check.dueOf("flawBy(-1)", BAD, () -> x.flawBy(-1));
        Check.dueOf("flawBy(3)", BAD, () -> x.flawBy(3));
        x.keep();
        x.hole(10, 2, 11, 3);
        Check.due("plain", 0, x.flawBy(0));
        Check.due("GUIDED", 400, x.flawBy(1));
        Check.due("GUIDED, there being one HALF", 400, x.flawBy(2));
        Check.due("in thought alone", 4, x.told(3));
        x.guide(1);
        x.hole(7, 4, 7, 4);
        Check.due("less FLAW as it is", 0, x.flawBy(0));
    }

    private static void tuning() {
        // H 5: by SIZE 2 SOURCES have y 2 and stay clear of x 8, by SIZE 3 there are none
        FilledHoles x = Check.of("9b/9b/8b?/9b/9b");
        Check.due("SIZE", 1, x.tune(0));
        Check.due("MISSING", 0, x.tune(1));
        Check.due("FLAW without TRUTH", 0, x.tune(2));
        x.set(0, 3);
        Check.due("whatever SIZE is", 1, x.tune(0));
        Check.due("SIZE stays", 3, x.told(10));
        Check.dueOf("tune(3)", BAD, () -> x.tune(3));
        Check.dueOf("tune(-1)", BAD, () -> x.tune(-1));
        FilledHoles y = Check.of("5a/5a/2a?2a/5a/5a");
        Check.due("none goes: the least SIZE", 1, y.tune(0));
        Check.due("MISSING", 1, y.tune(1));
        bestBySize2();
        bestBySize3();
        FilledHoles z = Check.of(CHEQUER);
        z.keep();
        z.hole(10, 2, 11, 3);
        Check.due("FILLS that are not GUIDED", 0, z.tune(2));
        Check.due("FILLS that are not GUIDED", 0, z.ahead(60, 2));
        Check.due("FILLS that are not GUIDED", 0, z.turning(1));
    }

    /** What is two DOTS away tells which of two is right: SIZE 1 takes the first, and is wrong. */
    private static void bestBySize2() {
        FilledHoles x = Check.of("15a/15a/15a/15a/15a");
        x.paint(2, 2, 99);
        x.paint(7, 2, 50);
        x.paint(12, 2, 50);
        x.paint(5, 0, 200);
        x.paint(10, 0, 200);
        x.keep();
        x.hole(12, 2, 12, 2);
        Check.due("SIZE", 2, x.tune(0));
        Check.due("MISSING", 0, x.tune(1));
        Check.due("FLAW", 0, x.tune(2));
    }

    /** The same with what is three DOTS away. */
    private static void bestBySize3() {
        FilledHoles x = Check.of("20a/20a/20a/20a/20a/20a/20a");
        x.paint(8, 3, 50);
        x.paint(15, 3, 50);
        x.paint(5, 0, 200);
        x.paint(12, 0, 200);
        x.keep();
        x.hole(15, 3, 15, 3);
        Check.due("SIZE", 3, x.tune(0));
        Check.due("MISSING", 0, x.tune(1));
        Check.due("FLAW", 0, x.tune(2));
        x.set(0, 3);
        Check.due("as by fill()", 1, x.fill(60));
        Check.due("FLAW", 0, x.flaw());
    }

    private static void reaching() {
        FilledHoles x = Check.of(RAMP);
        x.set(1, 1);
        Check.due("the nearest is (3, 1)", 2, x.reach(5, 1, 0));
        Check.due("the BEST is (3, 1)", 2, x.reach(5, 1, 1));
        x.set(6, 1);
        Check.due("SHIFTED: the BEST is (1, 1)", 4, x.reach(5, 1, 1));
        Check.due("1 at least", 1, x.reach(2, 1, 0));
        Check.due("REACH stays", 1, x.told(11));
        FilledHoles y = Check.of("5a/5a/2a?2a/5a/5a");
        Check.due("none", -1, y.reach(2, 2, 0));
        Check.due("none", -1, y.reach(2, 2, 1));
        Check.dueOf("reach(7, 0, 9)", NO, () -> x.reach(7, 0, 9));
        Check.dueOf("reach(0, 0, 2)", BAD, () -> x.reach(0, 0, 2));
        Check.dueOf("reach(0, 0, -1)", BAD, () -> x.reach(0, 0, -1));
        FilledHoles z = new FilledHoles();
        Check.due("up and down, too", 5, z.reach(1, 6, 1));
    }

    private static void seaming() {
        FilledHoles x = Check.of(RAMP);
        Check.due("none", 0, x.seams(0) + x.seams(1) + x.seams(2));
        x.fill(1);
        // 30 beside 40 and 60, below 50, above 50
        Check.due("together", 10 + 30 + 20 + 20, x.seams(0));
        Check.due("how many", 4, x.seams(1));
        Check.due("the greatest", 30, x.seams(2));
        x.hole(6, 1, 6, 1);
        Check.due("both KNOWN", 3, x.seams(1));
        Check.due("the greatest", 20, x.seams(2));
        x.fill(1);
        // (6, 1): just its two above and below; not as against (5, 1), filled in, too
        Check.due("just one filled in", 5, x.seams(1));
        Check.dueOf("seams(3)", BAD, () -> x.seams(3));
        Check.dueOf("seams(-1)", BAD, () -> x.seams(-1));
    }

    private static void favourites() {
        FilledHoles x = Check.of("abccba/def?ed/ghiihg");
        Check.due("none", -1, x.favourite(0));
        Check.due("none", 0, x.favourite(1));
        Check.dueOf("favourite(2)", BAD, () -> x.favourite(2));
        Check.dueOf("favourite(-1)", BAD, () -> x.favourite(-1));
        FilledHoles y = Check.of("abccba/deffed/ghiihg");
        y.hole(4, 1, 4, 1);
        y.set(4, 1);
        y.fill(1);
        Check.due("WAY 1", 1, y.favourite(0));
        Check.due("once", 1, y.favourite(1));
        y.set(4, 0);
        y.hole(4, 1, 4, 1);
        y.fill(1);
        Check.due("alike: the least", 0, y.favourite(0));
        Check.due("once", 1, y.favourite(1));
        y.set(4, 1);
        y.hole(4, 1, 4, 1);
        y.fill(1);
        Check.due("WAY 1", 1, y.favourite(0));
        Check.due("twice", 2, y.favourite(1));
    }

    private static void turns() {
        String[] shown = {"abc/def/ghi", "cba/fed/ihg", "ihg/fed/cba", "gda/heb/ifc"};
        for (int turns = 0; turns <= 3; turns++) {
            String[] rows = shown[turns].split("/");
            FilledHoles x = Check.of("abc" + rows[0] + "/def" + rows[1] + "/ghi" + rows[2]);
            x.hole(4, 1, 4, 1);
            Check.due("turning(0)", turns, x.turning(0));
            Check.due("turning(1)", 0, x.turning(1));
            Check.due("TURNS stay", 0, x.told(16));
            Check.due("in thought alone", 1, x.told(3));
            Check.dueOf("turning(2)", BAD, () -> x.turning(2));
            Check.dueOf("turning(-1)", BAD, () -> x.turning(-1));
        }
        FilledHoles y = Check.of(RAMP);
        y.fill(1);
        y.hole(5, 1, 5, 1);
        Check.due("of these FILLS alone", 3200, y.turning(1));
    }

    private static void lending() {
        FilledHoles x = Check.of(STRIPES);
        x.fill(1);
        // ORIGIN (1, 1)
        Check.due("in the PATCH", 1, x.lent(0, 0));
        Check.due("in the PATCH", 1, x.lent(2, 2));
        Check.due("not in it", 0, x.lent(3, 2));
        Check.due("not in it", 0, x.lent(1, 3));
        x.set(0, 2);
        Check.due("by SIZE 2", 1, x.lent(3, 3));
        x.set(0, 1);
        x.hole(5, 2, 5, 2);
        x.fill(1);
        Check.due("two", 2, x.lent(1, 1));
        x.paint(3, 2, 0);
        Check.due("one", 1, x.lent(1, 1));
        Check.dueOf("lent(7, 0)", NO, () -> x.lent(7, 0));
        Check.dueOf("lent(0, -1)", NO, () -> x.lent(0, -1));
    }

    private static void printing() {
        FilledHoles x = Check.of("3a/3a/aab");
        Check.due("print", 10, x.print());
        x.hole(2, 1, 2, 1);
        Check.due("print", 10 - 31L * 31 * 31, x.print());
        x.paint(0, 0, 255);
        Check.due("print", 10 - 29791 + 255L * 31 * 31 * 31 * 31 * 31 * 31 * 31 * 31, x.print());
    }

    private static void refusals() {
        FilledHoles x = new FilledHoles();
        Check.answer(() -> x.dot(8, 0, 99));
        Check.answer(() -> x.lent(0, 8));
        Check.answer(() -> x.log(0, 99));
        Check.answer(() -> x.fill(0));
        Check.answer(() -> x.text(1));
        Check.due("NoSuchElementException", 3, x.status(0));
        Check.due("IllegalArgumentException", 2, x.status(1));
        Check.due("others", -1, x.status(2));
        Check.due("others", -1, x.status(-1));
        Check.due("status is never refused", 2, x.status(1));
        Check.due("a FAULT is no refusal", -9, x.text(0));
        Check.due("nor is NONE", -1, x.undo());
        Check.due("IllegalArgumentException", 2, x.status(1));
    }
}
