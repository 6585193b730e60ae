import java.util.NoSuchElementException;

/** What the tests share: due answers are counted, wrong ones printed. */
final class Check {
    /** A call whose answer, or exception, is looked at. */
    interface Call {
        long ask();
    }

    static final long NO_SUCH = Long.MIN_VALUE;
    static final long BAD_ARGUMENT = Long.MIN_VALUE + 1;
    static final long OTHER_THROWN = Long.MIN_VALUE + 2;

    private static int asked = 0;
    private static int wrong = 0;
    private static String about = "";

    private Check() {
    }

    static void due(String what, long want, long got) {
        asked++;
        if (want != got) {
            wrong++;
            if (wrong <= 60) {
                System.out.println(about + what + ": answered " + name(got) + ", due is " + name(want));
            }
        }
    }

    /** What the answers that follow are looked at for: stands ahead of each that is wrong. */
    static void about(String sentence) {
        about = sentence.isEmpty() ? "" : sentence + " -- ";
    }

    static void same(String what, String want, String got) {
        asked++;
        if (!want.equals(got)) {
            wrong++;
            System.out.println(about + what + ": is " + got + ", due is " + want);
        }
    }

    static int askedSoFar() {
        return asked;
    }

    static void dueOf(String what, long want, Call call) {
        due(what, want, answer(call));
    }

    /** The answer, or one of the numbers above for what was thrown. */
    static long answer(Call call) {
        try {
            return call.ask();
        } catch (NoSuchElementException e) {
            return e.getClass() == NoSuchElementException.class ? NO_SUCH : OTHER_THROWN;
        } catch (IllegalArgumentException e) {
            return e.getClass() == IllegalArgumentException.class ? BAD_ARGUMENT : OTHER_THROWN;
        } catch (RuntimeException e) {
            e.printStackTrace(System.out);
            return OTHER_THROWN;
        }
    }

    static int wrongSoFar() {
        return wrong;
    }

    static void end() {
        System.out.println(asked + " answers looked at, " + wrong + " wrong");
        System.exit(wrong == 0 && asked > 0 ? 0 : 1);
    }

    private static String name(long answer) {
        if (answer == NO_SUCH) {
            return "throws.NoSuchElementException";
        }
        if (answer == BAD_ARGUMENT) {
            return "throws.IllegalArgumentException";
        }
        return answer == OTHER_THROWN ? "throws another exception" : Long.toString(answer);
    }

    /** Puts the text on the TAPE by feed(), with zeros behind it: its length. */
    static int feed(FilledHoles holes, String text) {
        for (int at = 0; at < text.length(); at += 20) {
            int[] five = new int[5];
            for (int i = 0; i < 20 && at + i < text.length(); i++) {
                five[i / 4] |= (text.charAt(at + i) & 255) << (24 - 8 * (i % 4));
            }
            holes.feed(five[0], five[1], five[2], five[3], five[4]);
        }
        return text.length();
    }

    /** A new object with the text as its PICTURE. */
    static FilledHoles of(String text) {
        FilledHoles holes = new FilledHoles();
        int fed = feed(holes, text);
        if (holes.text(fed) < 0) {
            throw new IllegalStateException("the test's own text has a FAULT: " + text);
        }
        return holes;
    }
}
