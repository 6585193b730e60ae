import java.util.Arrays;
import java.util.NoSuchElementException;

/** Holes in a picture, filled from the edge inwards; ../shared/DOC.md says what each call promises. */
public final class FilledHoles {
    public static final int NONE = -1;

    private static final int LEAST_SIDE = 3;
    private static final int MOST_SIDE = 20;
    private static final int MOST_DOTS = 400;
    private static final int FIRST_SIDE = 8;
    private static final int TONE_MOST = 255;
    private static final int FULLY_SURE = 1000;
    private static final int FILLS_A_CALL = 60;
    private static final int NO_SUCH_HALF = -2;
    private static final int NO_TRUTH_TO_GAIN_BY = NONE - 999999999;

    /** The four next to a DOT: left, right, above, below. */
    private static final int[] STEP_X = {-1, 1, 0, 0};
    private static final int[] STEP_Y = {0, 0, -1, 1};

    private final Tape tape = new Tape();
    private final Settings settings = new Settings();
    private final Picture picture = new Picture();
    private final Journal journal = new Journal();
    private final History history = new History();
    private final Picture truth = new Picture();
    private boolean hasTruth = false;

    private final Ranker ranker = new Ranker();
    private final Searcher searcher = new Searcher(picture, settings);
    private final Parts parts = new Parts();
    private final Filler filler = new Filler(ranker, searcher);

    /** What is done in thought is done to these, so nothing has to be put back. */
    private final Settings trialSettings = new Settings();
    private final Picture trial = new Picture();
    private final Journal trialJournal = new Journal();

    private int refusedNoSuch = 0;
    private int refusedArgument = 0;

    public FilledHoles() {
    }

    public int feed(int a, int b, int c, int d, int e) {
        if (!tape.hasRoom()) {
            return NONE;
        }
        tape.append(a);
        tape.append(b);
        tape.append(c);
        tape.append(d);
        tape.append(e);
        return tape.length;
    }

    public int text(int n) throws IllegalArgumentException {
        demand(n >= 0 && n <= tape.length);
        int fault = tape.parse(n);
        tape.length = 0;
        if (fault != 0) {
            return fault - 10;
        }
        if (tape.width != picture.width || tape.height != picture.height) {
            hasTruth = false;
        }
        picture.load(tape.tones, tape.width, tape.height);
        journal.clear();
        history.clear();
        return picture.countMissing();
    }

    public int fault() {
        return tape.faultPlace;
    }

    public int set(int what, int v) throws IllegalArgumentException {
        demand(settings.allows(what, v));
        int before = settings.value(what);
        settings.change(what, v);
        return before;
    }

    public int hole(int x, int y, int toX, int toY) throws NoSuchElementException, IllegalArgumentException {
        demandDot(x, y);
        demandDot(toX, toY);
        demand(toX >= x && toY >= y);
        int known = 0;
        for (int row = y; row <= toY; row++) {
            for (int column = x; column <= toX; column++) {
                known += picture.isKnown(column, row) ? 1 : 0;
            }
        }
        if (known == 0) {
            return 0;
        }
        history.prepare(picture, journal);
        history.commitIfAny(known);
        for (int row = y; row <= toY; row++) {
            for (int column = x; column <= toX; column++) {
                picture.give(picture.at(column, row), NONE);
            }
        }
        return known;
    }

    public int paint(int x, int y, int tone) throws NoSuchElementException, IllegalArgumentException {
        demandDot(x, y);
        demand(tone >= 0 && tone <= TONE_MOST);
        int i = picture.at(x, y);
        int before = picture.tones[i];
        history.prepare(picture, journal);
        history.commitIfAny(1);
        picture.give(i, tone);
        return before;
    }

    public int keep() {
        truth.copyFrom(picture);
        hasTruth = true;
        return picture.dots() - picture.countMissing();
    }

    public int fill(int n) throws IllegalArgumentException {
        demand(n >= 1 && n <= FILLS_A_CALL);
        history.prepare(picture, journal);
        return history.commitIfAny(filler.run(picture, settings, 0, journal, n));
    }

    public int guide(int levels) throws IllegalArgumentException {
        demand(levels == 1 || levels == 2);
        history.prepare(picture, journal);
        return history.commitIfAny(filler.run(picture, settings, levels, journal, MOST_DOTS));
    }

    public int undo() {
        if (!history.takeBack(picture, journal)) {
            return NONE;
        }
        return picture.countMissing();
    }

    public int told(int what) throws IllegalArgumentException {
        demand(what >= 0 && what <= 18);
        switch (what) {
            case 0: return picture.width;
            case 1: return picture.height;
            case 2: return picture.dots() - picture.countMissing();
            case 3: return picture.countMissing();
            case 4: return picture.countFilledIn();
            case 5: return countFront();
            case 6: return parts.number(picture);
            case 7: return journal.fills;
            case 8: return history.depth;
            case 9: return tape.length;
            case 10: return settings.size;
            case 11: return settings.reach;
            case 12: return settings.from;
            case 13: return settings.ranked;
            case 14: return hasTruth ? 1 : 0;
            case 15: return (int) journal.differences;
            case 16: return settings.turns;
            case 17: return settings.weighed;
            default: return settings.shifted;
        }
    }

    public int dot(int x, int y, int what) throws NoSuchElementException, IllegalArgumentException {
        demandDot(x, y);
        demand(what >= 0 && what <= 9);
        int i = picture.at(x, y);
        switch (what) {
            case 0: return picture.tones[i];
            case 1: return picture.sures[i];
            case 2: return picture.filledBy[i] > 0 ? 1 : 0;
            case 3: return picture.xOf(picture.parents[i]);
            case 4: return picture.yOf(picture.parents[i]);
            case 5: return picture.xOf(picture.origins[i]);
            case 6: return picture.yOf(picture.origins[i]);
            case 7:
                parts.number(picture);
                return parts.labels[i];
            case 8: return picture.isOnFront(x, y) ? 1 : 0;
            default: return picture.filledBy[i];
        }
    }

    public int rank(int x, int y, int what) throws NoSuchElementException, IllegalArgumentException {
        demandDot(x, y);
        demand(what >= 0 && what <= 6);
        if (!picture.isMissing(x, y)) {
            return 0;
        }
        ranker.measure(picture, settings, x, y);
        switch (what) {
            case 0: return ranker.steady;
            case 1: return ranker.gx;
            case 2: return ranker.gy;
            case 3: return ranker.nx;
            case 4: return ranker.ny;
            case 5: return ranker.flow;
            default: return ranker.standing;
        }
    }

    public int next(int what) throws IllegalArgumentException {
        demand(what >= 0 && what <= 6);
        ranker.lineUp(picture, settings);
        int place = ranker.foremost();
        if (place == NONE) {
            return NONE;
        }
        int p = ranker.frontDots[place];
        if (what < 3) {
            return frontAnswer(place, what);
        }
        searcher.aim(picture, settings, picture.xOf(p), picture.yOf(p));
        searcher.scanInReach();
        switch (what) {
            case 3: return picture.xOf(searcher.best);
            case 4: return picture.yOf(searcher.best);
            case 5: return searcher.bestDifference;
            default: return searcher.bestWay;
        }
    }

    public int search(int x, int y, int what) throws NoSuchElementException, IllegalArgumentException {
        demandDot(x, y);
        demand(what >= 0 && what <= 8);
        searcher.aim(picture, settings, x, y);
        searcher.scanInReach();
        switch (what) {
            case 0: return picture.xOf(searcher.best);
            case 1: return picture.yOf(searcher.best);
            case 2: return searcher.bestDifference;
            case 3: return searcher.asked;
            case 4: return searcher.skipped;
            case 5: return searcher.stopped;
            case 6: return searcher.looked;
            case 7: return searcher.bestWay;
            default: return searcher.bestShift;
        }
    }

    public int difference(int x, int y, int atX, int atY, int what)
            throws NoSuchElementException, IllegalArgumentException {
        demandDot(x, y);
        demandDot(atX, atY);
        demand(what >= 0 && what <= 15);
        searcher.aim(picture, settings, x, y);
        if (!searcher.reaches(atX, atY) || !searcher.isWholeAndUsable(atX, atY)) {
            return NONE;
        }
        int q = picture.at(atX, atY);
        int way = what / 2;
        searcher.compare(q, way);
        if (what % 2 == 1) {
            return (int) searcher.bound;
        }
        return searcher.reckon(q, way, Searcher.NO_LIMIT);
    }

    public int front(int k, int what) throws IllegalArgumentException {
        demand(what >= 0 && what <= 2);
        ranker.lineUp(picture, settings);
        int place = ranker.placeOf(k);
        return place == NONE ? NONE : frontAnswer(place, what);
    }

    public int part(int part, int what) throws NoSuchElementException, IllegalArgumentException {
        demandPart(part);
        demand(what >= 0 && what <= 5);
        int dots = 0;
        int onFront = 0;
        int leastX = MOST_SIDE;
        int leastY = MOST_SIDE;
        int greatestX = NONE;
        int greatestY = NONE;
        for (int i = 0; i < picture.dots(); i++) {
            if (parts.labels[i] == part) {
                int x = picture.xOf(i);
                int y = picture.yOf(i);
                dots++;
                onFront += picture.isOnFront(x, y) ? 1 : 0;
                leastX = Math.min(leastX, x);
                leastY = Math.min(leastY, y);
                greatestX = Math.max(greatestX, x);
                greatestY = Math.max(greatestY, y);
            }
        }
        switch (what) {
            case 0: return dots;
            case 1: return leastX;
            case 2: return leastY;
            case 3: return greatestX;
            case 4: return greatestY;
            default: return onFront;
        }
    }

    public int ring(int part, int what) throws NoSuchElementException, IllegalArgumentException {
        demandPart(part);
        demand(what >= 0 && what <= 3);
        int dots = 0;
        int least = TONE_MOST;
        int greatest = 0;
        int together = 0;
        for (int i = 0; i < picture.dots(); i++) {
            int tone = picture.tones[i];
            if (tone != NONE && parts.isBeside(picture, picture.xOf(i), picture.yOf(i), part)) {
                dots++;
                least = Math.min(least, tone);
                greatest = Math.max(greatest, tone);
                together += tone;
            }
        }
        if (what == 0) {
            return dots;
        }
        if (dots == 0) {
            return NONE;
        }
        switch (what) {
            case 1: return least;
            case 2: return greatest;
            default: return together / dots;
        }
    }

    public int log(int k, int what) throws NoSuchElementException, IllegalArgumentException {
        if (k < 0 || k >= journal.kept()) {
            refuseNoSuch();
        }
        demand(what >= 0 && what < Journal.COLUMNS);
        return journal.entry(k, what);
    }

    public int half(int level, int x, int y) throws IllegalArgumentException {
        demand(level == 1 || level == 2);
        if (filler.makeHalves(picture, level) < level) {
            return NO_SUCH_HALF;
        }
        Picture coarse = level == 1 ? filler.coarse : filler.coarser;
        return coarse.has(x, y) ? coarse.tones[coarse.at(x, y)] : NO_SUCH_HALF;
    }

    public int ahead(int n, int what) throws IllegalArgumentException {
        demand(n >= 1 && n <= FILLS_A_CALL && what >= 0 && what <= 4);
        startTrial();
        filler.run(trial, trialSettings, 0, trialJournal, n);
        switch (what) {
            case 0: return trial.countMissing();
            case 1: return trialJournal.fills;
            case 2: return (int) trialJournal.differences;
            case 3: return hasTruth ? flawOf(trial) : NONE;
            default: return leastSureFilledIn(trial);
        }
    }

    public int flaw() {
        return hasTruth ? flawOf(picture) : NONE;
    }

    public int flawBy(int levels) throws IllegalArgumentException {
        demand(levels >= 0 && levels <= 2);
        if (!hasTruth) {
            return NO_TRUTH_TO_GAIN_BY;
        }
        startTrial();
        filler.run(trial, trialSettings, levels, trialJournal, MOST_DOTS);
        return flawOf(trial) - flawOf(picture);
    }

    public int tune(int what) throws IllegalArgumentException {
        demand(what >= 0 && what <= 2);
        int bestSize = 0;
        int leastMissing = 0;
        int leastFlaw = 0;
        for (int size = 1; size <= 3; size++) {
            startTrial();
            trialSettings.size = size;
            filler.run(trial, trialSettings, 0, trialJournal, MOST_DOTS);
            int missing = trial.countMissing();
            int flaw = hasTruth ? flawOf(trial) : 0;
            if (bestSize == 0 || missing < leastMissing || missing == leastMissing && flaw < leastFlaw) {
                bestSize = size;
                leastMissing = missing;
                leastFlaw = flaw;
            }
        }
        switch (what) {
            case 0: return bestSize;
            case 1: return leastMissing;
            default: return leastFlaw;
        }
    }

    public int reach(int x, int y, int what) throws NoSuchElementException, IllegalArgumentException {
        demandDot(x, y);
        demand(what == 0 || what == 1);
        trialSettings.copyFrom(settings);
        trialSettings.reach = MOST_SIDE;
        searcher.aim(picture, trialSettings, x, y);
        if (what == 0) {
            return searcher.leastReachOfAny();
        }
        searcher.scanInReach();
        // the first of the least among all SOURCES is so among any fewer that hold it
        return searcher.best == NONE ? NONE : searcher.reachTo(searcher.best);
    }

    public int seams(int what) throws IllegalArgumentException {
        demand(what >= 0 && what <= 2);
        int together = 0;
        int count = 0;
        int greatest = 0;
        for (int i = 0; i < picture.dots(); i++) {
            for (int ahead = 1; ahead < STEP_X.length; ahead += 2) {
                int x = picture.xOf(i) + STEP_X[ahead];
                int y = picture.yOf(i) + STEP_Y[ahead];
                if (isSeam(i, x, y)) {
                    int step = Math.abs(picture.tones[i] - picture.tones[picture.at(x, y)]);
                    together += step;
                    count++;
                    greatest = Math.max(greatest, step);
                }
            }
        }
        switch (what) {
            case 0: return together;
            case 1: return count;
            default: return greatest;
        }
    }

    public int favourite(int what) throws IllegalArgumentException {
        demand(what == 0 || what == 1);
        int favourite = NONE;
        int most = 0;
        for (int way = 0; way < Searcher.MOST_WAYS; way++) {
            int had = journal.countWay(way);
            if (had > most) {
                favourite = way;
                most = had;
            }
        }
        return what == 0 ? favourite : most;
    }

    public int turning(int what) throws IllegalArgumentException {
        demand(what == 0 || what == 1);
        int bestTurns = NONE;
        long least = 0;
        for (int turns = 0; turns <= 3; turns++) {
            startTrial();
            trialSettings.turns = turns;
            filler.run(trial, trialSettings, 0, trialJournal, MOST_DOTS);
            if (bestTurns == NONE || trialJournal.differences < least) {
                bestTurns = turns;
                least = trialJournal.differences;
            }
        }
        return what == 0 ? bestTurns : (int) least;
    }

    public int lent(int x, int y) throws NoSuchElementException {
        demandDot(x, y);
        int size = settings.size;
        int count = 0;
        for (int i = 0; i < picture.dots(); i++) {
            int origin = picture.origins[i];
            if (origin != NONE && Math.abs(picture.xOf(origin) - x) <= size
                    && Math.abs(picture.yOf(origin) - y) <= size) {
                count++;
            }
        }
        return count;
    }

    public long print() {
        long sum = 0;
        for (int i = 0; i < picture.dots(); i++) {
            sum = 31 * sum + picture.tones[i];
        }
        return sum;
    }

    public int status(int what) {
        switch (what) {
            case 0: return refusedNoSuch;
            case 1: return refusedArgument;
            default: return NONE;
        }
    }

    private void refuseNoSuch() {
        refusedNoSuch++;
        throw new NoSuchElementException("no such DOT, PART or FILL");
    }

    private void demand(boolean holds) {
        if (!holds) {
            refusedArgument++;
            throw new IllegalArgumentException("an argument that is none of those told");
        }
    }

    private void demandDot(int x, int y) {
        if (!picture.has(x, y)) {
            refuseNoSuch();
        }
    }

    private void demandPart(int part) {
        int count = parts.number(picture);
        if (part < 0 || part >= count) {
            refuseNoSuch();
        }
    }

    private void startTrial() {
        trialSettings.copyFrom(settings);
        trial.copyFrom(picture);
        trialJournal.clear();
    }

    private int frontAnswer(int place, int what) {
        int p = ranker.frontDots[place];
        switch (what) {
            case 0: return picture.xOf(p);
            case 1: return picture.yOf(p);
            default: return ranker.frontRanks[place];
        }
    }

    private int countFront() {
        int count = 0;
        for (int i = 0; i < picture.dots(); i++) {
            count += picture.isOnFront(picture.xOf(i), picture.yOf(i)) ? 1 : 0;
        }
        return count;
    }

    private boolean isSeam(int i, int x, int y) {
        if (picture.tones[i] == NONE || !picture.isKnown(x, y)) {
            return false;
        }
        return picture.filledBy[i] > 0 != picture.filledBy[picture.at(x, y)] > 0;
    }

    private int flawOf(Picture of) {
        int together = 0;
        for (int i = 0; i < of.dots(); i++) {
            if (of.filledBy[i] > 0 && truth.tones[i] != NONE) {
                int off = of.tones[i] - truth.tones[i];
                together += off * off;
            }
        }
        return together;
    }

    private static int leastSureFilledIn(Picture of) {
        int least = NONE;
        for (int i = 0; i < of.dots(); i++) {
            if (of.filledBy[i] > 0 && (least == NONE || of.sures[i] < least)) {
                least = of.sures[i];
            }
        }
        return least;
    }

    /** What set() can change. */
    private static final class Settings {
        private static final int[] LEAST = {1, 1, 0, 0, 0, 0, 0};
        private static final int[] MOST = {3, 20, 1, 2, 3, 1, 1};

        private int size = 1;
        private int reach = MOST_SIDE;
        private int from = 0;
        private int ranked = 0;
        private int turns = 0;
        private int weighed = 0;
        private int shifted = 0;

        boolean allows(int what, int v) {
            return what >= 0 && what < LEAST.length && v >= LEAST[what] && v <= MOST[what];
        }

        int value(int what) {
            switch (what) {
                case 0: return size;
                case 1: return reach;
                case 2: return from;
                case 3: return ranked;
                case 4: return turns;
                case 5: return weighed;
                default: return shifted;
            }
        }

        void change(int what, int v) {
            switch (what) {
                case 0: size = v; break;
                case 1: reach = v; break;
                case 2: from = v; break;
                case 3: ranked = v; break;
                case 4: turns = v; break;
                case 5: weighed = v; break;
                default: shifted = v; break;
            }
        }

        void copyFrom(Settings other) {
            size = other.size;
            reach = other.reach;
            from = other.from;
            ranked = other.ranked;
            turns = other.turns;
            weighed = other.weighed;
            shifted = other.shifted;
        }
    }

    /** DOTS by their number in order, y times W and x; NONE stands for a DOT that there is not. */
    private static final class Picture {
        private int width = FIRST_SIDE;
        private int height = FIRST_SIDE;
        private final int[] tones = new int[MOST_DOTS];
        private final int[] sures = new int[MOST_DOTS];
        private final int[] filledBy = new int[MOST_DOTS];
        private final int[] parents = new int[MOST_DOTS];
        private final int[] origins = new int[MOST_DOTS];

        Picture() {
            Arrays.fill(sures, FULLY_SURE);
            Arrays.fill(parents, NONE);
            Arrays.fill(origins, NONE);
        }

        int dots() {
            return width * height;
        }

        boolean has(int x, int y) {
            return x >= 0 && x < width && y >= 0 && y < height;
        }

        /** Only of DOTS that has() tells to be there. */
        int at(int x, int y) {
            return y * width + x;
        }

        int xOf(int i) {
            return i < 0 || width <= 0 ? NONE : i % width;
        }

        int yOf(int i) {
            return i < 0 || width <= 0 ? NONE : i / width;
        }

        boolean isKnown(int x, int y) {
            return has(x, y) && tones[y * width + x] != NONE;
        }

        boolean isMissing(int x, int y) {
            return has(x, y) && tones[y * width + x] == NONE;
        }

        boolean isOnFront(int x, int y) {
            return isMissing(x, y)
                    && (isKnown(x, y - 1) || isKnown(x - 1, y) || isKnown(x + 1, y) || isKnown(x, y + 1));
        }

        int countMissing() {
            int count = 0;
            for (int i = 0; i < dots(); i++) {
                count += tones[i] == NONE ? 1 : 0;
            }
            return count;
        }

        int countFilledIn() {
            int count = 0;
            for (int i = 0; i < dots(); i++) {
                count += filledBy[i] > 0 ? 1 : 0;
            }
            return count;
        }

        /** A DOT that is not filled in, KNOWN or (tone NONE) MISSING. */
        void give(int i, int tone) {
            tones[i] = tone;
            sures[i] = tone == NONE ? 0 : FULLY_SURE;
            filledBy[i] = 0;
            parents[i] = NONE;
            origins[i] = NONE;
        }

        void fillIn(int i, int tone, int sure, int parent, int number) {
            tones[i] = tone;
            sures[i] = sure;
            filledBy[i] = number;
            parents[i] = parent;
            origins[i] = filledBy[parent] > 0 ? origins[parent] : parent;
        }

        void load(int[] newTones, int newWidth, int newHeight) {
            width = newWidth;
            height = newHeight;
            for (int i = 0; i < dots(); i++) {
                give(i, newTones[i]);
            }
        }

        void copyFrom(Picture other) {
            width = other.width;
            height = other.height;
            int count = other.dots();
            System.arraycopy(other.tones, 0, tones, 0, count);
            System.arraycopy(other.sures, 0, sures, 0, count);
            System.arraycopy(other.filledBy, 0, filledBy, 0, count);
            System.arraycopy(other.parents, 0, parents, 0, count);
            System.arraycopy(other.origins, 0, origins, 0, count);
        }

        boolean hasHalf() {
            return (width + 1) / 2 >= LEAST_SIDE && (height + 1) / 2 >= LEAST_SIDE;
        }

        void becomeHalfOf(Picture fine) {
            width = (fine.width + 1) / 2;
            height = (fine.height + 1) / 2;
            for (int i = 0; i < dots(); i++) {
                give(i, fine.meanOfFour(2 * xOf(i), 2 * yOf(i)));
            }
        }

        private int meanOfFour(int left, int top) {
            int together = 0;
            int count = 0;
            for (int y = top; y <= top + 1; y++) {
                for (int x = left; x <= left + 1; x++) {
                    if (isKnown(x, y)) {
                        together += tones[y * width + x];
                        count++;
                    }
                }
            }
            return count == 0 ? NONE : together / count;
        }
    }

    /** The TAPE, and what its text was read as. */
    private static final class Tape {
        private static final int MOST_BYTES = 300;
        private static final int BYTES_A_FEED = 20;
        private static final int CANNOT_STAND = 1;
        private static final int NO_SUCH_NUMBER = 2;
        private static final int TOO_MUCH = 3;
        private static final int SHORT_ROW = 4;
        private static final int FEW_ROWS = 5;

        private final int[] bytes = new int[MOST_BYTES];
        private int length = 0;

        private final int[] tones = new int[MOST_DOTS];
        private int width = 0;
        private int height = 0;
        private int faultPlace = NONE;

        private int end = 0;
        private int place = 0;
        private int fault = 0;
        private int dotsRead = 0;

        boolean hasRoom() {
            return length + BYTES_A_FEED <= MOST_BYTES;
        }

        void append(int four) {
            for (int shift = 24; shift >= 0; shift -= 8) {
                if (length < MOST_BYTES) {
                    bytes[length] = four >>> shift & 255;
                    length++;
                }
            }
        }

        /** The FAULT, or 0: then width, height and tones are what the first n bytes tell. */
        int parse(int n) {
            end = n;
            place = 0;
            fault = 0;
            faultPlace = NONE;
            dotsRead = 0;
            width = 0;
            height = 0;
            for (int row = 0; row < MOST_SIDE && fault == 0; row++) {
                readRow(row);
                if (fault == 0 && place >= end) {
                    break;
                }
                if (fault == 0 && row == MOST_SIDE - 1) {
                    failAt(TOO_MUCH, place);
                }
                place++;
            }
            if (fault == 0 && height < LEAST_SIDE) {
                failAt(FEW_ROWS, end);
            }
            return fault;
        }

        private void readRow(int row) {
            int most = row == 0 ? MOST_SIDE : width;
            int least = row == 0 ? LEAST_SIDE : width;
            int dots = readItem(most);
            for (int item = 1; item <= MOST_BYTES && fault == 0 && place < end && bytes[place] != '/'; item++) {
                dots += readItem(most - dots);
            }
            if (fault == 0 && dots < least) {
                failAt(SHORT_ROW, place);
            }
            if (row == 0) {
                width = dots;
            }
            height = row + 1;
        }

        /** How many DOTS the ITEM tells, of which the ROW has room for so many. */
        private int readItem(int room) {
            int start = place;
            int times = readTimes();
            if (fault != 0) {
                return 0;
            }
            int sign = place < end ? bytes[place] : NONE;
            if (sign != '?' && (sign < 'a' || sign > 'z')) {
                failAt(CANNOT_STAND, place);
                return 0;
            }
            if (times > room) {
                failAt(TOO_MUCH, start);
                return 0;
            }
            for (int i = 0; i < times && dotsRead < MOST_DOTS; i++) {
                tones[dotsRead] = sign == '?' ? NONE : (sign - 'a') * 10;
                dotsRead++;
            }
            place++;
            return times;
        }

        private int readTimes() {
            int start = place;
            int number = 0;
            while (place < end && bytes[place] >= '0' && bytes[place] <= '9') {
                // kept low, as a long number must not wrap round into what is allowed
                number = Math.min(number * 10 + bytes[place] - '0', MOST_BYTES);
                place++;
            }
            if (place == start) {
                return 1;
            }
            if (number < 2 || number > MOST_SIDE) {
                failAt(NO_SUCH_NUMBER, start);
            }
            return number;
        }

        private void failAt(int kind, int at) {
            fault = kind;
            faultPlace = at;
        }
    }

    /** FILLS since text(): how many, their DIFFERENCES together, and the latest of them one by one. */
    private static final class Journal {
        static final int COLUMNS = 9;
        private static final int WAY_COLUMN = 7;
        private static final int MOST_KEPT = 30;

        private int fills = 0;
        private long differences = 0;
        private final int[] rows = new int[MOST_KEPT * COLUMNS];

        void clear() {
            fills = 0;
            differences = 0;
        }

        int kept() {
            return Math.min(fills, MOST_KEPT);
        }

        void record(Picture picture, Searcher found, int dots, int steady) {
            int row = fills % MOST_KEPT * COLUMNS;
            rows[row] = found.aimX;
            rows[row + 1] = found.aimY;
            rows[row + 2] = picture.xOf(found.best);
            rows[row + 3] = picture.yOf(found.best);
            rows[row + 4] = found.bestDifference;
            rows[row + 5] = dots;
            rows[row + 6] = steady;
            rows[row + WAY_COLUMN] = found.bestWay;
            rows[row + 8] = found.bestShift;
            fills++;
            differences += found.bestDifference;
        }

        int entry(int k, int column) {
            if (k < 0 || k >= kept() || column < 0 || column >= COLUMNS) {
                return NONE;
            }
            return rows[(fills - 1 - k) % MOST_KEPT * COLUMNS + column];
        }

        int countWay(int way) {
            int count = 0;
            for (int k = 0; k < kept(); k++) {
                count += entry(k, WAY_COLUMN) == way ? 1 : 0;
            }
            return count;
        }

        void copyFrom(Journal other) {
            fills = other.fills;
            differences = other.differences;
            System.arraycopy(other.rows, 0, rows, 0, rows.length);
        }
    }

    /** How all was ahead of one change. */
    private static final class Snapshot {
        private final Picture picture = new Picture();
        private final Journal journal = new Journal();
    }

    /** The latest changes that can be taken back. */
    private static final class History {
        private static final int MOST_KEPT = 10;

        /** One more than are kept, so that what is prepared and not committed overwrites none of them. */
        private final Snapshot[] ring = new Snapshot[MOST_KEPT + 1];
        private int head = 0;
        private int depth = 0;

        History() {
            for (int i = 0; i < ring.length; i++) {
                ring[i] = new Snapshot();
            }
        }

        void clear() {
            depth = 0;
        }

        void prepare(Picture picture, Journal journal) {
            Snapshot free = ring[head];
            free.picture.copyFrom(picture);
            free.journal.copyFrom(journal);
        }

        /** Keeps what was prepared, if there was any change since: how many. */
        int commitIfAny(int changes) {
            if (changes > 0) {
                head = (head + 1) % ring.length;
                depth = Math.min(depth + 1, MOST_KEPT);
            }
            return changes;
        }

        boolean takeBack(Picture picture, Journal journal) {
            if (depth == 0) {
                return false;
            }
            head = (head + ring.length - 1) % ring.length;
            depth--;
            Snapshot latest = ring[head];
            picture.copyFrom(latest.picture);
            journal.copyFrom(latest.journal);
            return true;
        }
    }

    /** MISSING DOTS that hang together, numbered. */
    private static final class Parts {
        private final int[] labels = new int[MOST_DOTS];
        private final int[] queue = new int[MOST_DOTS];
        private int queued = 0;

        /** Labels each DOT with its PART (NONE: it is KNOWN): how many PARTS there are. */
        int number(Picture picture) {
            Arrays.fill(labels, NONE);
            int count = 0;
            for (int i = 0; i < picture.dots(); i++) {
                if (picture.tones[i] == NONE && labels[i] == NONE) {
                    spread(picture, i, count);
                    count++;
                }
            }
            return count;
        }

        private void spread(Picture picture, int first, int label) {
            queued = 0;
            join(first, label);
            for (int next = 0; next < queued && next < MOST_DOTS; next++) {
                int x = picture.xOf(queue[next]);
                int y = picture.yOf(queue[next]);
                for (int step = 0; step < STEP_X.length; step++) {
                    int besideX = x + STEP_X[step];
                    int besideY = y + STEP_Y[step];
                    if (picture.isMissing(besideX, besideY)) {
                        join(picture.at(besideX, besideY), label);
                    }
                }
            }
        }

        private void join(int i, int label) {
            if (labels[i] == NONE && queued < MOST_DOTS) {
                labels[i] = label;
                queue[queued] = i;
                queued++;
            }
        }

        boolean isBeside(Picture picture, int x, int y, int part) {
            for (int step = 0; step < STEP_X.length; step++) {
                int besideX = x + STEP_X[step];
                int besideY = y + STEP_Y[step];
                if (picture.has(besideX, besideY) && labels[picture.at(besideX, besideY)] == part) {
                    return true;
                }
            }
            return false;
        }
    }

    /** How the DOTS of THE FRONT rank. */
    private static final class Ranker {
        private int steady = 0;
        private int gx = 0;
        private int gy = 0;
        private int nx = 0;
        private int ny = 0;
        private int flow = 0;
        private int standing = 0;

        private final int[] frontDots = new int[MOST_DOTS];
        private final int[] frontRanks = new int[MOST_DOTS];
        private int frontCount = 0;

        void measure(Picture picture, Settings settings, int x, int y) {
            int size = settings.size;
            measureSteady(picture, size, x, y);
            measureSlope(picture, size, x, y);
            nx = (picture.isMissing(x + 1, y) ? 1 : 0) - (picture.isMissing(x - 1, y) ? 1 : 0);
            ny = (picture.isMissing(x, y + 1) ? 1 : 0) - (picture.isMissing(x, y - 1) ? 1 : 0);
            flow = Math.abs(gx * ny - gy * nx) + 1;
            switch (settings.ranked) {
                case 1: standing = steady; break;
                case 2: standing = flow; break;
                default: standing = steady * flow; break;
            }
        }

        private void measureSteady(Picture picture, int size, int x, int y) {
            int together = 0;
            int count = 0;
            int right = Math.min(x + size, picture.width - 1);
            int bottom = Math.min(y + size, picture.height - 1);
            for (int row = Math.max(y - size, 0); row <= bottom; row++) {
                for (int column = Math.max(x - size, 0); column <= right; column++) {
                    together += picture.sures[row * picture.width + column];
                    count++;
                }
            }
            steady = count == 0 ? 0 : together / count;
        }

        private void measureSlope(Picture picture, int size, int x, int y) {
            gx = 0;
            gy = 0;
            int steepest = 0;
            int[] tones = picture.tones;
            int width = picture.width;
            int right = Math.min(x + size, width - 2);
            int bottom = Math.min(y + size, picture.height - 2);
            for (int row = Math.max(y - size, 1); row <= bottom; row++) {
                for (int column = Math.max(x - size, 1); column <= right; column++) {
                    int i = row * width + column;
                    if (tones[i] != NONE && tones[i - 1] != NONE && tones[i + 1] != NONE
                            && tones[i - width] != NONE && tones[i + width] != NONE) {
                        int across = tones[i + 1] - tones[i - 1];
                        int down = tones[i + width] - tones[i - width];
                        int steep = Math.abs(across) + Math.abs(down);
                        if (steep > steepest) {
                            steepest = steep;
                            gx = across;
                            gy = down;
                        }
                    }
                }
            }
        }

        void lineUp(Picture picture, Settings settings) {
            frontCount = 0;
            for (int i = 0; i < picture.dots(); i++) {
                int x = picture.xOf(i);
                int y = picture.yOf(i);
                if (picture.isOnFront(x, y)) {
                    measure(picture, settings, x, y);
                    frontDots[frontCount] = i;
                    frontRanks[frontCount] = standing;
                    frontCount++;
                }
            }
        }

        /** The place in THE FRONT of the NEXT one. */
        int foremost() {
            int place = NONE;
            for (int i = 0; i < frontCount; i++) {
                if (place == NONE || frontRanks[i] > frontRanks[place]) {
                    place = i;
                }
            }
            return place;
        }

        /** The place in THE FRONT of the k-th by RANK. */
        int placeOf(int k) {
            for (int i = 0; i < frontCount; i++) {
                int ahead = 0;
                for (int j = 0; j < frontCount; j++) {
                    if (frontRanks[j] > frontRanks[i] || frontRanks[j] == frontRanks[i] && j < i) {
                        ahead++;
                    }
                }
                if (ahead == k) {
                    return i;
                }
            }
            return NONE;
        }
    }

    /** The SEARCH for one DOT. */
    private static final class Searcher {
        static final int MOST_WAYS = 8;
        /** No DIFFERENCE comes to it: 49 DOTS, 510 apart, WEIGHT 5, are far below. */
        static final int NO_LIMIT = 2147483647;
        private static final int MOST_PATCH = 49;
        private static final int TABLE_SIDE = 21;
        private static final int SURE_A_WEIGHT = 250;

        /** By WAY: what of dx and of dy goes into the PLACE's x, and into its y. */
        private static final int[] X_BY_DX = {1, -1, -1, 1, 0, 0, 0, 0};
        private static final int[] X_BY_DY = {0, 0, 0, 0, 1, -1, -1, 1};
        private static final int[] Y_BY_DX = {0, 0, 0, 0, 1, 1, -1, -1};
        private static final int[] Y_BY_DY = {1, 1, -1, -1, 0, 0, 0, 0};

        private Picture picture;
        private Settings settings;
        private int aimX = 0;
        private int aimY = 0;

        /** The KNOWN DOTS of the PATCH, and how far from a SOURCE their PLACES are, WAY after WAY. */
        private final int[] knownTones = new int[MOST_PATCH];
        private final int[] knownWeights = new int[MOST_PATCH];
        private final int[] placeSteps = new int[MOST_PATCH * MOST_WAYS];
        private int known = 0;
        private int weights = 0;

        /** How many DOTS above and to the left can be in no SOURCE's PATCH: a PATCH is judged by four of these. */
        private final int[] unusableBefore = new int[TABLE_SIDE * TABLE_SIDE];

        private int shift = 0;
        private long bound = 0;

        private int best = NONE;
        private int bestWay = NONE;
        private int bestDifference = NONE;
        private int bestShift = 0;
        private int asked = 0;
        private int skipped = 0;
        private int stopped = 0;
        private int looked = 0;

        Searcher(Picture picture, Settings settings) {
            this.picture = picture;
            this.settings = settings;
        }

        void aim(Picture newPicture, Settings newSettings, int x, int y) {
            picture = newPicture;
            settings = newSettings;
            aimX = x;
            aimY = y;
            best = NONE;
            bestWay = NONE;
            bestDifference = NONE;
            bestShift = 0;
            asked = 0;
            skipped = 0;
            stopped = 0;
            looked = 0;
            countUnusable();
            gatherKnown();
        }

        private void countUnusable() {
            boolean filledInToo = settings.from == 1;
            for (int y = 0; y < picture.height; y++) {
                int inRow = 0;
                for (int x = 0; x < picture.width; x++) {
                    int i = picture.at(x, y);
                    boolean usable = picture.tones[i] != NONE && (filledInToo || picture.filledBy[i] == 0);
                    inRow += usable ? 0 : 1;
                    int below = (y + 1) * TABLE_SIDE + x + 1;
                    unusableBefore[below] = unusableBefore[below - TABLE_SIDE] + inRow;
                }
            }
        }

        private void gatherKnown() {
            known = 0;
            weights = 0;
            int size = settings.size;
            boolean weighed = settings.weighed == 1;
            for (int dy = -size; dy <= size; dy++) {
                for (int dx = -size; dx <= size; dx++) {
                    if (picture.isKnown(aimX + dx, aimY + dy) && known < MOST_PATCH) {
                        int i = picture.at(aimX + dx, aimY + dy);
                        knownTones[known] = picture.tones[i];
                        knownWeights[known] = weighed ? picture.sures[i] / SURE_A_WEIGHT + 1 : 1;
                        weights += knownWeights[known];
                        for (int way = 0; way < MOST_WAYS; way++) {
                            placeSteps[way * MOST_PATCH + known] = placeStep(dx, dy, way);
                        }
                        known++;
                    }
                }
            }
        }

        /** How much further on than the SOURCE the PLACE is, in order. */
        int placeStep(int dx, int dy, int way) {
            int across = X_BY_DX[way] * dx + X_BY_DY[way] * dy;
            int down = Y_BY_DX[way] * dx + Y_BY_DY[way] * dy;
            return down * picture.width + across;
        }

        boolean reaches(int x, int y) {
            return Math.abs(x - aimX) <= settings.reach && Math.abs(y - aimY) <= settings.reach;
        }

        boolean isWholeAndUsable(int x, int y) {
            int size = settings.size;
            int left = x - size;
            int top = y - size;
            int right = x + size + 1;
            int bottom = y + size + 1;
            if (left < 0 || top < 0 || right > picture.width || bottom > picture.height) {
                return false;
            }
            return unusableBefore[bottom * TABLE_SIDE + right] - unusableBefore[bottom * TABLE_SIDE + left]
                    - unusableBefore[top * TABLE_SIDE + right] + unusableBefore[top * TABLE_SIDE + left] == 0;
        }

        void scanInReach() {
            int reach = settings.reach;
            scan(aimX - reach, aimY - reach, aimX + reach, aimY + reach);
        }

        /** Only where the coarser PICTURE points, if it does. */
        void scanGuided(Picture coarse) {
            int x = aimX / 2;
            int y = aimY / 2;
            if (!coarse.has(x, y)) {
                return;
            }
            int parent = coarse.parents[coarse.at(x, y)];
            if (parent != NONE) {
                int left = 2 * coarse.xOf(parent) - 1;
                int top = 2 * coarse.yOf(parent) - 1;
                scan(left, top, left + 3, top + 3);
            }
        }

        private void scan(int fromX, int fromY, int toX, int toY) {
            int ways = 1 << settings.turns;
            int right = Math.min(toX, picture.width - 1);
            int bottom = Math.min(toY, picture.height - 1);
            for (int y = Math.max(fromY, 0); y <= bottom; y++) {
                for (int x = Math.max(fromX, 0); x <= right; x++) {
                    if (isWholeAndUsable(x, y)) {
                        for (int way = 0; way < ways; way++) {
                            ask(picture.at(x, y), way);
                        }
                    }
                }
            }
        }

        private void ask(int q, int way) {
            asked++;
            int limit = best == NONE ? NO_LIMIT : bestDifference;
            if (limit == 0) {
                // no BOUND is below 0, so there is none to reckon
                skipped++;
                return;
            }
            compare(q, way);
            if (best != NONE && bound >= limit) {
                skipped++;
                return;
            }
            int difference = reckon(q, way, limit);
            if (difference >= limit) {
                stopped++;
                return;
            }
            best = q;
            bestWay = way;
            bestDifference = difference;
            bestShift = shift;
        }

        /** SHIFT and BOUND of a SOURCE by a WAY. */
        void compare(int q, int way) {
            int together = 0;
            int steps = way * MOST_PATCH;
            for (int k = 0; k < known; k++) {
                together += (knownTones[k] - picture.tones[q + placeSteps[steps + k]]) * knownWeights[k];
            }
            shift = 0;
            bound = 0;
            if (weights > 0) {
                shift = settings.shifted == 1 ? together / weights : 0;
                long apart = together - shift * weights;
                bound = apart * apart / weights;
            }
        }

        /** DIFFERENCE by the SHIFT of compare(), or, as soon as it is not below the limit, what it came to. */
        int reckon(int q, int way, int limit) {
            int together = 0;
            int steps = way * MOST_PATCH;
            for (int k = 0; k < known && together < limit; k++) {
                int apart = knownTones[k] - picture.tones[q + placeSteps[steps + k]] - shift;
                together += apart * apart * knownWeights[k];
                looked++;
            }
            return together;
        }

        int reachTo(int q) {
            int across = Math.abs(picture.xOf(q) - aimX);
            int down = Math.abs(picture.yOf(q) - aimY);
            return Math.max(1, Math.max(across, down));
        }

        int leastReachOfAny() {
            int least = NONE;
            for (int q = 0; q < picture.dots(); q++) {
                if (isWholeAndUsable(picture.xOf(q), picture.yOf(q)) && (least == NONE || reachTo(q) < least)) {
                    least = reachTo(q);
                }
            }
            return least;
        }
    }

    /** FILLS, plain or GUIDED. */
    private static final class Filler {
        private final Ranker ranker;
        private final Searcher searcher;
        private final Picture coarse = new Picture();
        private final Picture coarser = new Picture();
        private final Journal coarseJournal = new Journal();

        Filler(Ranker ranker, Searcher searcher) {
            this.ranker = ranker;
            this.searcher = searcher;
        }

        /** Makes as many HALVES as there are, of so many: how many. */
        int makeHalves(Picture picture, int levels) {
            if (levels < 1 || !picture.hasHalf()) {
                return 0;
            }
            coarse.becomeHalfOf(picture);
            if (levels < 2 || !coarse.hasHalf()) {
                return 1;
            }
            coarser.becomeHalfOf(coarse);
            return 2;
        }

        /** So many FILLS at most: how many. */
        int run(Picture picture, Settings settings, int levels, Journal journal, int most) {
            int halves = makeHalves(picture, levels);
            coarseJournal.clear();
            if (halves == 2) {
                repeat(coarser, settings, null, coarseJournal, MOST_DOTS);
            }
            if (halves >= 1) {
                repeat(coarse, settings, halves == 2 ? coarser : null, coarseJournal, MOST_DOTS);
            }
            return repeat(picture, settings, halves >= 1 ? coarse : null, journal, most);
        }

        private int repeat(Picture picture, Settings settings, Picture guiding, Journal journal, int most) {
            int fills = 0;
            while (fills < most && fillOnce(picture, settings, guiding, journal)) {
                fills++;
            }
            return fills;
        }

        private boolean fillOnce(Picture picture, Settings settings, Picture guiding, Journal journal) {
            ranker.lineUp(picture, settings);
            int place = ranker.foremost();
            if (place == NONE) {
                return false;
            }
            int x = picture.xOf(ranker.frontDots[place]);
            int y = picture.yOf(ranker.frontDots[place]);
            ranker.measure(picture, settings, x, y);
            searcher.aim(picture, settings, x, y);
            if (guiding != null) {
                searcher.scanGuided(guiding);
            }
            if (searcher.best == NONE) {
                searcher.scanInReach();
            }
            if (searcher.best == NONE) {
                return false;
            }
            int dots = copyPatch(picture, settings, journal.fills + 1);
            journal.record(picture, searcher, dots, ranker.steady);
            return true;
        }

        private int copyPatch(Picture picture, Settings settings, int number) {
            int size = settings.size;
            int dots = 0;
            for (int dy = -size; dy <= size; dy++) {
                for (int dx = -size; dx <= size; dx++) {
                    int x = searcher.aimX + dx;
                    int y = searcher.aimY + dy;
                    if (picture.isMissing(x, y)) {
                        int parent = searcher.best + searcher.placeStep(dx, dy, searcher.bestWay);
                        int tone = picture.tones[parent] + searcher.bestShift;
                        int cut = Math.max(0, Math.min(TONE_MOST, tone));
                        picture.fillIn(picture.at(x, y), cut, ranker.steady, parent, number);
                        dots++;
                    }
                }
            }
            return dots;
        }
    }
}
