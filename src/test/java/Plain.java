import java.util.ArrayList;
import java.util.LinkedHashMap;
import java.util.List;
import java.util.Map;
import java.util.NoSuchElementException;
import java.util.regex.Matcher;
import java.util.regex.Pattern;

/**
 * The document once more, told as slowly and as plainly as it goes, with the Java library: what FilledHoles
 * answers is held against this. It shares no line with it, so that a slip in one shows.
 */
final class Plain {
    static final int NONE = -1;

    /** One DOT; nothing is ever changed in it. */
    record Dot(int tone, int sure, boolean filled, int[] parent, int[] origin, int number) {
        static Dot known(int tone) {
            return new Dot(tone, 1000, false, null, null, 0);
        }

        static Dot missing() {
            return new Dot(NONE, 0, false, null, null, 0);
        }

        boolean isKnown() {
            return tone >= 0;
        }
    }

    /** One FILL, in log()'s order. */
    record Fill(int[] told) {
    }

    record Pair(int x, int y, int way) {
    }

    record Found(Pair best, long difference, int shift, int sources, int skipped, int stopped, int looked) {
    }

    record Setting(int size, int reach, int from, int ranked, int turns, int weighed, int shifted) {
        int[] all() {
            return new int[] {size, reach, from, ranked, turns, weighed, shifted};
        }

        Setting with(int what, int v) {
            int[] a = all();
            a[what] = v;
            return new Setting(a[0], a[1], a[2], a[3], a[4], a[5], a[6]);
        }
    }

    /** A PICTURE with its FILLS so far. */
    static final class State {
        final int w;
        final int h;
        final Dot[][] dots;
        final List<Fill> fills = new ArrayList<>();

        State(int w, int h) {
            this.w = w;
            this.h = h;
            this.dots = new Dot[h][w];
        }

        State copy() {
            State other = new State(w, h);
            for (int y = 0; y < h; y++) {
                other.dots[y] = dots[y].clone();
            }
            other.fills.addAll(fills);
            return other;
        }

        boolean has(int x, int y) {
            return 0 <= x && x < w && 0 <= y && y < h;
        }

        boolean known(int x, int y) {
            return has(x, y) && dots[y][x].isKnown();
        }

        boolean missing(int x, int y) {
            return has(x, y) && !dots[y][x].isKnown();
        }

        List<int[]> all() {
            List<int[]> list = new ArrayList<>();
            for (int y = 0; y < h; y++) {
                for (int x = 0; x < w; x++) {
                    list.add(new int[] {x, y});
                }
            }
            return list;
        }

        List<int[]> patch(int x, int y, int size) {
            List<int[]> list = new ArrayList<>();
            for (int v = y - size; v <= y + size; v++) {
                for (int u = x - size; u <= x + size; u++) {
                    if (has(u, v)) {
                        list.add(new int[] {u, v});
                    }
                }
            }
            return list;
        }

        int count(boolean known) {
            int n = 0;
            for (int[] d : all()) {
                n += known(d[0], d[1]) == known ? 1 : 0;
            }
            return n;
        }

        boolean front(int x, int y) {
            return missing(x, y) && (known(x - 1, y) || known(x + 1, y) || known(x, y - 1) || known(x, y + 1));
        }

        State half() {
            int hw = (w + 1) / 2;
            int hh = (h + 1) / 2;
            if (hw < 3 || hh < 3) {
                return null;
            }
            State half = new State(hw, hh);
            for (int y = 0; y < hh; y++) {
                for (int x = 0; x < hw; x++) {
                    int sum = 0;
                    int n = 0;
                    for (int[] d : all()) {
                        if (d[0] / 2 == x && d[1] / 2 == y && known(d[0], d[1])) {
                            sum += dots[d[1]][d[0]].tone();
                            n++;
                        }
                    }
                    half.dots[y][x] = n == 0 ? Dot.missing() : Dot.known(sum / n);
                }
            }
            return half;
        }

        long differences() {
            long sum = 0;
            for (Fill fill : fills) {
                sum += fill.told()[4];
            }
            return sum;
        }
    }

    private State now = new State(8, 8);
    private State truth = null;
    private Setting set = new Setting(1, 20, 0, 0, 0, 0, 0);
    private final List<State> before = new ArrayList<>();
    private final StringBuilder tape = new StringBuilder();
    private int faultAt = NONE;
    private int noSuch = 0;
    private int bad = 0;

    Plain() {
        for (int[] d : now.all()) {
            now.dots[d[1]][d[0]] = Dot.known(0);
        }
    }

    private void need(boolean is) {
        if (!is) {
            bad++;
            throw new IllegalArgumentException();
        }
    }

    private void exists(boolean is) {
        if (!is) {
            noSuch++;
            throw new NoSuchElementException();
        }
    }

    private void remember(State state) {
        before.add(state);
        if (before.size() > 10) {
            before.remove(0);
        }
    }

    int feed(int... five) {
        if (tape.length() + 20 > 300) {
            return NONE;
        }
        for (int one : five) {
            for (int k = 3; k >= 0; k--) {
                tape.append((char) (one >> 8 * k & 0xff));
            }
        }
        return tape.length();
    }

    int text(int n) {
        need(n >= 0 && n <= tape.length());
        String text = tape.substring(0, n);
        tape.setLength(0);
        int[] fault = faultOf(text);
        faultAt = fault[1];
        if (fault[0] != 0) {
            return fault[0] - 10;
        }
        List<List<Integer>> rows = new ArrayList<>();
        for (String row : text.split("/")) {
            List<Integer> tones = new ArrayList<>();
            Matcher item = Pattern.compile("([0-9]*)([a-z?])").matcher(row);
            while (item.find()) {
                int times = item.group(1).isEmpty() ? 1 : Integer.parseInt(item.group(1));
                for (int i = 0; i < times; i++) {
                    tones.add(item.group(2).equals("?") ? NONE : (item.group(2).charAt(0) - 'a') * 10);
                }
            }
            rows.add(tones);
        }
        State fresh = new State(rows.get(0).size(), rows.size());
        for (int[] d : fresh.all()) {
            int tone = rows.get(d[1]).get(d[0]);
            fresh.dots[d[1]][d[0]] = tone == NONE ? Dot.missing() : Dot.known(tone);
        }
        if (fresh.w != now.w || fresh.h != now.h) {
            truth = null;
        }
        now = fresh;
        before.clear();
        return now.count(false);
    }

    /** The FAULT and its place; (0, NONE) without. Goes over the bytes one by one, knowing where it stands. */
    private static int[] faultOf(String text) {
        int firstWidth = NONE;
        int width = 0;
        int rows = 1;
        boolean rowBegun = false;
        int numberAt = NONE;
        for (int i = 0; i <= text.length(); i++) {
            char c = i < text.length() ? text.charAt(i) : '/';
            if (i < text.length() && Character.isDigit(c) && c < 128) {
                numberAt = numberAt == NONE ? i : numberAt;
                continue;
            }
            int times = 1;
            if (numberAt != NONE) {
                String digits = text.substring(numberAt, i).replaceFirst("^0+", "");
                times = digits.length() == 0 || digits.length() > 2 ? 0 : Integer.parseInt(digits);
                if (times < 2 || times > 20) {
                    return new int[] {2, numberAt};
                }
            }
            if (c == '/') {
                if (!rowBegun || numberAt != NONE) {
                    return new int[] {1, i};
                }
                if (width < (firstWidth == NONE ? 3 : firstWidth)) {
                    return new int[] {4, i};
                }
                if (i == text.length()) {
                    return rows < 3 ? new int[] {5, i} : new int[] {0, NONE};
                }
                if (rows == 20) {
                    return new int[] {3, i};
                }
                firstWidth = firstWidth == NONE ? width : firstWidth;
                rows++;
                width = 0;
                rowBegun = false;
                continue;
            }
            if (c != '?' && !(c >= 'a' && c <= 'z')) {
                return new int[] {1, i};
            }
            width += times;
            if (width > (firstWidth == NONE ? 20 : firstWidth)) {
                return new int[] {3, numberAt == NONE ? i : numberAt};
            }
            rowBegun = true;
            numberAt = NONE;
        }
        throw new IllegalStateException("a text has an end");
    }

    int fault() {
        return faultAt;
    }

    int set(int what, int v) {
        int[][] range = {{1, 3}, {1, 20}, {0, 1}, {0, 2}, {0, 3}, {0, 1}, {0, 1}};
        need(what >= 0 && what <= 6 && v >= range[what][0] && v <= range[what][1]);
        int was = set.all()[what];
        set = set.with(what, v);
        return was;
    }

    int hole(int x, int y, int toX, int toY) {
        exists(now.has(x, y) && now.has(toX, toY));
        need(toX >= x && toY >= y);
        State was = now.copy();
        int n = 0;
        for (int[] d : now.all()) {
            if (d[0] >= x && d[0] <= toX && d[1] >= y && d[1] <= toY) {
                n += now.known(d[0], d[1]) ? 1 : 0;
                now.dots[d[1]][d[0]] = Dot.missing();
            }
        }
        if (n > 0) {
            remember(was);
        }
        return n;
    }

    int paint(int x, int y, int tone) {
        exists(now.has(x, y));
        need(tone >= 0 && tone <= 255);
        remember(now.copy());
        int was = now.dots[y][x].tone();
        now.dots[y][x] = Dot.known(tone);
        return was;
    }

    int keep() {
        truth = now.copy();
        return now.count(true);
    }

    int fill(int n) {
        need(n >= 1 && n <= 60);
        return goOn(now, set, null, n, true);
    }

    int guide(int levels) {
        need(levels == 1 || levels == 2);
        return goOn(now, set, guideFor(now, set, levels), 400, true);
    }

    private static State guideFor(State state, Setting set, int levels) {
        State half = levels == 0 ? null : state.half();
        if (half != null) {
            goFill(half, set, guideFor(half, set, levels - 1), 400);
        }
        return half;
    }

    private int goOn(State state, Setting by, State guide, int most, boolean forGood) {
        State was = state.copy();
        int n = goFill(state, by, guide, most);
        if (forGood && n > 0) {
            remember(was);
        }
        return n;
    }

    private static int goFill(State state, Setting set, State guide, int most) {
        for (int n = 0; n < most; n++) {
            List<int[]> line = lined(state, set);
            if (line.isEmpty()) {
                return n;
            }
            int x = line.get(0)[0];
            int y = line.get(0)[1];
            Found found = searchFor(state, set, x, y, guide);
            if (found.best() == null) {
                return n;
            }
            doFill(state, set, x, y, found);
        }
        return most;
    }

    private static void doFill(State state, Setting set, int x, int y, Found found) {
        int steady = ranked(state, set, x, y)[0];
        Pair best = found.best();
        int filled = 0;
        for (int[] d : state.patch(x, y, set.size())) {
            if (state.missing(d[0], d[1])) {
                int[] place = place(best, d[0] - x, d[1] - y);
                Dot from = state.dots[place[1]][place[0]];
                int tone = Math.min(255, Math.max(0, from.tone() + found.shift()));
                int[] origin = from.filled() ? from.origin() : place;
                state.dots[d[1]][d[0]] = new Dot(tone, steady, true, place, origin, state.fills.size() + 1);
                filled++;
            }
        }
        state.fills.add(new Fill(new int[] {x, y, best.x(), best.y(), (int) found.difference(), filled, steady,
            best.way(), found.shift()}));
    }

    private static int[] place(Pair q, int dx, int dy) {
        int[][] by = {{dx, dy}, {-dx, dy}, {-dx, -dy}, {dx, -dy}, {dy, dx}, {-dy, dx}, {-dy, -dx}, {dy, -dx}};
        return new int[] {q.x() + by[q.way()][0], q.y() + by[q.way()][1]};
    }

    /** THE FRONT as x, y, RANK, by RANK. */
    private static List<int[]> lined(State state, Setting set) {
        List<int[]> line = new ArrayList<>();
        for (int[] d : state.all()) {
            if (state.front(d[0], d[1])) {
                line.add(new int[] {d[0], d[1], ranked(state, set, d[0], d[1])[6]});
            }
        }
        line.sort((a, b) -> Integer.compare(b[2], a[2]));
        return line;
    }

    private static int[] ranked(State state, Setting set, int x, int y) {
        List<int[]> patch = state.patch(x, y, set.size());
        int sure = 0;
        int gx = 0;
        int gy = 0;
        int most = -1;
        for (int[] d : patch) {
            int u = d[0];
            int v = d[1];
            sure += state.dots[v][u].sure();
            boolean inner = u > 0 && v > 0 && u < state.w - 1 && v < state.h - 1;
            if (inner && state.known(u, v) && state.known(u - 1, v) && state.known(u + 1, v)
                    && state.known(u, v - 1) && state.known(u, v + 1)) {
                int across = state.dots[v][u + 1].tone() - state.dots[v][u - 1].tone();
                int down = state.dots[v + 1][u].tone() - state.dots[v - 1][u].tone();
                if (Math.abs(across) + Math.abs(down) > most) {
                    most = Math.abs(across) + Math.abs(down);
                    gx = across;
                    gy = down;
                }
            }
        }
        int steady = sure / patch.size();
        int nx = 0;
        nx += state.missing(x + 1, y) ? 1 : 0;
        nx -= state.missing(x - 1, y) ? 1 : 0;
        int ny = 0;
        ny += state.missing(x, y + 1) ? 1 : 0;
        ny -= state.missing(x, y - 1) ? 1 : 0;
        int flow = Math.abs(gx * ny - gy * nx) + 1;
        int rank = set.ranked() == 0 ? steady * flow : set.ranked() == 1 ? steady : flow;
        return new int[] {steady, gx, gy, nx, ny, flow, rank};
    }

    private static boolean usable(State state, Setting set, int x, int y) {
        List<int[]> patch = state.patch(x, y, set.size());
        if (patch.size() != (2 * set.size() + 1) * (2 * set.size() + 1)) {
            return false;
        }
        for (int[] d : patch) {
            Dot dot = state.dots[d[1]][d[0]];
            if (!dot.isKnown() || set.from() == 0 && dot.filled()) {
                return false;
            }
        }
        return true;
    }

    private static boolean source(State state, Setting set, int x, int y, int u, int v) {
        return Math.abs(u - x) <= set.reach() && Math.abs(v - y) <= set.reach() && usable(state, set, u, v);
    }

    private static List<int[]> asked(State state, Setting set, int x, int y, State guide) {
        List<int[]> some = new ArrayList<>();
        if (guide != null && guide.dots[y / 2][x / 2].filled()) {
            int[] parent = guide.dots[y / 2][x / 2].parent();
            for (int[] d : state.all()) {
                if (d[0] >= 2 * parent[0] - 1 && d[0] <= 2 * parent[0] + 2 && d[1] >= 2 * parent[1] - 1
                        && d[1] <= 2 * parent[1] + 2 && usable(state, set, d[0], d[1])) {
                    some.add(d);
                }
            }
        }
        if (some.isEmpty()) {
            for (int[] d : state.all()) {
                if (source(state, set, x, y, d[0], d[1])) {
                    some.add(d);
                }
            }
        }
        return some;
    }

    private static int weight(Setting set, Dot dot) {
        return set.weighed() == 0 ? 1 : dot.sure() / 250 + 1;
    }

    /** SHIFT, BOUND, how many WEIGHTS together. */
    private static long[] compared(State state, Setting set, int x, int y, Pair q) {
        long sum = 0;
        long weights = 0;
        for (int[] d : state.patch(x, y, set.size())) {
            if (state.known(d[0], d[1])) {
                int[] place = place(q, d[0] - x, d[1] - y);
                int weight = weight(set, state.dots[d[1]][d[0]]);
                sum += (long) (state.dots[d[1]][d[0]].tone() - state.dots[place[1]][place[0]].tone()) * weight;
                weights += weight;
            }
        }
        if (weights == 0) {
            return new long[] {0, 0};
        }
        long shift = set.shifted() == 0 ? 0 : sum / weights;
        long bound = 0;
        for (int[] d : state.patch(x, y, set.size())) {
            if (state.known(d[0], d[1])) {
                int[] place = place(q, d[0] - x, d[1] - y);
                int weight = weight(set, state.dots[d[1]][d[0]]);
                bound += (state.dots[d[1]][d[0]].tone() - state.dots[place[1]][place[0]].tone() - shift) * weight;
            }
        }
        return new long[] {shift, bound * bound / weights};
    }

    /** What DIFFERENCE comes to after each KNOWN DOT. */
    private static List<Long> reckoned(State state, Setting set, int x, int y, Pair q) {
        long shift = compared(state, set, x, y, q)[0];
        List<Long> sums = new ArrayList<>();
        long sum = 0;
        for (int[] d : state.patch(x, y, set.size())) {
            if (state.known(d[0], d[1])) {
                int[] place = place(q, d[0] - x, d[1] - y);
                long apart = state.dots[d[1]][d[0]].tone() - state.dots[place[1]][place[0]].tone() - shift;
                sum += apart * apart * weight(set, state.dots[d[1]][d[0]]);
                sums.add(sum);
            }
        }
        return sums;
    }

    private static long last(List<Long> sums) {
        return sums.isEmpty() ? 0 : sums.get(sums.size() - 1);
    }

    private static Found searchFor(State state, Setting set, int x, int y, State guide) {
        Pair best = null;
        long least = NONE;
        int sources = 0;
        int skipped = 0;
        int stopped = 0;
        int looked = 0;
        for (int[] d : asked(state, set, x, y, guide)) {
            for (int way = 0; way < (1 << set.turns()); way++) {
                Pair q = new Pair(d[0], d[1], way);
                sources++;
                List<Long> sums = reckoned(state, set, x, y, q);
                if (best == null) {
                    best = q;
                    least = last(sums);
                    looked += sums.size();
                    continue;
                }
                if (compared(state, set, x, y, q)[1] >= least) {
                    skipped++;
                    continue;
                }
                boolean stop = false;
                for (int i = 0; i < sums.size() && !stop; i++) {
                    looked++;
                    stop = sums.get(i) >= least;
                }
                if (stop) {
                    stopped++;
                } else {
                    best = q;
                    least = last(sums);
                }
            }
        }
        int shift = best == null ? 0 : (int) compared(state, set, x, y, best)[0];
        return new Found(best, least, shift, sources, skipped, stopped, looked);
    }

    int undo() {
        if (before.isEmpty()) {
            return NONE;
        }
        now = before.remove(before.size() - 1);
        return now.count(false);
    }

    int told(int what) {
        need(what >= 0 && what <= 18);
        int filled = 0;
        int front = 0;
        for (int[] d : now.all()) {
            filled += now.dots[d[1]][d[0]].filled() ? 1 : 0;
            front += now.front(d[0], d[1]) ? 1 : 0;
        }
        int[] all = {now.w, now.h, now.count(true), now.count(false), filled, front, parts().size(),
            now.fills.size(), before.size(), tape.length(), set.size(), set.reach(), set.from(), set.ranked(),
            truth == null ? 0 : 1, (int) now.differences(), set.turns(), set.weighed(), set.shifted()};
        return all[what];
    }

    private List<List<int[]>> parts() {
        List<List<int[]>> parts = new ArrayList<>();
        boolean[][] seen = new boolean[now.h][now.w];
        for (int[] d : now.all()) {
            if (now.missing(d[0], d[1]) && !seen[d[1]][d[0]]) {
                List<int[]> part = new ArrayList<>();
                flood(seen, part, d[0], d[1]);
                parts.add(part);
            }
        }
        return parts;
    }

    private void flood(boolean[][] seen, List<int[]> part, int x, int y) {
        if (!now.missing(x, y) || seen[y][x]) {
            return;
        }
        seen[y][x] = true;
        part.add(new int[] {x, y});
        flood(seen, part, x + 1, y);
        flood(seen, part, x - 1, y);
        flood(seen, part, x, y + 1);
        flood(seen, part, x, y - 1);
    }

    int dot(int x, int y, int what) {
        exists(now.has(x, y));
        need(what >= 0 && what <= 9);
        Dot dot = now.dots[y][x];
        int[] none = {NONE, NONE};
        int[] parent = dot.parent() == null ? none : dot.parent();
        int[] origin = dot.origin() == null ? none : dot.origin();
        int part = NONE;
        List<List<int[]>> parts = parts();
        for (int k = 0; k < parts.size(); k++) {
            for (int[] d : parts.get(k)) {
                part = d[0] == x && d[1] == y ? k : part;
            }
        }
        int[] all = {dot.tone(), dot.sure(), dot.filled() ? 1 : 0, parent[0], parent[1], origin[0], origin[1],
            part, now.front(x, y) ? 1 : 0, dot.number()};
        return all[what];
    }

    int rank(int x, int y, int what) {
        exists(now.has(x, y));
        need(what >= 0 && what <= 6);
        return now.known(x, y) ? 0 : ranked(now, set, x, y)[what];
    }

    int next(int what) {
        need(what >= 0 && what <= 6);
        List<int[]> line = lined(now, set);
        if (line.isEmpty()) {
            return NONE;
        }
        int[] p = line.get(0);
        if (what < 3) {
            return p[what];
        }
        Found found = searchFor(now, set, p[0], p[1], null);
        if (found.best() == null) {
            return NONE;
        }
        int[] all = {found.best().x(), found.best().y(), (int) found.difference(), found.best().way()};
        return all[what - 3];
    }

    int search(int x, int y, int what) {
        exists(now.has(x, y));
        need(what >= 0 && what <= 8);
        Found f = searchFor(now, set, x, y, null);
        boolean is = f.best() != null;
        int[] all = {is ? f.best().x() : NONE, is ? f.best().y() : NONE, is ? (int) f.difference() : NONE,
            f.sources(), f.skipped(), f.stopped(), f.looked(), is ? f.best().way() : NONE, f.shift()};
        return all[what];
    }

    int difference(int x, int y, int atX, int atY, int what) {
        exists(now.has(x, y));
        exists(now.has(atX, atY));
        need(what >= 0 && what <= 15);
        if (!source(now, set, x, y, atX, atY)) {
            return NONE;
        }
        Pair q = new Pair(atX, atY, what / 2);
        return (int) (what % 2 == 0 ? last(reckoned(now, set, x, y, q)) : compared(now, set, x, y, q)[1]);
    }

    int front(int k, int what) {
        need(what >= 0 && what <= 2);
        List<int[]> line = lined(now, set);
        return k < 0 || k >= line.size() ? NONE : line.get(k)[what];
    }

    int part(int part, int what) {
        List<List<int[]>> parts = parts();
        exists(part >= 0 && part < parts.size());
        need(what >= 0 && what <= 5);
        int[] all = {0, 99, 99, -1, -1, 0};
        for (int[] d : parts.get(part)) {
            all[0]++;
            all[1] = Math.min(all[1], d[0]);
            all[2] = Math.min(all[2], d[1]);
            all[3] = Math.max(all[3], d[0]);
            all[4] = Math.max(all[4], d[1]);
            all[5] += now.front(d[0], d[1]) ? 1 : 0;
        }
        return all[what];
    }

    int ring(int part, int what) {
        List<List<int[]>> parts = parts();
        exists(part >= 0 && part < parts.size());
        need(what >= 0 && what <= 3);
        Map<Integer, Integer> tones = new LinkedHashMap<>();
        for (int[] d : parts.get(part)) {
            for (int[] s : new int[][] {{1, 0}, {-1, 0}, {0, 1}, {0, -1}}) {
                int x = d[0] + s[0];
                int y = d[1] + s[1];
                if (now.known(x, y)) {
                    tones.put(y * 100 + x, now.dots[y][x].tone());
                }
            }
        }
        if (what == 0 || tones.isEmpty()) {
            return what == 0 ? tones.size() : NONE;
        }
        int min = tones.values().stream().mapToInt(t -> t).min().getAsInt();
        int max = tones.values().stream().mapToInt(t -> t).max().getAsInt();
        int sum = tones.values().stream().mapToInt(t -> t).sum();
        return what == 1 ? min : what == 2 ? max : sum / tones.size();
    }

    int log(int k, int what) {
        exists(k >= 0 && k < 30 && k < now.fills.size());
        need(what >= 0 && what <= 8);
        return now.fills.get(now.fills.size() - 1 - k).told()[what];
    }

    int half(int level, int x, int y) {
        need(level == 1 || level == 2);
        State half = now.half();
        half = level == 2 && half != null ? half.half() : half;
        return half == null || !half.has(x, y) ? -2 : half.dots[y][x].tone();
    }

    int ahead(int n, int what) {
        need(n >= 1 && n <= 60);
        need(what >= 0 && what <= 4);
        State then = now.copy();
        int fills = goOn(then, set, null, n, false);
        int least = NONE;
        for (int[] d : then.all()) {
            Dot dot = then.dots[d[1]][d[0]];
            least = dot.filled() ? least == NONE ? dot.sure() : Math.min(least, dot.sure()) : least;
        }
        int[] all = {then.count(false), fills, (int) (then.differences() - now.differences()), flawOf(then), least};
        return all[what];
    }

    private int flawOf(State state) {
        if (truth == null) {
            return NONE;
        }
        int sum = 0;
        for (int[] d : state.all()) {
            Dot dot = state.dots[d[1]][d[0]];
            if (dot.filled() && truth.known(d[0], d[1])) {
                int off = dot.tone() - truth.dots[d[1]][d[0]].tone();
                sum += off * off;
            }
        }
        return sum;
    }

    int flaw() {
        return flawOf(now);
    }

    int flawBy(int levels) {
        need(levels >= 0 && levels <= 2);
        if (truth == null) {
            return NONE - 999999999;
        }
        State then = now.copy();
        goOn(then, set, guideFor(then, set, levels), 400, false);
        return flawOf(then) - flawOf(now);
    }

    int tune(int what) {
        need(what >= 0 && what <= 2);
        int[] best = null;
        for (int size = 3; size >= 1; size--) {
            State then = now.copy();
            goOn(then, set.with(0, size), null, 400, false);
            int[] one = {size, then.count(false), truth == null ? 0 : flawOf(then)};
            if (best == null || one[1] < best[1] || one[1] == best[1] && one[2] <= best[2]) {
                best = one;
            }
        }
        return best[what];
    }

    int reach(int x, int y, int what) {
        exists(now.has(x, y));
        need(what == 0 || what == 1);
        Pair far = searchFor(now, set.with(1, 20), x, y, null).best();
        if (far == null) {
            return NONE;
        }
        for (int reach = 1; reach <= 20; reach++) {
            Pair near = searchFor(now, set.with(1, reach), x, y, null).best();
            if (near != null && (what == 0 || near.equals(far))) {
                return reach;
            }
        }
        return NONE;
    }

    int seams(int what) {
        need(what >= 0 && what <= 2);
        List<Integer> steps = new ArrayList<>();
        for (int[] a : now.all()) {
            for (int[] b : now.all()) {
                boolean next = b[0] == a[0] + 1 && b[1] == a[1] || b[0] == a[0] && b[1] == a[1] + 1;
                if (next && now.known(a[0], a[1]) && now.known(b[0], b[1])) {
                    Dot one = now.dots[a[1]][a[0]];
                    Dot other = now.dots[b[1]][b[0]];
                    if (one.filled() != other.filled()) {
                        steps.add(Math.abs(one.tone() - other.tone()));
                    }
                }
            }
        }
        int sum = steps.stream().mapToInt(s -> s).sum();
        return what == 0 ? sum : what == 1 ? steps.size() : steps.stream().mapToInt(s -> s).max().orElse(0);
    }

    int favourite(int what) {
        need(what == 0 || what == 1);
        int[] had = new int[8];
        for (int k = 0; k < Math.min(30, now.fills.size()); k++) {
            had[now.fills.get(now.fills.size() - 1 - k).told()[7]]++;
        }
        int best = 0;
        for (int way = 1; way < 8; way++) {
            best = had[way] > had[best] ? way : best;
        }
        return what == 1 ? had[best] : had[best] == 0 ? NONE : best;
    }

    int turning(int what) {
        need(what == 0 || what == 1);
        long least = Long.MAX_VALUE;
        int best = NONE;
        for (int turns = 0; turns <= 3; turns++) {
            State then = now.copy();
            goOn(then, set.with(4, turns), null, 400, false);
            long sum = then.differences() - now.differences();
            if (sum < least) {
                least = sum;
                best = turns;
            }
        }
        return what == 0 ? best : (int) least;
    }

    int lent(int x, int y) {
        exists(now.has(x, y));
        int n = 0;
        for (int[] at : now.patch(x, y, set.size())) {
            for (int[] d : now.all()) {
                int[] origin = now.dots[d[1]][d[0]].origin();
                n += origin != null && origin[0] == at[0] && origin[1] == at[1] ? 1 : 0;
            }
        }
        return n;
    }

    long print() {
        long sum = 0;
        for (int[] d : now.all()) {
            sum = sum * 31 + now.dots[d[1]][d[0]].tone();
        }
        return sum;
    }

    int status(int what) {
        return what == 0 ? noSuch : what == 1 ? bad : NONE;
    }
}
