import java.util.Random;

/** Runs of calls, made up from fixed seeds, on FilledHoles and on Plain: each answer is held against the other. */
final class AgainstPlainTest {
    private final Random random;
    private final FilledHoles holes = new FilledHoles();
    private final Plain plain = new Plain();
    private final String run;
    private final int maxSide;
    private int w = 8;
    private int h = 8;
    private int call = 0;

    private AgainstPlainTest(long seed, int maxSide) {
        this.random = new Random(seed);
        this.run = "run " + seed;
        this.maxSide = maxSide;
    }

    public static void main(String[] args) {
        int runs = args.length > 0 ? Integer.parseInt(args[0]) : 160;
        long first = args.length > 1 ? Long.parseLong(args[1]) : 1;
        for (long seed = first; seed < first + runs && Check.wrongSoFar() == 0; seed++) {
            int maxSide = seed % 8 == 0 ? 20 : seed % 3 == 0 ? 5 : 11;
            new AgainstPlainTest(seed, maxSide).calls(maxSide > 11 ? 100 : 300);
            new AgainstPlainTest(-seed, seed % 8 == 0 ? 20 : 14).guidedCalls();
        }
        Check.end();
    }

    private void calls(int count) {
        if (random.nextInt(4) > 0) {
            readText(goodText());
        }
        for (call = 0; call < count; call++) {
            int kind = random.nextInt(100);
            if (kind < 4) {
                readText(random.nextInt(3) > 0 ? spoilt(goodText()) : goodText());
            } else if (kind < 30) {
                change();
            } else {
                ask();
            }
            if (kind < 30) {
                compareAll();
            }
        }
        compareAll();
    }

    /** Holes that HALF has, too, and what is made of them GUIDED or not. */
    private void guidedCalls() {
        for (call = 0; call < 8; call++) {
            readText(goodText());
            due("keep", () -> plain.keep(), () -> holes.keep());
            for (int i = 0; i < 2; i++) {
                int x = 2 * random.nextInt((w + 1) / 2);
                int y = 2 * random.nextInt((h + 1) / 2);
                int toX = Math.min(w - 1, x + 1 + 2 * random.nextInt(3));
                int toY = Math.min(h - 1, y + 1 + 2 * random.nextInt(3));
                due("hole", () -> plain.hole(x, y, toX, toY), () -> holes.hole(x, y, toX, toY));
            }
            for (int i = 0; i < 3; i++) {
                int[] most = {random.nextInt(3) == 0 ? 2 : 1, 20, 1, 2, 3, 1, 1};
                int what = random.nextInt(7);
                int v = what == 1 ? 2 + random.nextInt(19) : (what == 0 ? 1 : 0) + random.nextInt(most[what] + (what == 0 ? 0 : 1));
                due("set(" + what + ", " + v + ")", () -> plain.set(what, v), () -> holes.set(what, v));
            }
            for (int i = 0; i <= 2; i++) {
                int what = i;
                due("flawBy " + what, () -> plain.flawBy(what), () -> holes.flawBy(what));
                due("tune " + what, () -> plain.tune(what), () -> holes.tune(what));
                due("ahead " + what, () -> plain.ahead(60, 2 + what), () -> holes.ahead(60, 2 + what));
            }
            int levels = 1 + random.nextInt(2);
            due("guide " + levels, () -> plain.guide(levels), () -> holes.guide(levels));
            compareAll();
            compareLogs();
            due("undo", () -> plain.undo(), () -> holes.undo());
            compareLogs();
        }
    }

    private void compareLogs() {
        for (int k = 0; k <= 30; k++) {
            for (int i = 0; i <= 8; i++) {
                int latest = k;
                int what = i;
                due("log " + k + " " + i, () -> plain.log(latest, what), () -> holes.log(latest, what));
            }
        }
    }

    private void due(String what, Check.Call want, Check.Call got) {
        Check.due(run + " call " + call + " " + what, Check.answer(want), Check.answer(got));
    }

    private int within(int from, int to) {
        if (random.nextInt(40) == 0) {
            int[] odd = {from - 1, to + 1, Integer.MIN_VALUE, Integer.MAX_VALUE, -1};
            return odd[random.nextInt(odd.length)];
        }
        return from + random.nextInt(to - from + 1);
    }

    private String goodText() {
        w = 3 + random.nextInt(maxSide - 2);
        h = 3 + random.nextInt(maxSide - 2);
        int letters = 1 + random.nextInt(26);
        int pattern = random.nextInt(4);
        int missing = random.nextInt(3) * random.nextInt(12);
        StringBuilder text = new StringBuilder();
        for (int y = 0; y < h; y++) {
            text.append(y == 0 ? "" : "/");
            for (int x = 0; x < w;) {
                int times = random.nextInt(3) == 0 || w * h > 180 ? 1 + random.nextInt(w - x) : 1;
                times = w * h > 180 && times < 2 && w - x >= 2 ? 2 : times;
                int tone = pattern == 0 ? x : pattern == 1 ? x + 2 * y : pattern == 2 ? x * y / 3 : random.nextInt(26);
                char dot = random.nextInt(100) < missing ? '?' : (char) ('a' + tone % letters);
                text.append(times > 1 ? Integer.toString(times) : "").append(dot);
                x += times;
            }
        }
        return text.length() > 300 ? text.substring(0, 300) : text.toString();
    }

    private String spoilt(String text) {
        StringBuilder bad = new StringBuilder(text);
        String signs = "az?/0123456789/?A{`!\u00e1\u0000:";
        for (int i = 0; i < 1 + random.nextInt(2); i++) {
            int at = random.nextInt(bad.length());
            char sign = signs.charAt(random.nextInt(signs.length()));
            switch (random.nextInt(4)) {
                case 0: bad.setCharAt(at, sign); break;
                case 1: bad.insert(at, sign); break;
                case 2: bad.deleteCharAt(at); break;
                default: bad.setLength(at); break;
            }
            if (bad.length() == 0) {
                break;
            }
        }
        if (random.nextInt(8) == 0) {
            bad.append(bad.length() % 2 == 0 ? "/aaa" : "/");
        }
        return bad.length() > 300 ? bad.substring(0, 300) : bad.toString();
    }

    private void readText(String text) {
        for (int at = 0; at < text.length(); at += 20) {
            int[] five = new int[5];
            for (int i = 0; i < 20 && at + i < text.length(); i++) {
                five[i / 4] |= (text.charAt(at + i) & 255) << (24 - 8 * (i % 4));
            }
            feed(five);
        }
        if (random.nextInt(20) == 0) {
            int n = random.nextBoolean() ? -1 : 301;
            due("text(" + n + ")", () -> plain.text(n), () -> holes.text(n));
        }
        int n = text.length();
        due("text of " + text, () -> plain.text(n), () -> holes.text(n));
        due("fault of " + text, () -> plain.fault(), () -> holes.fault());
        w = plain.told(0);
        h = plain.told(1);
        compareAll();
    }

    private void feed(int[] f) {
        due("feed", () -> plain.feed(f), () -> holes.feed(f[0], f[1], f[2], f[3], f[4]));
    }

    private void change() {
        int x = within(0, w - 1);
        int y = within(0, h - 1);
        switch (random.nextInt(9)) {
            case 0: {
                int[] most = {3, 20, 1, 2, 3, 1, 1};
                int what = random.nextInt(7);
                int v = within(what < 2 ? 1 : 0, most[what]);
                int of = random.nextInt(30) == 0 ? within(-1, 8) : what;
                due("set(" + of + ", " + v + ")", () -> plain.set(of, v), () -> holes.set(of, v));
                break;
            }
            case 1:
            case 2: {
                int toX = Math.min(w - 1, Math.max(0, x)) + random.nextInt(4) - (random.nextInt(9) == 0 ? 1 : 0);
                int toY = Math.min(h - 1, Math.max(0, y)) + random.nextInt(4) - (random.nextInt(9) == 0 ? 1 : 0);
                due("hole", () -> plain.hole(x, y, toX, toY), () -> holes.hole(x, y, toX, toY));
                break;
            }
            case 3: {
                int tone = within(0, 255);
                due("paint", () -> plain.paint(x, y, tone), () -> holes.paint(x, y, tone));
                break;
            }
            case 4:
                due("keep", () -> plain.keep(), () -> holes.keep());
                break;
            case 5:
            case 6: {
                int n = random.nextBoolean() ? within(1, 3) : within(1, 60);
                due("fill(" + n + ")", () -> plain.fill(n), () -> holes.fill(n));
                break;
            }
            case 7: {
                int levels = within(1, 2);
                due("guide(" + levels + ")", () -> plain.guide(levels), () -> holes.guide(levels));
                break;
            }
            default:
                due("undo", () -> plain.undo(), () -> holes.undo());
                break;
        }
    }

    private void ask() {
        int x = within(0, w - 1);
        int y = within(0, h - 1);
        int kind = random.nextInt(20);
        if (kind < 10) {
            askDots(kind, x, y);
        } else {
            askOthers(kind);
        }
    }

    private void askDots(int kind, int x, int y) {
        String at = "(" + x + ", " + y + ", ";
        switch (kind) {
            case 0: {
                int what = within(0, 9);
                due("dot" + at + what, () -> plain.dot(x, y, what), () -> holes.dot(x, y, what));
                break;
            }
            case 1: {
                int what = within(0, 6);
                due("rank" + at + what, () -> plain.rank(x, y, what), () -> holes.rank(x, y, what));
                break;
            }
            case 2:
            case 3: {
                int what = within(0, 8);
                due("search" + at + what, () -> plain.search(x, y, what), () -> holes.search(x, y, what));
                break;
            }
            case 4:
            case 5:
            case 6: {
                int u = within(0, w - 1);
                int v = within(0, h - 1);
                int what = within(0, 15);
                due("difference" + at + u + ", " + v + ", " + what, () -> plain.difference(x, y, u, v, what),
                        () -> holes.difference(x, y, u, v, what));
                break;
            }
            case 7: {
                int what = within(0, 1);
                due("reach" + at + what, () -> plain.reach(x, y, what), () -> holes.reach(x, y, what));
                break;
            }
            case 8:
                due("lent" + at, () -> plain.lent(x, y), () -> holes.lent(x, y));
                break;
            default: {
                int level = within(1, 2);
                int u = within(-1, 11);
                int v = within(-1, 11);
                due("half " + level + " " + u + " " + v, () -> plain.half(level, u, v), () -> holes.half(level, u, v));
                break;
            }
        }
    }

    private void askOthers(int kind) {
        int k = within(0, kind == 13 ? 31 : 4);
        int what = within(0, 8);
        int three = within(0, 2);
        int two = within(0, 1);
        switch (kind) {
            case 10: due("next " + what, () -> plain.next(what), () -> holes.next(what)); break;
            case 11: due("front " + k + " " + three, () -> plain.front(k, three), () -> holes.front(k, three)); break;
            case 12: due("part " + k + " " + what, () -> plain.part(k, what), () -> holes.part(k, what)); break;
            case 13: due("log " + k + " " + what, () -> plain.log(k, what), () -> holes.log(k, what)); break;
            case 14: due("ring " + k + " " + what, () -> plain.ring(k, what), () -> holes.ring(k, what)); break;
            case 15: {
                int n = within(1, 60);
                due("ahead " + n + " " + k, () -> plain.ahead(n, k), () -> holes.ahead(n, k));
                break;
            }
            case 16: due("flawBy " + three, () -> plain.flawBy(three), () -> holes.flawBy(three)); break;
            case 17: due("tune " + three, () -> plain.tune(three), () -> holes.tune(three)); break;
            case 18: due("turning " + two, () -> plain.turning(two), () -> holes.turning(two)); break;
            default: {
                due("seams " + three, () -> plain.seams(three), () -> holes.seams(three));
                due("favourite " + two, () -> plain.favourite(two), () -> holes.favourite(two));
                break;
            }
        }
    }

    private void compareAll() {
        for (int i = 0; i <= 19; i++) {
            int what = i;
            due("told(" + what + ")", () -> plain.told(what), () -> holes.told(what));
        }
        due("print", () -> plain.print(), () -> holes.print());
        due("flaw", () -> plain.flaw(), () -> holes.flaw());
        for (int i = -1; i <= 2; i++) {
            int what = i;
            due("status", () -> plain.status(what), () -> holes.status(what));
        }
        for (int i = 0; i < 6; i++) {
            int x = random.nextInt(w);
            int y = random.nextInt(h);
            for (int k = 0; k <= 9; k++) {
                int what = k;
                due("dot " + x + " " + y + " " + what, () -> plain.dot(x, y, what), () -> holes.dot(x, y, what));
            }
        }
    }
}
