import java.lang.management.ManagementFactory;

/** What a run makes stays: an object is small, and its calls make nothing but the exceptions they throw. */
final class RoomTest {
    private static final com.sun.management.ThreadMXBean ROOM =
            (com.sun.management.ThreadMXBean) ManagementFactory.getThreadMXBean();

    public static void main(String[] args) {
        calls(Check.of("20a/20b/20c/20d/20e/20f/20g/20h/20i/20j/20a/20b/20c/20d/20e/20f/20g/20h/20i/20j"));
        long before = made();
        FilledHoles x = new FilledHoles();
        long object = made() - before;
        // 7.3 million elements are there for a run: some forty thousand of four bytes each are a small part of them
        Check.due("an object takes " + object + " bytes", 1, object < 200000 ? 1 : 0);
        Check.feed(x, "20a/20b/20c/20d/20e/20f/20g/20h/20i/20j/20a/20b/20c/20d/20e/20f/20g/20h/20i/20j");
        x.text(79);
        before = made();
        calls(x);
        long calls = made() - before;
        Check.due("calls make " + calls + " bytes", 1, calls < 4000 ? 1 : 0);
        Check.end();
    }

    private static long made() {
        return ROOM.getThreadAllocatedBytes(Thread.currentThread().getId());
    }

    /** Each kind of call that reckons, some of them with all that the PICTURE holds. */
    private static void calls(FilledHoles x) {
        x.set(4, 3);
        x.set(5, 1);
        x.set(6, 1);
        x.set(2, 1);
        x.keep();
        for (int i = 0; i < 20; i++) {
            x.paint(i, 19 - i, 12 * i);
            x.hole(8, 4, 14, 11);
            x.ahead(60, i % 5);
            x.tune(i % 3);
            x.turning(i % 2);
            x.flawBy(i % 3);
            x.search(i, i, 2);
            x.reach(i, i, i % 2);
            x.difference(i, i, 9, 9, i % 16);
            x.half(1 + i % 2, 1, 1);
            x.front(i, 2);
            x.part(0, i % 6);
            x.ring(0, i % 4);
            x.next(i % 7);
            x.rank(9, 5, i % 7);
            x.undo();
            x.hole(8, 4, 14, 11);
            x.fill(3);
            x.guide(2);
            x.log(0, i % 9);
            x.lent(5, 5);
            x.seams(0);
            x.favourite(0);
            x.print();
            x.feed(i, i, i, i, i);
            x.text(20);
            x.told(i % 19);
        }
    }
}
