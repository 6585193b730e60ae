/** All that an object tells of how it is, but for what was refused: to see that nothing has changed. */
final class State {
    private State() {
    }

    /** Some 230 calls for 30 DOTS, so that a test can ask it twice of one object. */
    static String of(FilledHoles x) {
        StringBuilder all = new StringBuilder();
        for (int what = 0; what <= 18; what++) {
            all.append(x.told(what)).append(' ');
        }
        all.append("| ").append(x.fault()).append(' ').append(x.flaw()).append(' ').append(x.print()).append(" |");
        int width = x.told(0);
        int dots = width * x.told(1);
        for (int i = 0; i < dots; i++) {
            all.append(' ').append(dot(x, i % width, i / width));
        }
        int fills = x.told(7);
        for (int k = 0; k < Math.min(30, fills); k++) {
            all.append(" |");
            for (int what = 0; what <= 8; what++) {
                all.append(' ').append(x.log(k, what));
            }
        }
        return all.toString();
    }

    private static String dot(FilledHoles x, int column, int row) {
        int[] whats = {1, 3, 4, 5, 6, 9};
        StringBuilder all = new StringBuilder();
        for (int what : whats) {
            all.append(x.dot(column, row, what)).append(',');
        }
        return all.toString();
    }
}
