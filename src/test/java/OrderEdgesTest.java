import java.util.function.ToIntFunction;

/**
 * REFUSALS of every call that takes numbers: each number is the smallest int, below the least, the least, the
 * greatest, above it and the greatest int, with each of the others. Of several refusals the first is due.
 */
public final class OrderEdgesTest {
    private static final String ORDER = "REFUSALS (the call answers the number, the first that fits in the order in "
        + "which it tells them; nothing changes but how many there were):";

    public static void main(String[] args) {
        Edge edge = new Edge();
        all(edge);
        edge.finish("OrderEdgesTest");
    }

    static void all(Edge edge) {
        letters(edge);
        ice(edge);
        skaters(edge);
        lines(edge);
        minds(edge);
        rows(edge);
        judges(edge);
        practice(edge);
    }

    /** Every mix of the numbers at the bounds, told as least, greatest, least, greatest .. of each. */
    private static void grid(Edge edge, String name, ToIntFunction<int[]> due, int... bounds) {
        int[] numbers = new int[bounds.length / 2];
        mix(edge, name, due, bounds, numbers, 0);
    }

    private static void mix(Edge edge, String name, ToIntFunction<int[]> due, int[] bounds, int[] numbers, int at) {
        if (at == numbers.length) {
            ask(edge, name, due.applyAsInt(numbers), numbers);
            return;
        }
        int least = bounds[2 * at];
        int most = bounds[2 * at + 1];
        for (int number : new int[] {Integer.MIN_VALUE, least - 1, least, most, most + 1, Integer.MAX_VALUE}) {
            numbers[at] = number;
            mix(edge, name, due, bounds, numbers, at + 1);
        }
    }

    private static void ask(Edge edge, String name, int due, int[] numbers) {
        StringBuilder call = new StringBuilder(name).append('(');
        for (int i = 0; i < numbers.length; i++) {
            call.append(i == 0 ? "" : ", ").append(numbers[i]);
        }
        call.append(')');
        if (due == 0) {
            edge.notRefused(call.toString());
        } else {
            edge.refused(call.toString(), due);
        }
    }

    private static boolean no(int number, int least, int most) {
        return number < least || number > most;
    }

    private static int first(int... codes) {
        for (int code : codes) {
            if (code != 0) {
                return code;
            }
        }
        return 0;
    }

    private static int when(boolean holds, int code) {
        return holds ? code : 0;
    }

    private static void letters(Edge edge) {
        edge.terms(2, ORDER);
        edge.on(Edge.BUSY);
        grid(edge, "feed", v -> first(when(v[0] < 0, -4), when(v[0] > 255, -6)), 0, 255);
        edge.on("feed wwwwwwwwwwwwwwwwwwwwwwwwwwwwwwwwwwwwwwwwwwwwwwwwwwwwwwwwwwwwwwwwwwwwwwwwwwwwwwwwwwwwwwwwwwwwwwww");
        grid(edge, "feed", v -> first(when(v[0] < 0, -4), -6), 0, 255);
    }

    private static void ice(Edge edge) {
        edge.terms(5, ORDER);
        edge.on(Edge.BUSY);
        grid(edge, "ice", v -> first(when(no(v[0], 0, 1) || no(v[1], 0, 11), -1), when(no(v[2], 0, 1), -2)),
            0, 1, 0, 11, 0, 1);
        ToIntFunction<int[]> laid = v -> first(when(no(v[0], 0, 1) || no(v[1], 0, 11), -1), when(no(v[2], 0, 1), -2),
            when(v[3] < 0, -4), when(v[3] > (v[2] == 0 ? 3 : 99), -6));
        grid(edge, "lay", laid, 0, 1, 0, 11, 0, 1, 0, 3);
        grid(edge, "lay", laid, 0, 1, 0, 11, 0, 1, 0, 99);
    }

    private static void skaters(Edge edge) {
        edge.terms(6, ORDER);
        edge.on(Edge.BUSY);
        int[] least = {10, 0, 0, 0, 0};
        int[] most = {99, 9, 100, 9, 9};
        for (int i = 0; i < 5; i++) {
            grid(edge, "set", v -> settingFault(v, least, most), i, i, least[i], most[i]);
        }
        edge.terms(7, ORDER);
        edge.on(Edge.BUSY);
        grid(edge, "skater", v -> first(when(no(v[0], 0, 6), -2), when(v[1] < 0, -4), when(v[1] > 9, -6)), 0, 6, 0, 9);
    }

    private static int settingFault(int[] v, int[] least, int[] most) {
        if (no(v[0], 0, 4)) {
            return -1;
        }
        return first(when(v[1] < least[v[0]], -4), when(v[1] > most[v[0]], -6));
    }

    private static void lines(Edge edge) {
        edge.terms(8, ORDER);
        for (String[] scene : new String[][] {{}, Edge.BUSY, Edge.FULL}) {
            int drawn = scene == Edge.FULL ? 6 : scene == Edge.BUSY ? 3 : 0;
            edge.on(scene);
            grid(edge, "draw", v -> first(when(no(v[0], 0, 1), -1), stroke(v[1], v[2]), when(drawn == 6, -6)),
                0, 1, 1, 9, 1, 9);
            grid(edge, "trace", v -> when(no(v[0], 0, drawn - 1) || no(v[1], 0, 11), -1), 0, drawn - 1, 0, 11);
            grid(edge, "of", v -> first(when(no(v[0], 0, drawn - 1), -1), when(no(v[1], 0, 8), -2)),
                0, drawn - 1, 0, 8);
            grid(edge, "mean", v -> first(when(no(v[0], 0, drawn - 1), -1), when(no(v[1], 0, 1), -2)),
                0, drawn - 1, 0, 1);
            grid(edge, "close", v -> when(no(v[0], 0, drawn - 1) || no(v[1], 0, drawn - 1), -1),
                0, drawn - 1, 0, drawn - 1);
            grid(edge, "spread", v -> when(no(v[0], 0, 1), -1), 0, 1);
        }
    }

    private static int stroke(int push, int lean) {
        return first(when(push < 1 || lean < 1, -4), when(push > 9 || lean > 9, -6));
    }

    private static int growth(int push, int lean, int n) {
        return first(when(push < 1 || lean < 1 || n < 2, -4), when(push > 9 || lean > 9 || n > 9, -6));
    }

    private static void minds(Edge edge) {
        edge.terms(16, ORDER);
        edge.on(Edge.BUSY);
        grid(edge, "grows", v -> first(when(no(v[0], 0, 1), -1), when(no(v[3], 0, 6), -2), growth(v[1], v[2], v[4])),
            0, 1, 1, 9, 1, 9, 0, 6, 2, 9);
        grid(edge, "next", v -> first(when(no(v[0], 0, 1) || no(v[3], -1, 11), -1), stroke(v[1], v[2])),
            0, 1, 1, 9, 1, 9, -1, 11);
        grid(edge, "calm", v -> first(when(no(v[0], 0, 1), -1), growth(v[1], v[2], v[3])), 0, 1, 1, 9, 1, 9, 2, 9);
        grid(edge, "closes", v -> when(no(v[0], 0, 1), -1), 0, 1);
        grid(edge, "correct", v -> first(when(no(v[0], 0, 1), -1), stroke(v[1], v[2])), 0, 1, 1, 9, 1, 9);
        grid(edge, "lot", v -> stroke(v[0], v[1]), 1, 9, 1, 9);
    }

    private static void rows(Edge edge) {
        edge.terms(21, ORDER);
        for (int many : new int[] {0, 11, 12}) {
            String[] scene = Edge.WORN;
            scene = Edge.with(scene, "clear()");
            for (int i = 0; i < many; i++) {
                scene = Edge.with(scene, "row(52)");
            }
            edge.on(scene);
            grid(edge, "whose", v -> first(when(no(v[0], 0, 1), -1), when(no(v[1], -1, 6), -2), when(many != 12, -3)),
                0, 1, -1, 6);
            grid(edge, "row", v -> first(when(v[0] < 0, -4), when(v[0] > 99 || many == 12, -6)), 0, 99);
            grid(edge, "judge", v -> when(no(v[0], 0, 2), -1), 0, 2);
        }
        grid(edge, "from", v -> first(when(no(v[0], 0, 11), -1), when(no(v[1], 0, 2) || no(v[2], 0, 1), -2)),
            0, 11, 0, 2, 0, 1);
    }

    private static void judges(Edge edge) {
        edge.terms(22, ORDER);
        for (String[] scene : new String[][] {{}, Edge.BUSY, Edge.FULL}) {
            int drawn = scene == Edge.FULL ? 6 : scene == Edge.BUSY ? 3 : 0;
            edge.on(scene);
            grid(edge, "mark", v -> first(when(no(v[0], 0, 4), -2), when(no(v[1], 0, drawn - 1), -1)),
                0, 4, 0, drawn - 1);
            grid(edge, "fewest", v -> when(no(v[0], 0, 1), -2), 0, 1);
        }
    }

    private static void practice(Edge edge) {
        edge.terms(25, ORDER);
        edge.on(Edge.BUSY);
        grid(edge, "hours", v -> first(when(v[0] < 0, -4), when(v[0] > 40, -6), when(no(v[1], 0, 1), -2)), 0, 40, 0, 1);
        grid(edge, "won", v -> first(when(v[0] < 0, -4), when(v[0] > 40, -6)), 0, 40);
        grid(edge, "seeds", v -> first(when(v[0] < 1, -4), when(v[0] > 20, -6), when(no(v[2], 0, 1), -2)),
            1, 20, -1, 0, 0, 1);
    }
}
