import java.util.Collections;

/** Promises 22, 23, 24, sentence by sentence, at their boundaries: mark, fits, fewest. */
public final class JudgesEdgesTest {
    private static final String BEHIND_EACH = "0 at least, 60 at most behind each.";
    private static final String NOT_AS_MANY = "-3 it has not as many as there are TRACES.";
    private static final String FEWEST = "FEWEST: the fewest TRACES by whose MARKS all five KINDS would be told apart "
        + "(by the MARKS of those together; -9 no such): how many; the least such set (bits).";
    /** 40 at each HOUR but where an OLD line of the left PATCH is: 50 makes it 41, 70 makes it 43, 80 makes it 44. */
    private static final String[] EVEN = {"set(1, 0)", "skater(6, 1)"};

    public static void main(String[] args) {
        Edge edge = new Edge();
        all(edge);
        edge.finish("JudgesEdgesTest");
    }

    static void all(Edge edge) {
        markAnswers(edge);
        markOfAnother(edge);
        markOfNobody(edge);
        judgeKinds(edge);
        fourthOfOff(edge);
        lessGap(edge);
        zeroAtLeast(edge);
        sweeper(edge);
        namer(edge);
        orderly(edge);
        eighthOfClose(edge);
        ifThereIsOne(edge);
        fitsAnswers(edge);
        oneBehindTheOther(edge);
        fitsNotAsMany(edge);
        fewestAnswers(edge);
        toldApart(edge);
        noSuch(edge);
        leastSet(edge);
        fewestOfAnother(edge);
    }

    private static String[] bent(int... hoursAndOlds) {
        String[] calls = EVEN;
        for (int i = 0; i < hoursAndOlds.length; i += 2) {
            calls = Edge.with(calls, "lay(0, " + hoursAndOlds[i] + ", 1, " + hoursAndOlds[i + 1] + ")");
        }
        return Edge.with(calls, "draw(0, 6, 9)");
    }

    private static void marked(Edge edge, int kind, int trace, int mark, String... scene) {
        edge.on(scene);
        edge.answers("mark(" + kind + ", " + trace + ")", mark);
    }

    private static void markAnswers(Edge edge) {
        edge.says(22, "MARK.");
        // OFF 26, GAP 4; FLATS at HOURS 2 and 3; NAME 2, ORDER 3
        edge.on("draw(0, 6, 9)", "lay(0, 2, 0, 1)", "lay(0, 3, 0, 2)", "lay(0, 4, 0, 2)", "set(3, 2)", "set(4, 3)");
        edge.answersRow("mark(?, 0)", 0, 50, 46, 56, 59, 46);
        edge.answers("mark(0, 0)", 50);
        edge.answers("mark(4, 0)", 46);
    }

    private static void markOfAnother(Edge edge) {
        edge.says(22, "-2 KIND of JUDGES; -1.", "-2 KIND of JUDGES");
        edge.outside("mark(?, 0)", 0, 4, -2);
        edge.on(Edge.BUSY);
        edge.outside("mark(?, 0)", 0, 4, -2);
        edge.outside("mark(?, 2)", 0, 4, -2);
        edge.outside("mark(?, 3)", 0, 4, -2);
        edge.outside("mark(?, -1)", 0, 4, -2);
    }

    private static void markOfNobody(Edge edge) {
        edge.says(22, "-2 KIND of JUDGES; -1.", "-1");
        edge.justOutside("mark(0, ?)", 0, -1, -1);
        edge.on(Edge.BUSY);
        edge.outside("mark(0, ?)", 0, 2, -1);
        edge.outside("mark(4, ?)", 0, 2, -1);
        edge.on(Edge.FULL);
        edge.outside("mark(4, ?)", 0, 5, -1);
    }

    private static void judgeKinds(Edge edge) {
        edge.terms(22, "JUDGES of KINDS: 0 JUDGE; 1 SWEEPER under JUDGE; 2 NAMER under JUDGE; 3 ORDERLY under NAMER; 4 "
            + "CLOSE one under SWEEPER.");
        edge.on("set(1, 0)", "skater(6, 1)", "lay(0, 5, 1, 80)", "lay(0, 6, 1, 80)", "lay(0, 7, 1, 80)",
            "lay(0, 8, 1, 80)", "draw(0, 6, 9)", "skater(0, 0)", "draw(0, 6, 9)", "lay(0, 3, 0, 1)", "set(0, 45)",
            "set(3, 1)", "set(4, 1)");
        // TRACE 1 has OFF 60: 45; one FLAT: 43; NAME 1: 48; ORDER 1: 49; CLOSE by 16 to TRACE 0: 41
        edge.answersRow("mark(?, 1)", 0, 45, 43, 48, 49, 41);
        edge.refused("mark(-1, 1)", -2);
        edge.refused("mark(5, 1)", -2);
    }

    private static void fourthOfOff(Edge edge) {
        edge.terms(22, "MARK of a TRACE (0 .. 60): JUDGE 60 less a fourth of OFF, cut, less GAP;");
        marked(edge, 0, 0, 60, bent());
        marked(edge, 0, 0, 60, bent(5, 50));
        marked(edge, 0, 0, 60, bent(5, 70));
        marked(edge, 0, 0, 59, bent(5, 80));
        marked(edge, 0, 0, 59, bent(5, 80, 8, 70));
        marked(edge, 0, 0, 58, bent(5, 80, 8, 80));
    }

    private static void lessGap(Edge edge) {
        edge.terms(22, "MARK of a TRACE (0 .. 60): JUDGE 60 less a fourth of OFF, cut, less GAP;");
        marked(edge, 0, 0, 59, bent(0, 50));
        marked(edge, 0, 0, 59, bent(11, 50));
        marked(edge, 0, 0, 59, bent(11, 30));
        marked(edge, 0, 0, 60, bent(0, 50, 11, 50));
        marked(edge, 0, 0, 55, bent(0, 80));
    }

    private static void zeroAtLeast(Edge edge) {
        edge.terms(22, BEHIND_EACH);
        String[] sixty = {"set(1, 0)", "skater(6, 1)"};
        // 60 at each HOUR is OFF by 240 from 40, by 239 with 59 at HOUR 5, by 241 with 61 there.
        marked(edge, 0, 0, 0, Edge.with(sixty, "draw(0, 1, 1)"));
        marked(edge, 0, 0, 1, Edge.with(sixty, "lay(0, 5, 1, 50)", "draw(0, 1, 1)"));
        marked(edge, 0, 0, 0, Edge.with(sixty, "lay(0, 5, 1, 70)", "draw(0, 1, 1)"));
        marked(edge, 0, 0, 3, Edge.with(sixty, "draw(0, 1, 1)", "set(0, 41)"));
        marked(edge, 0, 0, 0, Edge.with(sixty, "draw(0, 1, 1)", "set(0, 39)"));
        marked(edge, 0, 0, 0, Edge.with(sixty, "draw(0, 9, 1)"));
        // A JUDGE's -3 is 0 ahead of what NAME brings.
        marked(edge, 2, 0, 3, Edge.with(sixty, "draw(0, 1, 1)", "set(0, 39)", "set(3, 1)"));
        marked(edge, 3, 0, 9, Edge.with(sixty, "draw(0, 9, 1)", "set(4, 9)"));
        marked(edge, 3, 0, 36, Edge.with(sixty, "draw(0, 9, 1)", "set(3, 9)", "set(4, 9)"));
    }

    private static void sweeper(Edge edge) {
        edge.terms(22, "SWEEPER a JUDGE's less twice how many FLATS;");
        String[] scene = bent();
        marked(edge, 1, 0, 60, scene);
        for (int hour = 0; hour < 12; hour++) {
            scene = Edge.with(scene, "lay(0, " + hour + ", 0, 1)");
            marked(edge, 1, 0, 58 - 2 * hour, scene);
        }
        String[] three = {"set(1, 0)", "draw(0, 1, 1)", "set(0, 41)"};
        marked(edge, 1, 0, 3, three);
        marked(edge, 1, 0, 1, Edge.with(three, "lay(0, 0, 0, 3)"));
        marked(edge, 1, 0, 0, Edge.with(three, "lay(0, 0, 0, 3)", "lay(0, 11, 0, 3)"));
    }

    private static void namer(Edge edge) {
        edge.terms(22, "NAMER a JUDGE's and 3 times NAME;");
        // From SIZE 49 40 is OFF by 108: 33, and 27 is 60; from 50 30; from 48 36.
        String[] named = Edge.with(bent(), "set(3, 9)");
        marked(edge, 2, 0, 60, Edge.with(named, "set(0, 49)"));
        marked(edge, 2, 0, 57, Edge.with(named, "set(0, 50)"));
        marked(edge, 2, 0, 60, Edge.with(named, "set(0, 48)"));
        marked(edge, 2, 0, 60, named);
        marked(edge, 2, 0, 33, Edge.with(bent(), "set(0, 49)"));
        marked(edge, 2, 0, 36, Edge.with(bent(), "set(0, 49)", "set(3, 1)"));
    }

    private static void orderly(Edge edge) {
        edge.terms(22, "ORDERLY a NAMER's and ORDER;");
        String[] fiftySeven = Edge.with(bent(), "set(3, 9)", "set(0, 50)");
        int[] marks = {57, 58, 59, 60, 60, 60, 60, 60, 60, 60};
        for (int order = 0; order <= 9; order++) {
            marked(edge, 3, 0, marks[order], Edge.with(fiftySeven, "set(4, " + order + ")"));
        }
        marked(edge, 3, 0, 42, Edge.with(bent(), "set(0, 49)", "set(4, 9)"));
    }

    private static void eighthOfClose(Edge edge) {
        edge.terms(22, "CLOSE one a SWEEPER's less an eighth, cut, of CLOSE to the TRACE of that foot drawn latest ahead "
            + "of it, if there is one;");
        String[] then = {"skater(0, 0)", "draw(0, 6, 9)"};
        marked(edge, 4, 1, 60, Edge.with(bent(), then));
        marked(edge, 4, 1, 60, Edge.with(bent(5, 90, 8, 60), then));
        marked(edge, 4, 1, 59, Edge.with(bent(5, 90, 8, 70), then));
        marked(edge, 4, 1, 59, Edge.with(bent(4, 90, 6, 90, 8, 90), then));
        marked(edge, 4, 1, 58, Edge.with(bent(4, 90, 6, 90, 8, 90, 9, 50), then));
        // From 540 far more than 60
        marked(edge, 4, 1, 0, Edge.with(EVEN, Edge.with(new String[] {"draw(0, 9, 1)"}, then)));
    }

    private static void ifThereIsOne(Edge edge) {
        edge.terms(22, "CLOSE to the TRACE of that foot drawn latest ahead of it, if there is one;");
        String[] even = {"set(1, 0)"};
        marked(edge, 4, 0, 60, Edge.with(even, "draw(0, 6, 9)"));
        marked(edge, 4, 0, 60, Edge.with(even, "draw(0, 6, 9)", "draw(0, 9, 1)"));
        marked(edge, 4, 1, 60, Edge.with(even, "draw(1, 9, 1)", "draw(0, 6, 9)"));
        marked(edge, 4, 2, 60, Edge.with(even, "draw(0, 9, 1)", "draw(0, 6, 9)", "draw(0, 6, 9)"));
        // 42 behind 40: OFF 24 is 54, an eighth of 24 is 3
        marked(edge, 4, 3, 51, Edge.with(even, "draw(0, 9, 1)", "draw(0, 6, 9)", "draw(1, 9, 1)", "draw(0, 5, 7)"));
        marked(edge, 4, 5, 51, Edge.with(even, "draw(1, 6, 9)", "draw(0, 9, 1)", "draw(0, 9, 1)", "draw(0, 9, 1)",
            "draw(0, 9, 1)", "draw(1, 5, 7)"));
    }

    private static void fitsAnswers(Edge edge) {
        edge.says(23, "FITS by the ROW (bits; it stays).");
        edge.answers("fits()", 31);
        edge.on("draw(0, 6, 9)", "set(3, 2)", "set(4, 1)", "row 50");
        edge.answers("fits()", 1 + 2 + 16);
        edge.answers("count(7)", 1);
        edge.on("draw(0, 6, 9)", "set(3, 2)", "set(4, 1)", "row 56");
        edge.answers("fits()", 4);
        edge.on("draw(0, 6, 9)", "set(3, 2)", "set(4, 1)", "row 57");
        edge.answers("fits()", 8);
        edge.on("draw(0, 6, 9)", "set(3, 2)", "set(4, 1)", "row 58");
        edge.answers("fits()", 0);
        // MARKS of 0 and of 60 can be told, above 60 nothing fits.
        edge.on("draw(0, 9, 1)", "row 0");
        edge.answers("fits()", 31);
        edge.on("set(1, 0)", "draw(0, 6, 9)", "row 60");
        edge.answers("fits()", 31);
        edge.on("set(1, 0)", "draw(0, 6, 9)", "row 61");
        edge.answers("fits()", 0);
        edge.on("set(1, 0)", "draw(0, 6, 9)", "row 99");
        edge.answers("fits()", 0);
    }

    private static void oneBehindTheOther(Edge edge) {
        edge.terms(23, "FITS: KINDS of JUDGES (bits) by which the MARKS of all TRACES would be as a ROW tells, one behind "
            + "the other;");
        // Marks of 50 (40 39 ..), then of 60 (40 each; a CLOSE one's 57: an eighth of 26).
        String[] two = {"draw(0, 6, 9)", "set(1, 0)", "draw(0, 6, 9)"};
        edge.on(Edge.with(two, "row 50 60"));
        edge.answers("fits()", 15);
        edge.on(Edge.with(two, "row 50 57"));
        edge.answers("fits()", 16);
        edge.on(Edge.with(two, "row 60 50"));
        edge.answers("fits()", 0);
        edge.on(Edge.with(two, "row 49 60"));
        edge.answers("fits()", 0);
        edge.on(Edge.with(two, "row 50 59"));
        edge.answers("fits()", 0);
    }

    private static String[] alike(int traces, String... more) {
        String[] all = Collections.nCopies(traces, "draw(1, 6, 9)").toArray(new String[0]);
        return Edge.with(all, more);
    }

    private static void fitsNotAsMany(Edge edge) {
        edge.says(23, NOT_AS_MANY);
        edge.on("row 50");
        edge.refused("fits()", -3);
        edge.on("row 0 0 0 0 0 0 0 0 0 0 0 0");
        edge.refused("fits()", -3);
        edge.on(alike(1));
        edge.refused("fits()", -3);
        edge.on(alike(1, "row 50"));
        edge.answers("fits()", 31);
        edge.on(alike(1, "row 50 50"));
        edge.refused("fits()", -3);
        edge.on(alike(6));
        edge.refused("fits()", -3);
        edge.on(alike(6, "row 50 50 50 50 50"));
        edge.refused("fits()", -3);
        edge.on(alike(6, "row 50 50 50 50 50 50"));
        edge.answers("fits()", 31);
        edge.on(alike(6, "row 50 50 50 50 50 51"));
        edge.answers("fits()", 0);
        edge.on(alike(6, "row 50 50 50 50 50 50 50"));
        edge.refused("fits()", -3);
        edge.on(alike(6, "row 50 50 50 50 50 50 50 50 50 50 50 50"));
        edge.refused("fits()", -3);
    }

    private static void fewestIs(Edge edge, int many, int set, String... scene) {
        edge.on(scene);
        edge.answers("fewest(0)", many);
        edge.answers("fewest(1)", set);
    }

    /** TRACE 0: 50 48 53 54 48; TRACE 1: 60 58 60 60 55; behind what else is told. */
    private static String[] both(String... more) {
        return Edge.with(new String[] {"set(3, 1)", "set(4, 1)", "draw(0, 6, 9)", "set(1, 0)", "draw(0, 6, 9)",
            "lay(0, 3, 0, 1)"}, more);
    }

    private static void fewestAnswers(Edge edge) {
        edge.says(24, "FEWEST: how many (what 0), the set (1); -9.");
        fewestIs(edge, -9, -9);
        fewestIs(edge, -9, -9, "set(3, 1)", "set(4, 1)", "draw(0, 6, 9)", "lay(0, 3, 0, 1)");
        fewestIs(edge, 2, 3, both());
    }

    private static void toldApart(Edge edge) {
        edge.terms(24, FEWEST);
        // Five alike tell SWEEPER and CLOSE one not apart; the sixth alone (48 46 51 52 39) tells all.
        fewestIs(edge, 1, 32, "set(3, 1)", "set(4, 1)", "draw(0, 6, 9)", "draw(0, 6, 9)", "draw(0, 6, 9)",
            "draw(0, 6, 9)", "draw(0, 6, 9)", "draw(0, 6, 8)", "lay(0, 2, 0, 1)");
        edge.answersRow("mark(?, 4)", 0, 50, 48, 53, 54, 48);
        edge.answersRow("mark(?, 5)", 0, 48, 46, 51, 52, 39);
        fewestIs(edge, -9, -9, "set(3, 1)", "set(4, 1)", "draw(0, 6, 9)", "draw(0, 6, 9)", "draw(0, 6, 9)",
            "draw(0, 6, 9)", "draw(0, 6, 9)", "draw(1, 6, 8)", "lay(0, 2, 0, 1)", "lay(1, 2, 0, 1)");
    }

    private static void noSuch(Edge edge) {
        edge.terms(24, "(by the MARKS of those together; -9 no such)");
        fewestIs(edge, 2, 3, both());
        fewestIs(edge, -9, -9, both("set(3, 0)"));
        fewestIs(edge, -9, -9, both("set(4, 0)"));
        fewestIs(edge, -9, -9, both("lay(0, 3, 0, 0)"));
        fewestIs(edge, -9, -9, both("sweep()"));
        fewestIs(edge, -9, -9, both("sweep()", "draw(0, 6, 9)"));
    }

    private static void leastSet(Edge edge) {
        edge.terms(24, "how many; the least such set (bits).");
        // By one: TRACES 1 and 3 each tell all apart.
        fewestIs(edge, 1, 2, "set(3, 1)", "set(4, 1)", "draw(0, 6, 8)", "draw(0, 6, 9)", "draw(1, 6, 8)",
            "draw(1, 6, 9)", "lay(0, 2, 0, 1)", "lay(1, 2, 0, 1)");
        // By two: 0 and 1, or 1 and 2, for TRACE 2 (of the right foot) is as TRACE 0.
        fewestIs(edge, 2, 3, both("set(1, 1)", "draw(1, 6, 9)", "lay(1, 3, 0, 1)"));
        // By two: TRACE 0 (0 0 3 4 0) with 2 is less than 1 with 2; if TRACE 0 has 60 by all it tells nothing.
        fewestIs(edge, 2, 5, "set(3, 1)", "set(4, 1)", "draw(1, 9, 1)", "draw(0, 6, 9)", "set(1, 0)", "draw(0, 6, 9)",
            "lay(0, 3, 0, 1)");
        fewestIs(edge, 2, 6, "set(3, 1)", "set(4, 1)", "set(1, 0)", "draw(1, 6, 9)", "set(1, 1)", "draw(0, 6, 9)",
            "set(1, 0)", "draw(0, 6, 9)", "lay(0, 3, 0, 1)");
    }

    private static void fewestOfAnother(Edge edge) {
        edge.says(24, "-2.");
        edge.outside("fewest(?)", 0, 1, -2);
        edge.on(Edge.BUSY);
        edge.outside("fewest(?)", 0, 1, -2);
        edge.on(Edge.FULL);
        edge.outside("fewest(?)", 0, 1, -2);
    }
}
