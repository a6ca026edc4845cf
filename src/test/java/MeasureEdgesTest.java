/** Promises 11, 12, 13, 14, sentence by sentence, at their boundaries: of, mean, close, spread. */
public final class MeasureEdgesTest {
    /**
     * Behind these a line by draw(0, 6, 9) or draw(1, 6, 9) has 40 at each HOUR; an OLD line of 50 makes it
     * 41 there, 60 makes it 42, 30 makes it 39.
     */
    private static final String[] EVEN = {"set(1, 0)", "skater(6, 1)"};

    public static void main(String[] args) {
        Edge edge = new Edge();
        all(edge);
        edge.finish("MeasureEdgesTest");
    }

    static void all(Edge edge) {
        ofAnswers(edge);
        ofNobody(edge);
        ofAnother(edge);
        round(edge);
        gap(edge);
        off(edge);
        wobble(edge);
        wobbleOfSeveral(edge);
        flats(edge);
        meanAnswers(edge);
        leastTerms(edge);
        meanOfNobody(edge);
        meanOfAnother(edge);
        closeAnswers(edge);
        closeOfTwo(edge);
        closeOfNobody(edge);
        spreadAnswers(edge);
        spreadOfFoot(edge);
        spreadOfNobody(edge);
    }

    /** A line of the left foot that is 40 but where OLD lines (HOUR, RADIUS, HOUR, RADIUS ..) lie. */
    private static String[] bent(int... hoursAndOlds) {
        String[] calls = EVEN;
        for (int i = 0; i < hoursAndOlds.length; i += 2) {
            calls = Edge.with(calls, "lay(0, " + hoursAndOlds[i] + ", 1, " + hoursAndOlds[i + 1] + ")");
        }
        return Edge.with(calls, "draw(0, 6, 9)");
    }

    private static void ofAnswers(Edge edge) {
        edge.says(11, "Of a TRACE: foot (what 0), PUSH (1), LEAN (2), ROUND (3), GAP (4), OFF (5), WOBBLE: the HOUR "
            + "(6), how far (7), FLATS (8, bits).");
        edge.on("draw(0, 6, 9)", "lay(0, 11, 0, 1)");
        // 40 39 39 39 38 38 38 37 37 37 36 36: at HOUR 0 80 is 5 from 75.
        edge.answersRow("of(0, ?)", 0, 0, 6, 9, 4, 4, 26, 0, 5, 2048);
        edge.answers("of(0, 0)", 0);
        edge.answers("of(0, 8)", 2048);
        edge.on("set(1, 0)", "draw(0, 1, 1)", "draw(0, 1, 1)", "draw(0, 1, 1)", "draw(0, 1, 1)", "draw(0, 1, 1)",
            "draw(1, 9, 1)");
        edge.answersRow("of(5, ?)", 0, 1, 9, 1, 0, 0, 6000, 0, 0, 0);
        edge.answersRow("of(?, 0)", 0, 0, 0, 0, 0, 0, 1);
    }

    private static void ofNobody(Edge edge) {
        edge.says(11, "-1; -2.", "-1");
        edge.justOutside("of(?, 0)", 0, -1, -1);
        edge.on(Edge.BUSY);
        edge.outside("of(?, 0)", 0, 2, -1);
        edge.outside("of(?, 8)", 0, 2, -1);
        edge.outside("of(?, 9)", 0, 2, -1);
        edge.outside("of(?, -1)", 0, 2, -1);
        edge.on(Edge.FULL);
        edge.outside("of(?, 5)", 0, 5, -1);
    }

    private static void ofAnother(Edge edge) {
        edge.says(11, "-1; -2.", "-2");
        edge.on(Edge.BUSY);
        edge.outside("of(0, ?)", 0, 8, -2);
        edge.outside("of(2, ?)", 0, 8, -2);
    }

    private static void round(Edge edge) {
        edge.terms(11, "Of a TRACE: ROUND: the greatest RADIUS less the least;");
        edge.on(bent());
        edge.answers("of(0, 3)", 0);
        for (int hour = 0; hour < 12; hour++) {
            edge.on(bent(hour, 50));
            edge.answers("of(0, 3)", 1);
            edge.on(bent(hour, 30));
            edge.answers("of(0, 3)", 1);
        }
        edge.on(bent(0, 60, 11, 30));
        edge.answers("of(0, 3)", 3);
        edge.on(bent(5, 60, 6, 30));
        edge.answers("of(0, 3)", 3);
    }

    private static void gap(Edge edge) {
        edge.terms(11, "GAP: how far that of HOUR 11 is from that of HOUR 0;");
        edge.on(bent());
        edge.answers("of(0, 4)", 0);
        edge.on(bent(1, 60, 10, 30));
        edge.answers("of(0, 4)", 0);
        edge.on(bent(0, 50));
        edge.answers("of(0, 4)", 1);
        edge.on(bent(11, 50));
        edge.answers("of(0, 4)", 1);
        edge.on(bent(0, 50, 11, 50));
        edge.answers("of(0, 4)", 0);
        edge.on(bent(0, 30, 11, 60));
        edge.answers("of(0, 4)", 3);
    }

    private static void off(Edge edge) {
        edge.terms(11, "OFF: how far all are from SIZE together;");
        int[] sizes = {40, 41, 39, 10, 99};
        int[] offs = {0, 12, 12, 360, 708};
        for (int i = 0; i < sizes.length; i++) {
            edge.on(Edge.with(bent(), "set(0, " + sizes[i] + ")"));
            edge.answers("of(0, 5)", offs[i]);
        }
        edge.on(bent(0, 50));
        edge.answers("of(0, 5)", 1);
        edge.on(bent(11, 30));
        edge.answers("of(0, 5)", 1);
        edge.on(bent(0, 50, 11, 30));
        edge.answers("of(0, 5)", 2);
    }

    private static void wobbleAt(Edge edge, String[] scene, int hour, int far) {
        edge.on(scene);
        edge.answers("of(0, 6)", hour);
        edge.answers("of(0, 7)", far);
    }

    private static void wobble(Edge edge) {
        edge.terms(11, "WOBBLE: the HOUR (round) where twice its RADIUS is farthest from those beside it together;");
        wobbleAt(edge, bent(0, 50), 0, 2);
        wobbleAt(edge, bent(11, 50), 11, 2);
        wobbleAt(edge, bent(11, 30), 11, 2);
        wobbleAt(edge, bent(1, 30), 1, 2);
        wobbleAt(edge, bent(10, 60), 10, 4);
        // 41 at HOUR 0 and 39 at HOUR 11 beside it (round): 3 off at both, 1 off beside them.
        wobbleAt(edge, bent(0, 50, 11, 30), 0, 3);
        // 41 at HOUR 0, 38 at HOUR 11: 4 off at HOUR 0, 5 off at HOUR 11.
        wobbleAt(edge, bent(0, 50, 11, 20), 11, 5);
    }

    private static void wobbleOfSeveral(Edge edge) {
        edge.terms(11, "of several the least; how far there.");
        wobbleAt(edge, bent(), 0, 0);
        wobbleAt(edge, bent(5, 50, 8, 50), 5, 2);
        wobbleAt(edge, bent(5, 30, 8, 50), 5, 2);
        wobbleAt(edge, bent(0, 50, 6, 50), 0, 2);
        wobbleAt(edge, bent(5, 50, 11, 50), 5, 2);
        wobbleAt(edge, bent(5, 50, 11, 60), 11, 4);
        // 41 at HOURS 10 and 11: 1 off at 9, 10, 11 and 0.
        wobbleAt(edge, bent(10, 50, 11, 50), 0, 1);
    }

    private static void flats(Edge edge) {
        edge.terms(11, "FLATS: HOURS (bits) at which RADIUS is no other than at the HOUR ahead (round) and HARD is "
            + "above 0 there.");
        edge.on(bent());
        edge.answers("of(0, 8)", 0);
        String[] allHard = bent();
        for (int hour = 0; hour < 12; hour++) {
            edge.on(Edge.with(bent(), "lay(0, " + hour + ", 0, 1)"));
            edge.answers("of(0, 8)", 1 << hour);
            edge.on(Edge.with(bent(), "lay(1, " + hour + ", 0, 3)"));
            edge.answers("of(0, 8)", 0);
            allHard = Edge.with(allHard, "lay(0, " + hour + ", 0, 3)");
        }
        edge.on(allHard);
        edge.answers("of(0, 8)", 4095);
        edge.on(Edge.with(allHard, "lay(0, 0, 0, 0)"));
        edge.answers("of(0, 8)", 4094);
        // 41 at HOUR 0 is another than at HOUR 11, and HOUR 1 has another than that.
        edge.on(Edge.with(bent(0, 50), "lay(0, 0, 0, 1)", "lay(0, 1, 0, 1)", "lay(0, 11, 0, 1)"));
        edge.answers("of(0, 8)", 2048);
        edge.on(Edge.with(bent(11, 50), "lay(0, 0, 0, 1)", "lay(0, 1, 0, 1)", "lay(0, 11, 0, 1)"));
        edge.answers("of(0, 8)", 2);
    }

    private static void meanIs(Edge edge, String[] scene, int number, int above, int below) {
        edge.on(scene);
        edge.answers("mean(" + number + ", 0)", above);
        edge.answers("mean(" + number + ", 1)", below);
    }

    private static void meanAnswers(Edge edge) {
        edge.says(12, "MEAN RADIUS; part 0 above, 1 below the line.");
        meanIs(edge, new String[] {"draw(0, 6, 9)"}, 0, 227, 6);
        meanIs(edge, Edge.with(new String[] {"draw(1, 1, 1)", "draw(1, 1, 1)", "draw(1, 1, 1)"}, "draw(1, 1, 1)",
            "draw(1, 1, 1)", "draw(0, 6, 9)"), 5, 227, 6);
    }

    private static void leastTerms(Edge edge) {
        edge.terms(12, "MEAN RADIUS: a fraction in least terms;");
        meanIs(edge, bent(), 0, 40, 1);
        meanIs(edge, bent(11, 50), 0, 481, 12);
        meanIs(edge, bent(11, 60), 0, 241, 6);
        meanIs(edge, bent(11, 70), 0, 161, 4);
        meanIs(edge, bent(11, 80), 0, 121, 3);
        meanIs(edge, bent(11, 90, 0, 50), 0, 81, 2);
        meanIs(edge, bent(11, 30), 0, 479, 12);
        meanIs(edge, new String[] {"set(1, 0)", "draw(0, 9, 1)"}, 0, 540, 1);
        // 6 3 0 ..: 9 by 12; on HARD ice 6 2 0 ..: 8 by 12, below 1 both.
        meanIs(edge, new String[] {"set(1, 9)", "draw(0, 1, 9)"}, 0, 3, 4);
        meanIs(edge, new String[] {"set(1, 9)", "lay(0, 1, 0, 3)", "draw(0, 1, 9)"}, 0, 2, 3);
    }

    private static void meanOfNobody(Edge edge) {
        edge.says(12, "Refused as told: -1; -2.", "Refused as told: -1");
        edge.justOutside("mean(?, 0)", 0, -1, -1);
        edge.on(Edge.BUSY);
        edge.outside("mean(?, 0)", 0, 2, -1);
        edge.outside("mean(?, 1)", 0, 2, -1);
        edge.outside("mean(?, 2)", 0, 2, -1);
        edge.on(Edge.FULL);
        edge.outside("mean(?, -1)", 0, 5, -1);
    }

    private static void meanOfAnother(Edge edge) {
        edge.says(12, "Refused as told: -1; -2.", "-2");
        edge.on(Edge.BUSY);
        edge.outside("mean(0, ?)", 0, 1, -2);
        edge.outside("mean(2, ?)", 0, 1, -2);
    }

    private static void closeAnswers(Edge edge) {
        edge.says(13, "CLOSE.");
        edge.on(Edge.with(bent(), "lay(0, 5, 1, 60)", "draw(0, 6, 9)"));
        edge.answers("close(0, 0)", 0);
        edge.answers("close(1, 1)", 0);
        edge.answers("close(0, 1)", 2);
        edge.answers("close(1, 0)", 2);
    }

    private static void closeOfTwo(Edge edge) {
        edge.terms(13, "CLOSE of two TRACES: how far their RADII are from one another together;");
        edge.on(Edge.with(bent(), "draw(1, 6, 9)"));
        edge.answers("close(0, 1)", 0);
        edge.on(Edge.with(bent(0, 50), "draw(1, 6, 9)"));
        edge.answers("close(0, 1)", 1);
        edge.on(Edge.with(bent(11, 30), "draw(1, 6, 9)"));
        edge.answers("close(0, 1)", 1);
        edge.on(Edge.with(bent(0, 50, 11, 30), "draw(1, 6, 9)"));
        edge.answers("close(0, 1)", 2);
        edge.on("set(1, 0)", "draw(0, 9, 1)", "draw(0, 1, 1)", "draw(0, 1, 1)", "draw(0, 1, 1)", "draw(0, 1, 1)",
            "draw(1, 1, 9)");
        edge.answers("close(0, 5)", 6408);
        edge.answers("close(5, 0)", 6408);
    }

    private static void closeOfNobody(Edge edge) {
        edge.says(13, "-1 either.");
        edge.justOutside("close(?, ?)", 0, -1, -1);
        edge.on(Edge.BUSY);
        edge.outside("close(?, 0)", 0, 2, -1);
        edge.outside("close(2, ?)", 0, 2, -1);
        edge.outside("close(?, ?)", 0, 2, -1);
        edge.on(Edge.FULL);
        edge.outside("close(?, 5)", 0, 5, -1);
        edge.outside("close(5, ?)", 0, 5, -1);
    }

    private static void spreadAnswers(Edge edge) {
        edge.says(14, "SPREAD; -9.");
        edge.answers("spread(0)", -9);
        edge.answers("spread(1)", -9);
        edge.on("set(1, 0)", "draw(1, 1, 1)", "draw(1, 6, 9)");
        edge.answers("spread(0)", -9);
        edge.answers("spread(1)", 240);
    }

    private static void spreadOfFoot(Edge edge) {
        edge.terms(14, "SPREAD of a foot: over all HOURS the greatest less the least RADIUS of its TRACES together; -9 "
            + "it has none.");
        edge.on(bent());
        edge.answers("spread(0)", 0);
        edge.answers("spread(1)", -9);
        edge.on(Edge.with(bent(), "lay(0, 0, 1, 50)", "lay(0, 11, 1, 30)", "draw(0, 6, 9)"));
        edge.answers("spread(0)", 2);
        edge.on(Edge.with(bent(), "draw(0, 6, 9)", "draw(1, 9, 1)"));
        edge.answers("spread(0)", 0);
        edge.answers("spread(1)", 0);
        edge.on("set(1, 0)", "draw(0, 6, 9)", "draw(0, 1, 1)", "draw(0, 9, 1)", "draw(0, 2, 1)", "draw(0, 1, 9)",
            "draw(0, 5, 5)");
        edge.answers("spread(0)", 6408);
        edge.on(Edge.with(bent(), "sweep()"));
        edge.answers("spread(0)", -9);
    }

    private static void spreadOfNobody(Edge edge) {
        edge.says(14, "-1.");
        edge.outside("spread(?)", 0, 1, -1);
        edge.on(Edge.BUSY);
        edge.outside("spread(?)", 0, 1, -1);
    }
}
