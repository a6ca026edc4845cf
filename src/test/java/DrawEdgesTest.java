/** Promises 8, 9, 10, sentence by sentence, at their boundaries: draw by each KIND, sweep, trace. */
public final class DrawEdgesTest {
    private static final String DRAW_REFUSED = "-1 foot; -4 either; -6 either, 6 TRACES.";
    private static final String PACE = "PACE at HOUR 0: 60 times PUSH; at each later HOUR 3 times (RUB and HARD of "
        + "the foot's PATCH at that HOUR) less than ahead; 0 at least.";

    public static void main(String[] args) {
        Edge edge = new Edge();
        all(edge);
        edge.finish("DrawEdgesTest");
    }

    static void all(Edge edge) {
        drawAnswers(edge);
        drawNobody(edge);
        drawBelow(edge);
        drawAbove(edge);
        drawWithoutRoom(edge);
        sixAtMost(edge);
        feetPushesLeans(edge);
        paceOfPush(edge);
        paceRunsOut(edge);
        paceOnHardIce(edge);
        plain(edge);
        freeAndFigure(edge);
        looker(edge);
        centred(edge);
        lagged(edge);
        stiff(edge);
        wobbler(edge);
        astray(edge);
        notBelowNothing(edge);
        sweepAnswers(edge);
        traceAnswers(edge);
        traceOfNobody(edge);
        hourOfNobody(edge);
    }

    /** A TRACE drawn behind the calls of a scene: its RADII (the last of them goes on to HOUR 11). */
    private static void drawn(Edge edge, String[] scene, int number, int foot, int push, int lean, int... radii) {
        edge.on(scene);
        String call = "draw(" + foot + ", " + push + ", " + lean + ")";
        edge.changes(call, number, edge.line(number, foot, push, lean, radii));
    }

    private static String[] calls(String... calls) {
        return calls;
    }

    private static void drawAnswers(Edge edge) {
        edge.says(8, "A TRACE is drawn: its number.");
        String[] scene = {"set(1, 0)"};
        for (int number = 0; number < 6; number++) {
            drawn(edge, scene, number, number % 2, 6, 9, 40);
            scene = Edge.with(scene, "draw(" + number % 2 + ", 6, 9)");
        }
        drawn(edge, Edge.with(scene, "sweep()"), 0, 1, 6, 9, 40);
    }

    private static void drawNobody(Edge edge) {
        edge.says(8, DRAW_REFUSED, "-1 foot");
        edge.outside("draw(?, 1, 1)", 0, 1, -1);
        edge.on(Edge.BUSY);
        edge.outside("draw(?, 1, 9)", 0, 1, -1);
        edge.outside("draw(?, 0, 10)", 0, 1, -1);
        edge.outside("draw(?, MAX, MIN)", 0, 1, -1);
        edge.on(Edge.FULL);
        edge.outside("draw(?, 1, 1)", 0, 1, -1);
    }

    private static void drawBelow(Edge edge) {
        edge.says(8, DRAW_REFUSED, "-4 either");
        edge.on(Edge.BUSY);
        edge.below("draw(0, ?, 1)", 1, -4);
        edge.below("draw(1, 1, ?)", 1, -4);
        edge.below("draw(1, ?, ?)", 1, -4);
        edge.below("draw(0, ?, 10)", 1, -4);
        edge.below("draw(0, MAX, ?)", 1, -4);
        edge.on(Edge.FULL);
        edge.below("draw(0, ?, 9)", 1, -4);
        edge.below("draw(0, 9, ?)", 1, -4);
    }

    private static void drawAbove(Edge edge) {
        edge.says(8, DRAW_REFUSED, "-6 either, 6 TRACES");
        edge.on(Edge.BUSY);
        edge.above("draw(0, ?, 9)", 9, -6);
        edge.above("draw(1, 9, ?)", 9, -6);
        edge.above("draw(1, ?, ?)", 9, -6);
    }

    private static void drawWithoutRoom(Edge edge) {
        edge.says(8, DRAW_REFUSED, "-6 either, 6 TRACES");
        edge.on(Edge.FULL);
        edge.refused("draw(0, 1, 1)", -6);
        edge.refused("draw(1, 9, 9)", -6);
        edge.refused("draw(1, 5, 5)", -6);
        edge.justAbove("draw(1, ?, 9)", 9, -6);
        edge.justAbove("draw(1, 9, ?)", 9, -6);
    }

    private static void sixAtMost(Edge edge) {
        edge.terms(8, "A TRACE (6 at most): a foot (0, 1), PUSH (1 .. 9), LEAN (1 .. 9), a RADIUS at each HOUR");
        String[] five = calls("set(1, 0)", "draw(1, 1, 1)", "draw(1, 1, 1)", "draw(1, 1, 1)", "draw(1, 1, 1)",
            "draw(1, 1, 1)");
        drawn(edge, five, 5, 1, 9, 1, 540);
        edge.on(Edge.with(five, "draw(1, 9, 1)"));
        edge.refused("draw(1, 9, 1)", -6);
        edge.refused("draw(0, 1, 1)", -6);
        edge.on(Edge.with(five, "draw(1, 9, 1)", "sweep()"));
        edge.changes("draw(0, 1, 1)", 0, edge.line(0, 0, 1, 1, 60));
    }

    private static void feetPushesLeans(Edge edge) {
        edge.terms(8, "a foot (0, 1), PUSH (1 .. 9), LEAN (1 .. 9), a RADIUS at each HOUR (0 .. 999).");
        String[] even = calls("set(1, 0)");
        drawn(edge, even, 0, 0, 1, 1, 60);
        drawn(edge, even, 0, 1, 1, 1, 60);
        drawn(edge, even, 0, 0, 9, 1, 540);
        drawn(edge, even, 0, 1, 1, 9, 6);
        drawn(edge, even, 0, 1, 9, 9, 60);
        edge.outside("draw(?, 1, 1)", 0, 1, -1);
        edge.refused("draw(0, 0, 1)", -4);
        edge.refused("draw(0, 1, 0)", -4);
        edge.refused("draw(0, 10, 1)", -6);
        edge.refused("draw(0, 1, 10)", -6);
    }

    private static void paceOfPush(Edge edge) {
        edge.terms(8, PACE);
        for (int push = 1; push <= 9; push++) {
            drawn(edge, calls("set(1, 0)"), 0, 0, push, 1, 60 * push);
        }
        drawn(edge, calls(), 0, 0, 1, 1, 60, 57, 54, 51, 48, 45, 42, 39, 36, 33, 30, 27);
        drawn(edge, calls("set(1, 9)"), 0, 0, 9, 1, 540, 513, 486, 459, 432, 405, 378, 351, 324, 297, 270, 243);
    }

    private static void paceRunsOut(Edge edge) {
        edge.terms(8, PACE);
        // 27 less each HOUR: 6 less 27 is 0.
        drawn(edge, calls("set(1, 9)"), 0, 0, 1, 1, 60, 33, 6, 0);
        // 30 less at HOURS 1 and 2: just 0.
        drawn(edge, calls("set(1, 9)", "lay(0, 1, 0, 1)", "lay(0, 2, 0, 1)"), 0, 0, 1, 1, 60, 30, 0);
        // 30, 27 less: 3 is left, at HOUR 4 nothing.
        drawn(edge, calls("set(1, 9)", "lay(0, 1, 0, 1)"), 0, 0, 1, 1, 60, 30, 3, 0);
        // 6 less each HOUR from 60 on: 0 at HOUR 10, not less at HOUR 11.
        drawn(edge, calls("set(1, 2)"), 0, 0, 1, 1, 60, 54, 48, 42, 36, 30, 24, 18, 12, 6, 0, 0);
    }

    private static void paceOnHardIce(Edge edge) {
        edge.terms(8, PACE);
        // HARD at HOUR 0 takes nothing, at HOUR 11 it does, on the other PATCH it does not.
        drawn(edge, calls("set(1, 0)", "lay(0, 0, 0, 3)"), 0, 0, 1, 1, 60);
        drawn(edge, calls("set(1, 0)", "lay(0, 11, 0, 3)"), 0, 0, 1, 1, 60, 60, 60, 60, 60, 60, 60, 60, 60, 60, 60, 51);
        drawn(edge, calls("set(1, 0)", "lay(0, 11, 0, 1)"), 0, 0, 1, 1, 60, 60, 60, 60, 60, 60, 60, 60, 60, 60, 60, 57);
        drawn(edge, calls("set(1, 0)", "lay(0, 1, 0, 1)"), 0, 0, 1, 1, 60, 57);
        drawn(edge, calls("set(1, 0)", "lay(0, 1, 0, 3)"), 0, 1, 1, 1, 60);
        drawn(edge, calls("set(1, 0)", "lay(1, 1, 0, 3)"), 0, 1, 1, 1, 60, 51);
        String[] hardest = {"set(1, 9)"};
        for (int hour = 0; hour < 12; hour++) {
            hardest = Edge.with(hardest, "lay(1, " + hour + ", 0, 3)");
        }
        drawn(edge, hardest, 0, 1, 9, 1, 540, 504, 468, 432, 396, 360, 324, 288, 252, 216, 180, 144);
        drawn(edge, hardest, 0, 1, 1, 1, 60, 24, 0);
    }

    private static void plain(Edge edge) {
        edge.terms(8, "PLAIN at an HOUR: PACE by LEAN, cut. The RADIUS: FREE PLAIN.");
        int[] ofSixty = {60, 30, 20, 15, 12, 10, 8, 7, 6};
        for (int lean = 1; lean <= 9; lean++) {
            drawn(edge, calls("set(1, 0)"), 0, 0, 1, lean, ofSixty[lean - 1]);
        }
        // 60 57 54 .. by 7: 8 (4 over), 8 (1 over), 7 (5 over), 7, 6 (6 over), 6, 6 (none over), 5 ..
        drawn(edge, calls(), 0, 1, 1, 7, 8, 8, 7, 7, 6, 6, 6, 5, 5, 4, 4, 3);
        drawn(edge, calls(), 0, 0, 9, 9, 60, 59, 59, 59, 58, 58, 58, 57, 57, 57, 56, 56);
    }

    private static void freeAndFigure(Edge edge) {
        edge.terms(8, "The RADIUS: FREE PLAIN.");
        drawn(edge, calls("set(1, 0)", "skater(0, 9)", "lay(0, 9, 1, 99)", "draw(0, 9, 1)"), 1, 0, 6, 9, 40);
    }

    private static void looker(Edge edge) {
        edge.terms(8, "LOOKER a FREE's, and of what the latest TRACE of that foot (if there is one) has at that HOUR "
            + "less that a half, cut (toward 0).");
        drawn(edge, calls("set(1, 0)", "skater(1, 0)"), 0, 0, 6, 9, 40);
        // The latest has 53 (8, 9), 52 (7, 8), 51 (6, 7), 48 (4, 5), 45 (3, 4).
        looked(edge, 8, 9, 8, 9, 53);
        looked(edge, 8, 9, 7, 8, 52);
        looked(edge, 7, 8, 8, 9, 53);
        looked(edge, 8, 9, 6, 7, 52);
        looked(edge, 6, 7, 8, 9, 52);
        looked(edge, 4, 5, 3, 4, 46);
        looked(edge, 3, 4, 4, 5, 47);
        looked(edge, 1, 9, 9, 1, 273);
        looked(edge, 9, 1, 1, 9, 273);
        String[] even = {"set(1, 0)", "skater(1, 0)"};
        // The other foot's is not looked at; the latest of the foot's own is, not the first.
        drawn(edge, Edge.with(even, "draw(1, 9, 1)"), 1, 0, 6, 9, 40);
        drawn(edge, Edge.with(even, "skater(0, 0)", "draw(0, 9, 1)", "draw(0, 1, 1)", "draw(1, 9, 1)",
            "skater(1, 0)"), 3, 0, 6, 9, 50);
        // Swept ones are looked at no more.
        drawn(edge, Edge.with(even, "draw(0, 9, 1)", "sweep()"), 0, 0, 6, 9, 40);
    }

    /** A LOOKER draws even circles behind one by another PUSH and LEAN. */
    private static void looked(Edge edge, int push, int lean, int thenPush, int thenLean, int radius) {
        String first = "draw(1, " + push + ", " + lean + ")";
        drawn(edge, calls("set(1, 0)", "skater(1, 9)", first), 1, 1, thenPush, thenLean, radius);
    }

    private static void centred(Edge edge) {
        edge.terms(8, "CENTRED a FREE's, and a quarter of (SIZE less that), cut (toward 0).");
        int[] sizes = {40, 43, 44, 47, 48, 99, 37, 36, 33, 32, 10};
        int[] radii = {40, 40, 41, 41, 42, 54, 40, 39, 39, 38, 33};
        for (int i = 0; i < sizes.length; i++) {
            drawn(edge, calls("set(1, 0)", "skater(2, 9)", "set(0, " + sizes[i] + ")"), 0, 0, 6, 9, radii[i]);
        }
        // 540 is 441 above 99 and 530 above 10; 6 is 93 below 99.
        drawn(edge, calls("set(1, 0)", "skater(2, 0)", "set(0, 99)"), 0, 0, 9, 1, 430);
        drawn(edge, calls("set(1, 0)", "skater(2, 0)", "set(0, 10)"), 0, 0, 9, 1, 408);
        drawn(edge, calls("set(1, 0)", "skater(2, 0)", "set(0, 99)"), 0, 0, 1, 9, 29);
        // No TRACE and no OLD line is looked at.
        drawn(edge, calls("set(1, 0)", "skater(2, 9)", "lay(0, 5, 1, 99)", "draw(0, 9, 1)"), 1, 0, 6, 9, 40);
    }

    private static void lagged(Edge edge) {
        edge.terms(8, "LAGGED as a LOOKER, but by what that TRACE has at the HOUR ahead (11 for 0).");
        drawn(edge, calls("set(1, 0)", "skater(3, 9)"), 0, 0, 6, 7, 51);
        // Ahead of it 40 and, at HOUR 11, 39: 51 and a half of -11, of -12.
        String[] lower = {"set(1, 0)", "lay(0, 11, 0, 3)", "draw(0, 6, 9)", "lay(0, 11, 0, 0)", "skater(3, 0)"};
        drawn(edge, lower, 1, 0, 6, 7, 45, 46);
        // Ahead of it 40 at HOUR 0 and 39 from HOUR 1 on.
        String[] higher = {"set(1, 0)", "lay(0, 1, 0, 3)", "draw(0, 6, 9)", "lay(0, 1, 0, 0)", "skater(3, 0)"};
        drawn(edge, higher, 1, 0, 6, 7, 45, 46, 45);
        drawn(edge, higher, 1, 1, 6, 7, 51);
        drawn(edge, Edge.with(higher, "skater(1, 0)"), 1, 0, 6, 7, 46, 45);
    }

    private static void stiff(Edge edge) {
        edge.terms(8, "STIFF a FREE's, 1 more at odd HOURS.");
        drawn(edge, calls("set(1, 0)", "skater(4, 9)"), 0, 0, 6, 9, 40, 41, 40, 41, 40, 41, 40, 41, 40, 41, 40, 41);
        drawn(edge, calls("set(1, 9)", "skater(4, 0)"), 0, 1, 1, 9, 6, 4, 0, 1, 0, 1, 0, 1, 0, 1, 0, 1);
        drawn(edge, calls("set(1, 0)", "skater(4, 0)", "draw(0, 1, 9)"), 1, 0, 9, 1, 540, 541, 540, 541, 540, 541,
            540, 541, 540, 541, 540, 541);
    }

    private static void wobbler(Edge edge) {
        edge.terms(8, "WOBBLER a CENTRED's, FIGURE more at HOUR FIGURE, at the one behind it as much less.");
        drawn(edge, calls("set(1, 0)", "skater(5, 0)"), 0, 0, 6, 9, 40);
        drawn(edge, calls("set(1, 0)", "skater(5, 1)"), 0, 0, 6, 9, 40, 41, 39, 40);
        drawn(edge, calls("set(1, 0)", "skater(5, 8)"), 0, 1, 6, 9, 40, 40, 40, 40, 40, 40, 40, 40, 48, 32, 40);
        drawn(edge, calls("set(1, 0)", "skater(5, 9)"), 0, 1, 6, 9, 40, 40, 40, 40, 40, 40, 40, 40, 40, 49, 31, 40);
        // 60 less a quarter of 20 is 55.
        drawn(edge, calls("set(1, 0)", "skater(5, 2)"), 0, 1, 1, 1, 55, 55, 57, 53, 55);
    }

    private static void astray(Edge edge) {
        edge.terms(8, "ASTRAY a LOOKER's, and of the OLD line at that HOUR (if there is one) less that FIGURE tenths, "
            + "cut (toward 0);");
        int[] olds = {40, 49, 50, 59, 60, 99, 31, 30, 21, 20, 1, 0};
        int[] tenths = {40, 40, 41, 41, 42, 45, 40, 39, 39, 38, 37, 40};
        for (int i = 0; i < olds.length; i++) {
            String[] scene = {"set(1, 0)", "skater(6, 1)", "lay(0, 0, 1, " + olds[i] + ")"};
            drawn(edge, scene, 0, 0, 6, 9, tenths[i], 40);
        }
        String[] last = {"set(1, 0)", "lay(0, 11, 1, 99)"};
        drawn(edge, Edge.with(last, "skater(6, 9)"), 0, 0, 6, 9, 40, 40, 40, 40, 40, 40, 40, 40, 40, 40, 40, 93);
        drawn(edge, Edge.with(last, "skater(6, 0)"), 0, 0, 6, 9, 40);
        drawn(edge, Edge.with(last, "skater(6, 9)"), 0, 1, 6, 9, 40);
        // A LOOKER's is 50; 9 tenths of -49 are -44.
        drawn(edge, calls("set(1, 0)", "draw(1, 1, 1)", "skater(6, 9)", "lay(1, 1, 1, 1)"), 1, 1, 6, 9, 50, 6, 50);
    }

    private static void notBelowNothing(Edge edge) {
        edge.terms(8, "0 at least, 999 at most each.");
        // CENTRED: 7 4 2 2 ..; 2 less 2 is just 0, 2 less 3 and 2 less 9 are 0, too.
        String[] slow = {"set(1, 9)", "set(0, 10)"};
        drawn(edge, Edge.with(slow, "skater(5, 1)"), 0, 0, 1, 9, 7, 5, 1, 2);
        drawn(edge, Edge.with(slow, "skater(5, 2)"), 0, 0, 1, 9, 7, 4, 4, 0, 2);
        drawn(edge, Edge.with(slow, "skater(5, 3)"), 0, 0, 1, 9, 7, 4, 2, 5, 0, 2);
        drawn(edge, Edge.with(slow, "skater(5, 9)"), 0, 0, 1, 9, 7, 4, 2, 2, 2, 2, 2, 2, 2, 11, 0, 2);
        // The largest that can be drawn is far below 999, and stands as it is.
        drawn(edge, calls("set(1, 0)", "skater(4, 0)"), 0, 0, 9, 1, 540, 541, 540, 541, 540, 541, 540, 541, 540, 541,
            540, 541);
    }

    private static void sweepAnswers(Edge edge) {
        edge.says(9, "All TRACES are swept: how many there were.");
        edge.changes("sweep()", 0);
        String[] gone = {"count(0)=0"};
        for (int number = 0; number < 6; number++) {
            for (int what = 0; what < 3; what++) {
                gone = Edge.with(gone, "of(" + number + ", " + what + ")=");
            }
            for (int hour = 0; hour < 12; hour++) {
                gone = Edge.with(gone, "trace(" + number + ", " + hour + ")=");
            }
        }
        edge.on("draw(1, 6, 9)");
        edge.changes("sweep()", 1, gone);
        edge.on(Edge.FULL);
        edge.changes("sweep()", 6, Edge.with(gone, "count(1)=0"));
        edge.on(Edge.with(Edge.FULL, "sweep()"));
        edge.changes("sweep()", 0);
        edge.refused("trace(0, 0)", -1);
        edge.answers("spread(0)", -9);
    }

    private static void traceAnswers(Edge edge) {
        edge.says(10, "The RADIUS of a TRACE at an HOUR.");
        edge.on("draw(0, 6, 9)", "draw(1, 1, 1)", "draw(0, 9, 1)", "draw(1, 1, 1)", "draw(1, 1, 1)", "draw(1, 1, 9)");
        edge.answersRow("trace(0, ?)", 0, 40, 39, 39, 39, 38, 38, 38, 37, 37, 37, 36, 36);
        edge.answersRow("trace(5, ?)", 0, 6, 6, 6, 5, 5, 5, 4, 4, 4, 3, 3, 3);
        edge.answersRow("trace(?, 11)", 0, 36, 27, 507, 27, 27, 3);
        edge.answers("trace(2, 0)", 540);
    }

    private static void traceOfNobody(Edge edge) {
        edge.says(10, "-1 either.");
        edge.justOutside("trace(?, 0)", 0, -1, -1);
        edge.on("draw(0, 6, 9)");
        edge.outside("trace(?, 11)", 0, 0, -1);
        edge.on(Edge.BUSY);
        edge.outside("trace(?, 0)", 0, 2, -1);
        edge.on(Edge.FULL);
        edge.outside("trace(?, 11)", 0, 5, -1);
        edge.justOutside("trace(?, 12)", 0, 5, -1);
        edge.justOutside("trace(?, -1)", 0, 5, -1);
    }

    private static void hourOfNobody(Edge edge) {
        edge.says(10, "-1 either.");
        edge.on(Edge.BUSY);
        edge.outside("trace(0, ?)", 0, 11, -1);
        edge.outside("trace(2, ?)", 0, 11, -1);
    }
}
