/** Promises 15 to 19 and 27, sentence by sentence, at their boundaries: what is drawn in mind alone. */
public final class MindEdgesTest {
    private static final String NEXT_REFUSED = "-1 foot, HOUR; -4 either; -6 either.";
    private static final String GROWS = "GROWS: by a KIND (FIGURE as it is), n TRACES more (2 .. 9) of one foot with "
        + "that PUSH, LEAN, each behind the other: whether OFF of the last is more than that of the first of them: "
        + "1, less -1, as much 0.";
    private static final String GROWS_REFUSED = "Refused as told: -1 foot; -2; -4 each; -6 each.";
    private static final String CALM_REFUSED = "-1 foot; -4 each; -6 each.";
    private static final String CORRECT_REFUSED = "-1 foot; -4 either; -6 either.";
    /** Without RUB circles are even: 40 by PUSH 6 and LEAN 9, 45 by 3 and 4, 42 by 5 and 7. */
    private static final String[] EVEN_40 = {"set(1, 0)", "draw(0, 6, 9)"};
    private static final String[] EVEN_45 = {"set(1, 0)", "draw(0, 3, 4)"};

    public static void main(String[] args) {
        Edge edge = new Edge();
        all(edge);
        edge.finish("MindEdgesTest");
    }

    static void all(Edge edge) {
        nextAnswers(edge);
        nextWithSix(edge);
        nextOfNobody(edge);
        nextBelow(edge);
        nextAbove(edge);
        growsAnswers(edge);
        growsByMany(edge);
        growsByOne(edge);
        growsByFigure(edge);
        growsNobody(edge);
        growsAnother(edge);
        growsBelow(edge);
        growsAbove(edge);
        calmAnswers(edge);
        calmKinds(edge);
        calmNobody(edge);
        calmBelow(edge);
        calmAbove(edge);
        closesAnswers(edge);
        leastGap(edge);
        closesNobody(edge);
        correctAnswers(edge);
        correctByQuarters(edge);
        correctNobody(edge);
        correctBelow(edge);
        correctAbove(edge);
        lotAnswers(edge);
        lotByOne(edge);
        lotBelow(edge);
        lotAbove(edge);
    }

    private static void nextAnswers(Edge edge) {
        edge.says(15, "NEXT: OFF (hour -1), its RADIUS at an HOUR.");
        edge.answersRow("next(0, 6, 9, ?)", -1, 26, 40, 39, 39, 39, 38, 38, 38, 37, 37, 37, 36, 36);
        edge.answersRow("next(1, 1, 1, ?)", -1, 112, 60, 57, 54, 51, 48, 45, 42, 39, 36, 33, 30, 27);
        edge.on("set(1, 0)");
        edge.answers("next(0, 9, 1, 0)", 540);
        edge.answers("next(0, 9, 1, 11)", 540);
        edge.answers("next(0, 9, 1, -1)", 6000);
        edge.answers("next(1, 1, 9, -1)", 408);
        edge.answers("next(1, 9, 9, 11)", 60);
        edge.answers("next(1, 6, 9, -1)", 0);
    }

    private static void nextWithSix(Edge edge) {
        edge.terms(15, "IN MIND: NEXT of a foot by PUSH, LEAN: OFF of the TRACE that would be drawn (with 6 TRACES, "
            + "too); its RADIUS at an HOUR.");
        String[] scene = {"set(1, 0)", "skater(1, 0)"};
        edge.on(scene);
        edge.answers("next(0, 6, 9, -1)", 0);
        // Behind 60 each a LOOKER draws 50 with what would be 40.
        for (int traces = 1; traces <= 6; traces++) {
            scene = Edge.with(scene, "draw(0, 1, 1)");
            edge.on(scene);
            edge.answers("next(0, 6, 9, 11)", 50);
            edge.answers("next(0, 6, 9, -1)", 120);
            edge.answers("next(1, 6, 9, -1)", 0);
        }
        edge.on(Edge.FULL);
        edge.answers("count(0)", 6);
        // The latest of the right foot has 289 at HOUR 0 (540 less a half of 503): 60 and a half of 229.
        edge.answers("trace(4, 0)", 289);
        edge.answers("next(1, 9, 9, 0)", 174);
    }

    private static void nextOfNobody(Edge edge) {
        edge.says(15, NEXT_REFUSED, "-1 foot, HOUR");
        edge.outside("next(?, 1, 1, -1)", 0, 1, -1);
        edge.outside("next(0, 1, 1, ?)", -1, 11, -1);
        edge.on(Edge.BUSY);
        edge.outside("next(?, 9, 9, 11)", 0, 1, -1);
        edge.outside("next(1, 9, 9, ?)", -1, 11, -1);
        edge.outside("next(?, 0, 10, 0)", 0, 1, -1);
        edge.outside("next(0, 10, 0, ?)", -1, 11, -1);
        edge.justOutside("next(?, 1, 1, ?)", -1, 11, -1);
    }

    private static void nextBelow(Edge edge) {
        edge.says(15, NEXT_REFUSED, "-4 either");
        edge.on(Edge.BUSY);
        edge.below("next(0, ?, 1, -1)", 1, -4);
        edge.below("next(1, 1, ?, 0)", 1, -4);
        edge.below("next(1, ?, MAX, 11)", 1, -4);
        edge.below("next(1, 10, ?, 11)", 1, -4);
        edge.on(Edge.FULL);
        edge.below("next(0, ?, ?, -1)", 1, -4);
    }

    private static void nextAbove(Edge edge) {
        edge.says(15, NEXT_REFUSED, "-6 either");
        edge.on(Edge.BUSY);
        edge.above("next(0, ?, 9, -1)", 9, -6);
        edge.above("next(1, 9, ?, 0)", 9, -6);
        edge.above("next(1, ?, ?, 11)", 9, -6);
    }

    private static void growsAnswers(Edge edge) {
        edge.says(16, "GROWS.");
        edge.on(EVEN_40);
        // By 42 a LOOKER draws 41, then 42; by 40 always 40.
        edge.answers("grows(0, 5, 7, 1, 2)", 1);
        edge.answers("grows(0, 6, 9, 1, 2)", 0);
        edge.answers("grows(1, 5, 7, 1, 2)", 0);
        edge.on(EVEN_45);
        // By 40 a LOOKER draws 42, 41, then 40.
        edge.answers("grows(0, 6, 9, 1, 2)", -1);
        edge.answers("grows(0, 6, 9, 0, 2)", 0);
        edge.answers("grows(0, 6, 9, 6, 9)", -1);
        edge.answers("grows(0, 1, 1, 0, 2)", 0);
        edge.answers("grows(1, 9, 9, 6, 9)", 0);
    }

    private static void growsByMany(Edge edge) {
        edge.terms(16, GROWS);
        // 42, 41, then 40 from the third on.
        edge.on(Edge.with(EVEN_45, "set(0, 41)"));
        edge.answersRow("grows(0, 6, 9, 1, ?)", 2, -1, 0, 0, 0, 0, 0, 0, 0);
        edge.on(Edge.with(EVEN_45, "set(0, 42)"));
        edge.answersRow("grows(0, 6, 9, 1, ?)", 2, 1, 1, 1, 1, 1, 1, 1, 1);
        // From 540 down to 40: 290, 165, 102, 71, 55, 47, 43, 41, 40: the last is nearest to the SIZE.
        edge.on("set(1, 0)", "draw(0, 9, 1)");
        edge.answersRow("grows(0, 6, 9, 1, ?)", 2, -1, -1, -1, -1, -1, -1, -1, -1);
        edge.refused("grows(0, 6, 9, 1, 1)", -4);
        edge.refused("grows(0, 6, 9, 1, 10)", -6);
        // A line with 44 at HOUR 0 and 40 elsewhere: behind it a LAGGED one has 42 at HOUR 1, then 41 at HOUR 2, then
        // 40 at all. From 41 those are OFF by 12, 11, 12; from 42 by 22, 23, 24.
        for (int foot = 0; foot < 2; foot++) {
            String[] bent = {"set(1, 0)", "skater(6, 1)", "lay(" + foot + ", 0, 1, 80)", "draw(" + foot + ", 6, 9)",
                "lay(" + foot + ", 0, 1, 0)"};
            edge.on(Edge.with(bent, "set(0, 41)"));
            edge.answersRow("grows(" + foot + ", 6, 9, 3, ?)", 2, -1, 0, 0, 0, 0, 0, 0, 0);
            edge.on(Edge.with(bent, "set(0, 42)"));
            edge.answersRow("grows(" + foot + ", 6, 9, 3, ?)", 2, 1, 1, 1, 1, 1, 1, 1, 1);
        }
        // 6 TRACES are no bound for it.
        edge.on(Edge.with(EVEN_45, "draw(1, 1, 1)", "draw(1, 1, 1)", "draw(1, 1, 1)", "draw(1, 1, 1)",
            "draw(1, 1, 1)"));
        edge.answers("grows(0, 6, 9, 1, 9)", -1);
    }

    private static void growsByOne(Edge edge) {
        edge.terms(16, GROWS);
        // A line with 42 at HOUR 0 and 40 elsewhere; behind it a LOOKER has 41 there, then 40.
        String[] bent = {"set(1, 0)", "skater(6, 1)", "lay(0, 0, 1, 60)", "draw(0, 6, 9)", "lay(0, 0, 1, 0)"};
        edge.on(bent);
        edge.answers("grows(0, 6, 9, 1, 2)", -1);
        edge.on(Edge.with(bent, "set(0, 41)"));
        edge.answers("grows(0, 6, 9, 1, 2)", 1);
        edge.on(Edge.with(bent, "draw(0, 6, 9)", "set(0, 41)"));
        edge.answers("grows(0, 6, 9, 1, 2)", 0);
    }

    private static void growsByFigure(Edge edge) {
        edge.terms(16, GROWS);
        // Led astray by 99 at HOUR 0: 45, then 42 and 5, that is 47; without a FIGURE 40 and 40.
        String[] old = {"set(1, 0)", "lay(0, 0, 1, 99)"};
        edge.on(Edge.with(old, "skater(0, 1)"));
        edge.answers("grows(0, 6, 9, 6, 2)", 1);
        edge.answers("grows(0, 6, 9, 0, 2)", 0);
        edge.on(Edge.with(old, "skater(0, 0)"));
        edge.answers("grows(0, 6, 9, 6, 2)", 0);
    }

    private static void growsNobody(Edge edge) {
        edge.says(16, GROWS_REFUSED, "Refused as told: -1 foot");
        edge.outside("grows(?, 1, 1, 0, 2)", 0, 1, -1);
        edge.on(Edge.BUSY);
        edge.outside("grows(?, 9, 9, 6, 9)", 0, 1, -1);
        edge.outside("grows(?, 9, 9, 7, 9)", 0, 1, -1);
        edge.outside("grows(?, 0, 10, 0, 1)", 0, 1, -1);
    }

    private static void growsAnother(Edge edge) {
        edge.says(16, GROWS_REFUSED, "-2");
        edge.on(Edge.BUSY);
        edge.outside("grows(0, 1, 1, ?, 2)", 0, 6, -2);
        edge.outside("grows(1, 9, 9, ?, 9)", 0, 6, -2);
        edge.outside("grows(1, 0, 10, ?, 10)", 0, 6, -2);
        edge.outside("grows(1, 10, 1, ?, 1)", 0, 6, -2);
    }

    private static void growsBelow(Edge edge) {
        edge.says(16, GROWS_REFUSED, "-4 each");
        edge.on(Edge.BUSY);
        edge.below("grows(0, ?, 1, 0, 2)", 1, -4);
        edge.below("grows(0, 1, ?, 0, 2)", 1, -4);
        edge.below("grows(0, 1, 1, 0, ?)", 2, -4);
        edge.below("grows(1, ?, 10, 6, 10)", 1, -4);
        edge.below("grows(1, 10, ?, 6, 10)", 1, -4);
        edge.below("grows(1, MAX, MAX, 6, ?)", 2, -4);
    }

    private static void growsAbove(Edge edge) {
        edge.says(16, GROWS_REFUSED, "-6 each");
        edge.on(Edge.BUSY);
        edge.above("grows(0, ?, 9, 0, 9)", 9, -6);
        edge.above("grows(0, 9, ?, 0, 9)", 9, -6);
        edge.above("grows(0, 9, 9, 0, ?)", 9, -6);
        edge.above("grows(1, ?, ?, 6, ?)", 9, -6);
    }

    private static void calmAnswers(Edge edge) {
        edge.says(17, "CALM (bits).");
        edge.on("set(1, 0)");
        edge.answers("calm(0, 1, 1, 2)", 127);
        edge.answers("calm(1, 9, 9, 9)", 127);
        edge.on(EVEN_40);
        // Those who look (LOOKER 1, LAGGED 3, ASTRAY 6) draw 41, then 42.
        edge.answers("calm(0, 5, 7, 2)", 1 + 4 + 16 + 32);
        edge.answers("calm(0, 5, 7, 9)", 1 + 4 + 16 + 32);
        edge.answers("calm(1, 5, 7, 9)", 127);
    }

    private static void calmKinds(Edge edge) {
        edge.terms(17, "CALM: KINDS (bits) by which it does not grow so.");
        // As much and less are no growth.
        edge.on(EVEN_40);
        edge.answers("calm(0, 6, 9, 2)", 127);
        edge.on(EVEN_45);
        edge.answers("calm(0, 6, 9, 2)", 127);
        edge.on(Edge.with(EVEN_45, "set(0, 42)"));
        edge.answers("calm(0, 6, 9, 2)", 53);
        edge.on(Edge.with(EVEN_45, "set(0, 41)"));
        edge.answers("calm(0, 6, 9, 3)", 127);
        // By the FIGURE as it is: ASTRAY alone grows.
        edge.on("set(1, 0)", "lay(0, 0, 1, 99)", "skater(2, 1)");
        edge.answers("calm(0, 6, 9, 2)", 63);
    }

    private static void calmNobody(Edge edge) {
        edge.says(17, CALM_REFUSED, "-1 foot");
        edge.outside("calm(?, 1, 1, 2)", 0, 1, -1);
        edge.on(Edge.BUSY);
        edge.outside("calm(?, 9, 9, 9)", 0, 1, -1);
        edge.outside("calm(?, 0, 10, 1)", 0, 1, -1);
    }

    private static void calmBelow(Edge edge) {
        edge.says(17, CALM_REFUSED, "-4 each");
        edge.on(Edge.BUSY);
        edge.below("calm(0, ?, 1, 2)", 1, -4);
        edge.below("calm(0, 1, ?, 2)", 1, -4);
        edge.below("calm(0, 1, 1, ?)", 2, -4);
        edge.below("calm(1, ?, 10, 10)", 1, -4);
        edge.below("calm(1, 10, ?, 10)", 1, -4);
        edge.below("calm(1, MAX, MAX, ?)", 2, -4);
    }

    private static void calmAbove(Edge edge) {
        edge.says(17, CALM_REFUSED, "-6 each");
        edge.on(Edge.BUSY);
        edge.above("calm(0, ?, 9, 9)", 9, -6);
        edge.above("calm(0, 9, ?, 9)", 9, -6);
        edge.above("calm(0, 9, 9, ?)", 9, -6);
        edge.above("calm(1, ?, ?, ?)", 9, -6);
    }

    private static void closesAnswers(Edge edge) {
        edge.says(18, "CLOSES.");
        // 46 .. 43 by 79: a GAP of 3 as by 19 and 49, but less OFF than those.
        edge.answers("closes(0)", 79);
        edge.answers("closes(1)", 79);
        edge.on("draw(0, 1, 1)", "draw(0, 1, 1)", "draw(0, 1, 1)", "draw(0, 1, 1)", "draw(0, 1, 1)", "draw(1, 1, 1)");
        edge.answers("closes(1)", 79);
    }

    private static void leastGap(Edge edge) {
        edge.terms(18, "CLOSES: PUSH, LEAN (10 PUSH and LEAN) with which the NEXT of a foot has the least GAP, of "
            + "several the least OFF, then the least number.");
        // Without RUB no circle has a GAP: by 11, 22 .. 99 all are 60.
        int[] sizes = {60, 10, 40, 77, 99, 67};
        int[] strokes = {11, 16, 23, 97, 53, 98};
        for (int i = 0; i < sizes.length; i++) {
            edge.on("set(1, 0)", "set(0, " + sizes[i] + ")");
            edge.answers("closes(0)", strokes[i]);
            edge.answers("closes(1)", strokes[i]);
        }
        // HARD ice takes 3 of the PACE at HOUR 11: no GAP where 3 or more are cut off. Of those 300 by 7 (42, 6 are
        // cut off) is nearest; 120 by 3 (40) would be less OFF, but has a GAP of 1.
        edge.on("set(1, 0)", "lay(1, 11, 0, 1)");
        edge.answers("closes(0)", 23);
        edge.answers("closes(1)", 57);
    }

    private static void closesNobody(Edge edge) {
        edge.says(18, "-1.");
        edge.outside("closes(?)", 0, 1, -1);
        edge.on(Edge.BUSY);
        edge.outside("closes(?)", 0, 1, -1);
    }

    private static void correctAnswers(Edge edge) {
        edge.says(19, "CORRECT: 1, 0.");
        edge.answers("correct(0, 6, 9)", 1);
        edge.on("set(1, 0)");
        edge.answers("correct(0, 6, 9)", 0);
        edge.answers("correct(1, 1, 1)", 1);
        edge.answers("correct(1, 9, 1)", 1);
        edge.answers("correct(0, 1, 9)", 1);
        edge.answers("correct(0, 9, 9)", 1);
    }

    private static void correctByQuarters(Edge edge) {
        edge.terms(19, "CORRECT: whether the NEXT of a foot by CENTRED is less OFF (by told PUSH, LEAN) than by FREE: "
            + "1, 0.");
        int[] sizes = {40, 41, 43, 44, 39, 37, 36};
        int[] corrected = {0, 0, 0, 1, 0, 0, 1};
        for (int i = 0; i < sizes.length; i++) {
            edge.on("set(1, 0)", "skater(5, 9)", "draw(0, 9, 1)", "set(0, " + sizes[i] + ")");
            edge.answers("correct(0, 6, 9)", corrected[i]);
            edge.answers("correct(1, 6, 9)", corrected[i]);
        }
        // 4 away at HOUR 11 alone.
        edge.on("set(1, 0)", "set(0, 43)", "lay(0, 11, 0, 3)");
        edge.answers("correct(0, 6, 9)", 1);
        edge.answers("correct(1, 6, 9)", 0);
    }

    private static void correctNobody(Edge edge) {
        edge.says(19, CORRECT_REFUSED, "-1 foot");
        edge.outside("correct(?, 1, 1)", 0, 1, -1);
        edge.on(Edge.BUSY);
        edge.outside("correct(?, 9, 9)", 0, 1, -1);
        edge.outside("correct(?, 0, 10)", 0, 1, -1);
    }

    private static void correctBelow(Edge edge) {
        edge.says(19, CORRECT_REFUSED, "-4 either");
        edge.on(Edge.BUSY);
        edge.below("correct(0, ?, 1)", 1, -4);
        edge.below("correct(1, 1, ?)", 1, -4);
        edge.below("correct(1, ?, 10)", 1, -4);
        edge.below("correct(0, MAX, ?)", 1, -4);
    }

    private static void correctAbove(Edge edge) {
        edge.says(19, CORRECT_REFUSED, "-6 either");
        edge.on(Edge.BUSY);
        edge.above("correct(0, ?, 9)", 9, -6);
        edge.above("correct(1, 9, ?)", 9, -6);
        edge.above("correct(1, ?, ?)", 9, -6);
    }

    private static void lotAnswers(Edge edge) {
        edge.says(27, "LOT.");
        edge.answers("lot(6, 9)", 2);
        edge.answers("lot(1, 1)", 2);
        edge.answers("lot(9, 9)", 2);
        edge.on("lay(0, 1, 0, 3)");
        edge.answers("lot(6, 9)", 1);
        edge.answers("lot(9, 1)", 0);
        edge.on("lay(1, 1, 0, 3)");
        edge.answers("lot(6, 9)", 0);
        edge.answers("lot(9, 1)", 1);
    }

    private static void lotByOne(Edge edge) {
        edge.terms(27, "PATCHES by LOT: the PATCH on which the NEXT (foot as its number) by PUSH, LEAN is less OFF; 2 "
            + "alike.");
        // 39 instead of 40 at HOUR 11 alone; HARD at HOUR 0 takes nothing.
        edge.on("set(1, 0)", "lay(0, 11, 0, 1)");
        edge.answers("lot(6, 9)", 1);
        edge.on("set(1, 0)", "lay(1, 11, 0, 1)");
        edge.answers("lot(6, 9)", 0);
        edge.on("set(1, 0)", "lay(1, 0, 0, 3)");
        edge.answers("lot(6, 9)", 2);
        edge.on("set(1, 0)", "lay(1, 11, 0, 2)", "lay(0, 11, 0, 2)");
        edge.answers("lot(6, 9)", 2);
        // A LOOKER's is led by what the foot has drawn.
        edge.on("set(1, 0)", "draw(0, 1, 1)", "skater(1, 0)");
        edge.answers("lot(6, 9)", 1);
        edge.on(Edge.FULL);
        edge.answers("count(0)", 6);
        edge.answers("lot(1, 1)", 0);
    }

    private static void lotBelow(Edge edge) {
        edge.says(27, "-4 either; -6 either.", "-4 either");
        edge.on(Edge.BUSY);
        edge.below("lot(?, 1)", 1, -4);
        edge.below("lot(1, ?)", 1, -4);
        edge.below("lot(?, 10)", 1, -4);
        edge.below("lot(MAX, ?)", 1, -4);
    }

    private static void lotAbove(Edge edge) {
        edge.says(27, "-4 either; -6 either.", "-6 either");
        edge.on(Edge.BUSY);
        edge.above("lot(?, 9)", 9, -6);
        edge.above("lot(9, ?)", 9, -6);
        edge.above("lot(?, ?)", 9, -6);
    }
}
