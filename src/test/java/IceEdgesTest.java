/** Promises 1, 4, 5, 6, 7, sentence by sentence, at their boundaries: a new object, ice, lay, set, skater. */
public final class IceEdgesTest {
    private static final int[] SETTING_LEAST = {10, 0, 0, 0, 0};
    private static final int[] SETTING_MOST = {99, 9, 100, 9, 9};
    private static final int[] SETTING_FIRST = {40, 1, 60, 0, 0};
    private static final String LAY_REFUSED = "-1 either; -2; -4; -6 (3; 99).";

    public static void main(String[] args) {
        Edge edge = new Edge();
        all(edge);
        edge.finish("IceEdgesTest");
    }

    static void all(Edge edge) {
        aNewObject(edge);
        cleanAtFirst(edge);
        settingsAtFirst(edge);
        skaterAtFirst(edge);
        iceAnswers(edge);
        hoursRound(edge);
        patches(edge);
        iceOfNobody(edge);
        iceOfAnother(edge);
        layAnswers(edge);
        laidRanges(edge);
        layNobody(edge);
        layAnother(edge);
        layBelow(edge);
        layAbove(edge);
        setAnswers(edge);
        settingRanges(edge);
        setNobody(edge);
        setBelow(edge);
        setAbove(edge);
        skaterAnswers(edge);
        kindsAndFigures(edge);
        skaterAnother(edge);
        skaterBelow(edge);
        skaterAbove(edge);
    }

    private static void aNewObject(Edge edge) {
        edge.says(1, "Clean ice, a FREE skater, no TRACES.");
        edge.answersRow("count(?)", 0, 0, 0, 0, 0, 0, 0, 0, 0);
        edge.answersRow("count(?)", 11, 0, 0, 0, 0, 0, 0);
        edge.refused("trace(0, 0)", -1);
        edge.refused("restore()", -3);
        edge.changes("draw(0, 6, 9)", 0, edge.line(0, 0, 6, 9, 40, 39, 39, 39, 38, 38, 38, 37, 37, 37, 36, 36));
    }

    private static void cleanAtFirst(Edge edge) {
        edge.terms(1, "HARD (0 .. 3; 0 at first), an OLD line (a RADIUS 1 .. 99, 0 none; 0 at first).");
        for (int patch = 0; patch < 2; patch++) {
            for (int what = 0; what < 2; what++) {
                edge.answersRow("ice(" + patch + ", ?, " + what + ")", 0, new long[12]);
            }
        }
    }

    private static void settingsAtFirst(Edge edge) {
        edge.terms(1, "SETTINGS: 0 SIZE (10 .. 99 inches: the RADIUS that is wanted; 40), 1 RUB (0 .. 9; 1), "
            + "2 WEIGHT (0 .. 100: hundredths that figures count; 60), 3 NAME (0 .. 9; 0), 4 ORDER (0 .. 9; 0).");
        edge.answersRow("count(?)", 20, 40, 1, 60, 0, 0);
    }

    private static void skaterAtFirst(Edge edge) {
        edge.terms(1, "with a FIGURE (0 .. 9) (0 and 0 at first).");
        edge.answers("count(2)", 0);
        edge.answers("count(3)", 0);
        edge.changes("skater(0, 0)", 0);
    }

    private static void iceAnswers(Edge edge) {
        edge.says(4, "Of a PATCH at an HOUR: HARD (what 0), OLD (1).");
        edge.on("lay(0, 0, 0, 1)", "lay(0, 11, 0, 2)", "lay(1, 0, 0, 3)", "lay(1, 11, 0, 1)",
            "lay(0, 0, 1, 1)", "lay(0, 11, 1, 20)", "lay(1, 0, 1, 30)", "lay(1, 11, 1, 99)");
        edge.answersRow("ice(0, ?, 0)", 0, 1, 0, 0, 0, 0, 0, 0, 0, 0, 0, 0, 2);
        edge.answersRow("ice(1, ?, 0)", 0, 3, 0, 0, 0, 0, 0, 0, 0, 0, 0, 0, 1);
        edge.answersRow("ice(0, ?, 1)", 0, 1, 0, 0, 0, 0, 0, 0, 0, 0, 0, 0, 20);
        edge.answersRow("ice(1, ?, 1)", 0, 30, 0, 0, 0, 0, 0, 0, 0, 0, 0, 0, 99);
        edge.answers("ice(1, 11, 1)", 99);
    }

    private static void hoursRound(Edge edge) {
        edge.terms(4, "HOURS 0 .. 11 round a circle.");
        edge.on(Edge.with(Edge.BUSY, "lay(1, 0, 0, 1)", "lay(1, 11, 0, 3)"));
        edge.answers("ice(1, 0, 0)", 1);
        edge.answers("ice(1, 11, 0)", 3);
        edge.outside("ice(1, ?, 0)", 0, 11, -1);
        edge.outside("lay(1, ?, 0, 0)", 0, 11, -1);
        edge.outside("trace(0, ?)", 0, 11, -1);
        edge.outside("from(?, 0, 0)", 0, 11, -1);
    }

    private static void patches(Edge edge) {
        edge.terms(4, "ICE at each HOUR of a PATCH (0, 1: for the left foot 0, the right foot 1):");
        edge.on("lay(0, 1, 0, 3)");
        // 360, 348, 345 .. by 9 on PATCH 0, 360, 357, 354 .. by 9 on PATCH 1
        edge.answersRow("next(0, 6, 9, ?)", 0, 40, 38, 38, 38, 37, 37, 37, 36, 36, 36, 35, 35);
        edge.answersRow("next(1, 6, 9, ?)", 0, 40, 39, 39, 39, 38, 38, 38, 37, 37, 37, 36, 36);
        edge.answers("ice(0, 1, 0)", 3);
        edge.answers("ice(1, 1, 0)", 0);
        edge.outside("ice(?, 1, 0)", 0, 1, -1);
    }

    private static void iceOfNobody(Edge edge) {
        edge.says(4, "-1 either; -2.", "-1 either");
        edge.on(Edge.BUSY);
        edge.outside("ice(?, 0, 0)", 0, 1, -1);
        edge.outside("ice(?, 11, 1)", 0, 1, -1);
        edge.outside("ice(0, ?, 1)", 0, 11, -1);
        edge.outside("ice(1, ?, 0)", 0, 11, -1);
        edge.justOutside("ice(?, ?, 0)", 0, 11, -1);
        edge.outside("ice(?, 0, 2)", 0, 1, -1);
        edge.outside("ice(0, ?, -1)", 0, 11, -1);
    }

    private static void iceOfAnother(Edge edge) {
        edge.says(4, "-1 either; -2.", "-2");
        edge.on(Edge.BUSY);
        edge.outside("ice(0, 0, ?)", 0, 1, -2);
        edge.outside("ice(1, 11, ?)", 0, 1, -2);
    }

    private static void layAnswers(Edge edge) {
        edge.says(5, "HARD (what 0), OLD (1) becomes v: what it was.");
        edge.changes("lay(0, 0, 0, 3)", 0, "ice(0, 0, 0)=3", "count(4)=3");
        edge.changes("lay(1, 11, 0, 1)", 0, "ice(1, 11, 0)=1", "count(4)=1");
        edge.changes("lay(0, 11, 1, 99)", 0, "ice(0, 11, 1)=99", "count(5)=1");
        edge.changes("lay(1, 0, 1, 1)", 0, "ice(1, 0, 1)=1", "count(5)=1");
        edge.on(Edge.BUSY);
        edge.changes("lay(0, 3, 0, 0)", 2, "ice(0, 3, 0)=0", "count(4)=0");
        edge.changes("lay(0, 3, 0, 3)", 2, "ice(0, 3, 0)=3", "count(4)=3");
        edge.changes("lay(1, 7, 1, 99)", 61, "ice(1, 7, 1)=99");
        edge.changes("lay(1, 7, 1, 0)", 61, "ice(1, 7, 1)=0", "count(5)=1");
        edge.changes("lay(1, 7, 1, 61)", 61);
    }

    private static void laidRanges(Edge edge) {
        edge.terms(5, "HARD (0 .. 3; 0 at first), an OLD line (a RADIUS 1 .. 99, 0 none; 0 at first).");
        edge.on("lay(1, 5, 0, 3)", "lay(1, 5, 1, 99)");
        edge.changes("lay(1, 5, 0, 0)", 3, "ice(1, 5, 0)=0", "count(4)=0");
        edge.changes("lay(1, 5, 0, 3)", 3);
        edge.refused("lay(1, 5, 0, -1)", -4);
        edge.refused("lay(1, 5, 0, 4)", -6);
        edge.changes("lay(1, 5, 1, 1)", 99, "ice(1, 5, 1)=1");
        edge.changes("lay(1, 5, 1, 0)", 99, "ice(1, 5, 1)=0", "count(5)=0");
        edge.refused("lay(1, 5, 1, -1)", -4);
        edge.refused("lay(1, 5, 1, 100)", -6);
    }

    private static void layNobody(Edge edge) {
        edge.says(5, LAY_REFUSED, "-1 either");
        edge.on(Edge.BUSY);
        edge.outside("lay(?, 0, 0, 1)", 0, 1, -1);
        edge.outside("lay(?, 11, 1, 1)", 0, 1, -1);
        edge.outside("lay(0, ?, 0, 1)", 0, 11, -1);
        edge.outside("lay(1, ?, 1, 1)", 0, 11, -1);
        edge.justOutside("lay(?, ?, 1, 1)", 0, 11, -1);
        edge.outside("lay(?, 0, 2, -1)", 0, 1, -1);
        edge.outside("lay(0, ?, -1, 100)", 0, 11, -1);
    }

    private static void layAnother(Edge edge) {
        edge.says(5, LAY_REFUSED, "-2");
        edge.on(Edge.BUSY);
        edge.outside("lay(0, 3, ?, 1)", 0, 1, -2);
        edge.outside("lay(1, 11, ?, -1)", 0, 1, -2);
        edge.outside("lay(1, 7, ?, MAX)", 0, 1, -2);
    }

    private static void layBelow(Edge edge) {
        edge.says(5, LAY_REFUSED, "-4");
        edge.on(Edge.BUSY);
        edge.below("lay(0, 3, 0, ?)", 0, -4);
        edge.below("lay(1, 11, 0, ?)", 0, -4);
        edge.below("lay(1, 7, 1, ?)", 0, -4);
        edge.below("lay(0, 0, 1, ?)", 0, -4);
        edge.changes("lay(0, 3, 0, 0)", 2, "ice(0, 3, 0)=0", "count(4)=0");
        edge.changes("lay(0, 3, 1, 0)", 0);
    }

    private static void layAbove(Edge edge) {
        edge.says(5, LAY_REFUSED, "-6 (3; 99)");
        edge.on(Edge.BUSY);
        edge.above("lay(0, 3, 0, ?)", 3, -6);
        edge.above("lay(1, 11, 0, ?)", 3, -6);
        edge.refused("lay(0, 0, 0, 99)", -6);
        edge.above("lay(1, 7, 1, ?)", 99, -6);
        edge.above("lay(0, 0, 1, ?)", 99, -6);
        edge.changes("lay(1, 11, 0, 3)", 0, "ice(1, 11, 0)=3", "count(4)=5");
        edge.changes("lay(1, 11, 1, 99)", 0, "ice(1, 11, 1)=99", "count(5)=3");
    }

    private static void setAnswers(Edge edge) {
        edge.says(6, "A SETTING: what it was.");
        for (int setting = 0; setting < 5; setting++) {
            String call = "set(" + setting + ", ";
            String count = "count(" + (20 + setting) + ")=";
            edge.on();
            edge.changes(call + SETTING_LEAST[setting] + ")", SETTING_FIRST[setting],
                count + SETTING_LEAST[setting]);
            edge.changes(call + SETTING_MOST[setting] + ")", SETTING_FIRST[setting],
                count + SETTING_MOST[setting]);
            edge.on(call + SETTING_MOST[setting] + ")");
            edge.changes(call + SETTING_LEAST[setting] + ")", SETTING_MOST[setting],
                count + SETTING_LEAST[setting]);
        }
    }

    private static void settingRanges(Edge edge) {
        edge.terms(6, "SETTINGS: 0 SIZE (10 .. 99 inches: the RADIUS that is wanted; 40), 1 RUB (0 .. 9; 1), "
            + "2 WEIGHT (0 .. 100: hundredths that figures count; 60), 3 NAME (0 .. 9; 0), 4 ORDER (0 .. 9; 0).");
        edge.on(Edge.BUSY);
        edge.changes("set(0, 10)", 45, "count(20)=10");
        edge.changes("set(0, 99)", 45, "count(20)=99");
        edge.refused("set(0, 9)", -4);
        edge.refused("set(0, 100)", -6);
        edge.changes("set(1, 0)", 2, "count(21)=0");
        edge.changes("set(1, 9)", 2, "count(21)=9");
        edge.refused("set(1, -1)", -4);
        edge.refused("set(1, 10)", -6);
        edge.changes("set(2, 0)", 60, "count(22)=0");
        edge.changes("set(2, 100)", 60, "count(22)=100");
        edge.refused("set(2, -1)", -4);
        edge.refused("set(2, 101)", -6);
        edge.changes("set(3, 0)", 2, "count(23)=0");
        edge.changes("set(3, 9)", 2, "count(23)=9");
        edge.refused("set(3, -1)", -4);
        edge.refused("set(3, 10)", -6);
        edge.changes("set(4, 0)", 1, "count(24)=0");
        edge.changes("set(4, 9)", 1, "count(24)=9");
        edge.refused("set(4, -1)", -4);
        edge.refused("set(4, 10)", -6);
    }

    private static void setNobody(Edge edge) {
        edge.says(6, "-1; -4; -6.", "-1");
        edge.on(Edge.BUSY);
        edge.outside("set(?, 9)", 0, 4, -1);
        edge.outside("set(?, MIN)", 0, 4, -1);
        edge.outside("set(?, MAX)", 0, 4, -1);
    }

    private static void setBelow(Edge edge) {
        edge.says(6, "-1; -4; -6.", "-4");
        edge.on(Edge.BUSY);
        for (int setting = 0; setting < 5; setting++) {
            edge.below("set(" + setting + ", ?)", SETTING_LEAST[setting], -4);
        }
        edge.refused("set(0, 0)", -4);
    }

    private static void setAbove(Edge edge) {
        edge.says(6, "-1; -4; -6.", "-6");
        edge.on(Edge.BUSY);
        for (int setting = 0; setting < 5; setting++) {
            edge.above("set(" + setting + ", ?)", SETTING_MOST[setting], -6);
        }
    }

    private static void skaterAnswers(Edge edge) {
        edge.says(7, "The SKATER: 10 times the KIND and the FIGURE it had.");
        edge.changes("skater(6, 9)", 0, "count(2)=6", "count(3)=9");
        edge.on("skater(6, 9)");
        edge.changes("skater(0, 0)", 69, "count(2)=0", "count(3)=0");
        edge.changes("skater(6, 0)", 69, "count(3)=0");
        edge.changes("skater(0, 9)", 69, "count(2)=0");
        edge.on("skater(0, 9)");
        edge.changes("skater(1, 1)", 9, "count(2)=1", "count(3)=1");
        edge.on("skater(6, 0)");
        edge.changes("skater(6, 0)", 60);
    }

    private static void kindsAndFigures(Edge edge) {
        edge.terms(7, "A SKATER of KINDS: 0 FREE; 1 LOOKER under FREE; 2 CENTRED under FREE; 3 LAGGED under "
            + "LOOKER; 4 STIFF under FREE; 5 WOBBLER under CENTRED; 6 ASTRAY under LOOKER: with a FIGURE (0 .. 9) "
            + "(0 and 0 at first).");
        edge.on(Edge.BUSY);
        for (int kind = 0; kind <= 6; kind++) {
            edge.changes("skater(" + kind + ", 0)", 63, "count(2)=" + kind, "count(3)=0");
            edge.changes("skater(" + kind + ", 9)", 63, "count(2)=" + kind, "count(3)=9");
            edge.refused("skater(" + kind + ", -1)", -4);
            edge.refused("skater(" + kind + ", 10)", -6);
        }
        edge.refused("skater(-1, 3)", -2);
        edge.refused("skater(7, 3)", -2);
    }

    private static void skaterAnother(Edge edge) {
        edge.says(7, "-2; -4; -6 9.", "-2");
        edge.on(Edge.BUSY);
        edge.outside("skater(?, 0)", 0, 6, -2);
        edge.outside("skater(?, -1)", 0, 6, -2);
        edge.outside("skater(?, 10)", 0, 6, -2);
    }

    private static void skaterBelow(Edge edge) {
        edge.says(7, "-2; -4; -6 9.", "-4");
        edge.on(Edge.BUSY);
        edge.below("skater(0, ?)", 0, -4);
        edge.below("skater(6, ?)", 0, -4);
    }

    private static void skaterAbove(Edge edge) {
        edge.says(7, "-2; -4; -6 9.", "-6 9");
        edge.on(Edge.BUSY);
        edge.above("skater(0, ?)", 9, -6);
        edge.above("skater(6, ?)", 9, -6);
    }
}
