/** Promises 20, 21, 28, 29, 30, sentence by sentence, at their boundaries: from, whose, row, judge, clear. */
public final class RowEdgesTest {
    private static final String FROM_REFUSED = "Refused as told: -1; -2 either.";
    private static final String PARTS = "How many of all TRACES WOBBLE there (n), of foot 0 (a), of foot 1 (b); parts: "
        + "BODY n, if both feet do, else 0; ICE 3 times HARD of both PATCHES there; LINE 2 for each PATCH with an OLD "
        + "line there: what 0 .. 2: that part of all three together: a fraction (0 by 1, if all are 0).";
    private static final String WHOSE_REFUSED = "-1 foot; -2; -3 the ROW has not 12.";
    /** As BUSY, but with a ROW of 12: the RADII of TRACE 0. */
    private static final String[] TWELVE = Edge.with(Edge.BUSY, "row 50 50 49 49 49 48 48 48 47");

    public static void main(String[] args) {
        Edge edge = new Edge();
        all(edge);
        edge.finish("RowEdgesTest");
    }

    static void all(Edge edge) {
        fromAnswers(edge);
        fourOrMore(edge);
        roundTheCircle(edge);
        bodyOfBothFeet(edge);
        iceAndLine(edge);
        allNothing(edge);
        fromNobody(edge);
        fromAnother(edge);
        whoseAnswers(edge);
        whoseKinds(edge);
        above99(edge);
        leastOfAKind(edge);
        whoseNobody(edge);
        whoseAnother(edge);
        whoseNotTwelve(edge);
        rowAnswers(edge);
        rowNumbers(edge);
        rowBelow(edge);
        rowAbove(edge);
        rowFull(edge);
        judgeAnswers(edge);
        firstNotSo(edge);
        judgeLarge(edge);
        judgeNobody(edge);
        clearAnswers(edge);
    }

    /** A line of 40 by each foot but where OLD lines (HOUR, RADIUS ..) lay, which are gone then. */
    private static String[] bent(int... hoursAndOlds) {
        String[] calls = {"set(1, 0)", "skater(6, 1)"};
        String[] gone = {"draw(0, 6, 9)", "draw(1, 6, 9)"};
        for (int i = 0; i < hoursAndOlds.length; i += 2) {
            for (int patch = 0; patch < 2; patch++) {
                String lay = "lay(" + patch + ", " + hoursAndOlds[i] + ", 1, ";
                calls = Edge.with(calls, lay + hoursAndOlds[i + 1] + ")");
                gone = Edge.with(gone, lay + "0)");
            }
        }
        return Edge.with(calls, gone);
    }

    /** Lines of 42 at HOUR 2 and 38 at HOUR 3, 40 elsewhere, by these feet. */
    private static String[] wobblers(int... feet) {
        String[] calls = {"set(1, 0)", "skater(5, 2)"};
        for (int foot : feet) {
            calls = Edge.with(calls, "draw(" + foot + ", 6, 9)");
        }
        return calls;
    }

    private static void fraction(Edge edge, int hour, int what, int above, int below) {
        edge.answers("from(" + hour + ", " + what + ", 0)", above);
        edge.answers("from(" + hour + ", " + what + ", 1)", below);
    }

    private static void fromAnswers(Edge edge) {
        edge.says(20, "FROM: BODY (what 0), ICE (1), LINE (2); part likewise.");
        edge.on(Edge.with(wobblers(0, 1, 1), "lay(0, 2, 0, 1)", "lay(1, 2, 0, 3)", "lay(1, 2, 1, 1)"));
        // 3, 12 and 2 of 17
        fraction(edge, 2, 0, 3, 17);
        fraction(edge, 2, 1, 12, 17);
        fraction(edge, 2, 2, 2, 17);
        fraction(edge, 0, 0, 0, 1);
        fraction(edge, 11, 2, 0, 1);
    }

    private static void fourOrMore(Edge edge) {
        edge.terms(20, "FROM: of a told HOUR: a TRACE WOBBLES there, if twice its RADIUS is 4 or more from those beside "
            + "it together.");
        // 42 between 40 and 40: 4; between 40 and 41: 3; between 40 and 39: 5; 38 and 41 likewise.
        edge.on(bent(5, 60));
        fraction(edge, 5, 0, 1, 1);
        fraction(edge, 4, 0, 0, 1);
        fraction(edge, 6, 0, 0, 1);
        edge.on(bent(5, 60, 6, 50));
        fraction(edge, 5, 0, 0, 1);
        edge.on(bent(5, 60, 6, 30));
        fraction(edge, 5, 0, 1, 1);
        edge.on(bent(5, 20));
        fraction(edge, 5, 0, 1, 1);
        edge.on(bent(5, 20, 4, 30));
        fraction(edge, 5, 0, 0, 1);
        edge.on(bent(5, 50));
        fraction(edge, 5, 0, 0, 1);
    }

    private static void roundTheCircle(Edge edge) {
        edge.terms(20, "a TRACE WOBBLES there, if twice its RADIUS is 4 or more from those beside it together.");
        edge.on(bent(0, 60));
        fraction(edge, 0, 0, 1, 1);
        fraction(edge, 11, 0, 0, 1);
        edge.on(bent(11, 60));
        fraction(edge, 11, 0, 1, 1);
        fraction(edge, 0, 0, 0, 1);
        edge.on(bent(0, 60, 11, 50));
        fraction(edge, 0, 0, 0, 1);
        edge.on(bent(11, 60, 0, 50));
        fraction(edge, 11, 0, 0, 1);
        edge.on(bent(11, 60, 10, 50));
        fraction(edge, 11, 0, 0, 1);
    }

    private static void bodyOfBothFeet(Edge edge) {
        edge.terms(20, PARTS);
        int[][] feet = {{0}, {1}, {0, 0, 0, 0, 0, 0}, {1, 1}, {0, 1}, {1, 0, 0}, {0, 0, 0, 0, 0, 1}};
        int[] bodies = {0, 0, 0, 0, 2, 3, 6};
        for (int i = 0; i < feet.length; i++) {
            // LINE is 2
            edge.on(Edge.with(wobblers(feet[i]), "lay(0, 3, 1, 99)"));
            int common = bodies[i] % 2 == 0 ? 2 : 1;
            fraction(edge, 3, 0, bodies[i] / common, (bodies[i] + 2) / common);
            fraction(edge, 3, 2, 2 / common, (bodies[i] + 2) / common);
        }
        // One of the right foot that does not wobble is not of n.
        edge.on(Edge.with(wobblers(0, 0, 1), "skater(0, 0)", "draw(1, 6, 9)", "lay(0, 3, 0, 1)"));
        fraction(edge, 3, 0, 1, 2);
        edge.on(Edge.with(wobblers(0, 0), "skater(0, 0)", "draw(1, 6, 9)"));
        fraction(edge, 3, 0, 0, 1);
    }

    private static void iceAndLine(Edge edge) {
        edge.terms(20, PARTS);
        edge.on("lay(0, 0, 0, 1)");
        fraction(edge, 0, 1, 1, 1);
        fraction(edge, 0, 2, 0, 1);
        edge.on("lay(0, 0, 0, 1)", "lay(1, 0, 1, 1)");
        fraction(edge, 0, 1, 3, 5);
        fraction(edge, 0, 2, 2, 5);
        edge.on("lay(1, 0, 0, 1)", "lay(0, 0, 1, 1)");
        fraction(edge, 0, 1, 3, 5);
        fraction(edge, 0, 2, 2, 5);
        edge.on("lay(1, 11, 0, 1)", "lay(0, 11, 1, 99)", "lay(1, 11, 1, 99)");
        fraction(edge, 11, 1, 3, 7);
        fraction(edge, 11, 2, 4, 7);
        // All that there can be: 6, 18 and 4 of 28
        edge.on(Edge.with(wobblers(0, 1, 0, 1, 0, 1), "lay(0, 2, 0, 3)", "lay(1, 2, 0, 3)", "lay(0, 2, 1, 99)",
            "lay(1, 2, 1, 1)"));
        fraction(edge, 2, 0, 3, 14);
        fraction(edge, 2, 1, 9, 14);
        fraction(edge, 2, 2, 1, 7);
    }

    private static void allNothing(Edge edge) {
        edge.terms(20, "a fraction (0 by 1, if all are 0).");
        for (int what = 0; what <= 2; what++) {
            edge.on();
            fraction(edge, 0, what, 0, 1);
            fraction(edge, 11, what, 0, 1);
            edge.on("lay(0, 5, 0, 3)", "lay(1, 7, 1, 5)", "draw(0, 6, 9)");
            fraction(edge, 6, what, 0, 1);
        }
    }

    private static void fromNobody(Edge edge) {
        edge.says(20, FROM_REFUSED, "Refused as told: -1");
        edge.outside("from(?, 0, 0)", 0, 11, -1);
        edge.on(Edge.BUSY);
        edge.outside("from(?, 2, 1)", 0, 11, -1);
        edge.outside("from(?, 3, 0)", 0, 11, -1);
        edge.outside("from(?, 0, 2)", 0, 11, -1);
        edge.outside("from(?, -1, -1)", 0, 11, -1);
    }

    private static void fromAnother(Edge edge) {
        edge.says(20, FROM_REFUSED, "-2 either");
        edge.on(Edge.BUSY);
        edge.outside("from(0, ?, 0)", 0, 2, -2);
        edge.outside("from(11, ?, 1)", 0, 2, -2);
        edge.outside("from(0, 0, ?)", 0, 1, -2);
        edge.outside("from(11, 2, ?)", 0, 1, -2);
        edge.justOutside("from(7, ?, ?)", 0, 2, -2);
    }

    private static String twelve(int number) {
        return "row " + String.join(" ", java.util.Collections.nCopies(12, String.valueOf(number)));
    }

    private static void whoseAnswers(Edge edge) {
        edge.says(21, "WHOSE by the ROW (kind -1: KINDS, bits); by which, of a KIND; -9 (the ROW stays).");
        edge.on("set(1, 0)", twelve(60));
        // Those of FREE, LOOKER, LAGGED and ASTRAY, for no line is there.
        edge.answersRow("whose(0, ?)", -1, 1 + 2 + 8 + 64, 11, 11, -9, 11, -9, -9, 11);
        edge.answersRow("whose(1, ?)", -1, 1 + 2 + 8 + 64, 11, 11, -9, 11, -9, -9, 11);
        edge.on("set(1, 0)", twelve(98));
        edge.answersRow("whose(0, ?)", -1, 0, -9, -9, -9, -9, -9, -9, -9);
        edge.on(Edge.with(TWELVE));
        edge.answers("whose(1, 6)", -9);
        edge.answers("whose(0, -1)", 0);
        edge.answers("count(7)", 12);
    }

    private static void whoseKinds(Edge edge) {
        edge.terms(21, "WHOSE: KINDS (bits; FIGURE as it is) by which a told ROW (12 RADII, 0 .. 99) could have been "
            + "drawn as the NEXT of a foot by some PUSH, LEAN");
        edge.on("set(1, 0)", "set(0, 60)", twelve(60));
        edge.answers("whose(0, -1)", 1 + 2 + 4 + 8 + 32 + 64);
        edge.on("set(1, 0)", "set(0, 60)", "skater(0, 1)", twelve(60));
        edge.answers("whose(0, -1)", 1 + 2 + 4 + 8 + 64);
        edge.on("set(1, 0)", "set(0, 60)", "skater(0, 9)", "row 60 60 60 60 60 60 60 60 60 69 51 60");
        edge.answers("whose(0, -1)", 32);
        edge.answers("whose(0, 5)", 11);
        edge.on("set(1, 0)", "set(0, 60)", "skater(0, 8)", "row 60 60 60 60 60 60 60 60 60 69 51 60");
        edge.answers("whose(0, -1)", 0);
        // 0 is told, too; the first and the last of the ROW count.
        edge.on("set(1, 9)", "row 60 33 6 0 0 0 0 0 0 0 0 0");
        edge.answers("whose(0, 0)", 11);
        edge.on("set(1, 9)", "row 59 33 6 0 0 0 0 0 0 0 0 0");
        edge.answers("whose(0, 0)", -9);
        edge.on("set(1, 9)", "row 60 33 6 0 0 0 0 0 0 0 0 1");
        edge.answers("whose(0, 0)", -9);
        // As the NEXT of the left foot, behind 40: by 60 with a half of -20; the right foot has none.
        edge.on("set(1, 0)", "draw(0, 6, 9)", twelve(50));
        edge.answers("whose(0, 1)", 11);
        edge.answers("whose(1, 1)", 56);
    }

    private static void above99(Edge edge) {
        edge.terms(21, "(RADIUS above 99 told as 99);");
        // 120 117 114 111 108 105 102 99 96 93 90 87 by 21
        edge.on("row 99 99 99 99 99 99 99 99 96 93 90 87");
        edge.answers("whose(0, 0)", 21);
        edge.on("row 99 99 99 99 99 99 98 99 96 93 90 87");
        edge.answers("whose(0, 0)", -9);
        edge.on("row 99 99 99 99 99 99 99 98 96 93 90 87");
        edge.answers("whose(0, 0)", -9);
        edge.on("row 99 99 99 99 99 99 99 99 99 93 90 87");
        edge.answers("whose(0, 0)", -9);
        edge.on("set(1, 0)", twelve(99));
        edge.answersRow("whose(0, ?)", -1, 127, 21, 21, 21, 21, 21, 21, 21);
        // Behind 100 a LOOKER by 96 draws 98, by 100 (and by 120, 110) what is told as 99.
        edge.on("set(1, 0)", "draw(0, 5, 3)", twelve(98));
        edge.answers("whose(0, 1)", 85);
        edge.on("set(1, 0)", "draw(0, 5, 3)", twelve(99));
        edge.answers("whose(0, 1)", 21);
    }

    private static void leastOfAKind(Edge edge) {
        edge.terms(21, "by which (10 PUSH and LEAN), the least of a KIND; -9.");
        edge.on("set(1, 0)", twelve(60));
        edge.answers("whose(0, 0)", 11);
        edge.on("set(1, 0)", twelve(20));
        edge.answers("whose(0, 0)", 13);
        edge.on("set(1, 0)", twelve(90));
        edge.answers("whose(0, 0)", 32);
        edge.on("set(1, 0)", twelve(67));
        edge.answers("whose(0, 0)", 98);
        edge.on("set(1, 0)", twelve(6));
        edge.answers("whose(0, 0)", 19);
        edge.on("set(1, 0)", twelve(5));
        edge.answers("whose(0, 0)", -9);
        edge.on("set(1, 0)", twelve(0));
        edge.answers("whose(0, 0)", -9);
    }

    private static void whoseNobody(Edge edge) {
        edge.says(21, WHOSE_REFUSED, "-1 foot");
        edge.on(TWELVE);
        edge.outside("whose(?, -1)", 0, 1, -1);
        edge.outside("whose(?, 6)", 0, 1, -1);
        edge.outside("whose(?, 7)", 0, 1, -1);
        edge.on(Edge.BUSY);
        edge.outside("whose(?, 0)", 0, 1, -1);
        edge.outside("whose(?, -2)", 0, 1, -1);
    }

    private static void whoseAnother(Edge edge) {
        edge.says(21, WHOSE_REFUSED, "-2");
        edge.on(TWELVE);
        edge.outside("whose(0, ?)", -1, 6, -2);
        edge.outside("whose(1, ?)", -1, 6, -2);
        edge.on(Edge.BUSY);
        edge.outside("whose(0, ?)", -1, 6, -2);
    }

    private static void whoseNotTwelve(Edge edge) {
        edge.says(21, WHOSE_REFUSED, "-3 the ROW has not 12");
        edge.refused("whose(0, -1)", -3);
        edge.refused("whose(1, 6)", -3);
        edge.on("row 60");
        edge.refused("whose(0, 0)", -3);
        edge.on("set(1, 0)", "row 60 60 60 60 60 60 60 60 60 60 60");
        edge.refused("whose(0, -1)", -3);
        edge.refused("whose(0, 0)", -3);
        edge.on("set(1, 0)", twelve(60));
        edge.answers("whose(0, 0)", 11);
        edge.on("set(1, 0)", twelve(60), "clear()");
        edge.refused("whose(0, 0)", -3);
    }

    private static void rowAnswers(Edge edge) {
        edge.says(28, "A number more of the ROW: how many.");
        edge.changes("row(0)", 1, "count(7)=1");
        edge.changes("row(99)", 1, "count(7)=1");
        String[] scene = {};
        for (int many = 1; many <= 12; many++) {
            edge.on(scene);
            edge.changes("row(99)", many, "count(7)=" + many);
            scene = Edge.with(scene, "row(99)");
        }
    }

    private static void rowNumbers(Edge edge) {
        edge.terms(28, "A ROW of numbers (0 .. 99; 12 at most):");
        edge.on(Edge.BUSY);
        edge.changes("row(0)", 4, "count(7)=4");
        edge.changes("row(99)", 4, "count(7)=4");
        edge.refused("row(-1)", -4);
        edge.refused("row(100)", -6);
        edge.on("row 1 2 3 4 5 6 7 8 9 10 11");
        edge.changes("row(12)", 12, "count(7)=12");
        edge.on("row 1 2 3 4 5 6 7 8 9 10 11 12");
        edge.refused("row(13)", -6);
    }

    private static void rowBelow(Edge edge) {
        edge.says(28, "-4; -6 (99; 12, too).", "-4");
        edge.below("row(?)", 0, -4);
        edge.on(Edge.BUSY);
        edge.below("row(?)", 0, -4);
        edge.on(TWELVE);
        edge.below("row(?)", 0, -4);
    }

    private static void rowAbove(Edge edge) {
        edge.says(28, "-4; -6 (99; 12, too).", "-6 (99; 12, too)");
        edge.above("row(?)", 99, -6);
        edge.on(Edge.BUSY);
        edge.above("row(?)", 99, -6);
    }

    private static void rowFull(Edge edge) {
        edge.says(28, "-4; -6 (99; 12, too).", "-6 (99; 12, too)");
        edge.on(TWELVE);
        edge.refused("row(0)", -6);
        edge.refused("row(99)", -6);
        edge.justAbove("row(?)", 99, -6);
    }

    private static void judgeAnswers(Edge edge) {
        edge.says(29, "JUDGED; -9 (the ROW has none then).");
        edge.on(TWELVE);
        edge.changes("judge(0)", -9, "count(7)=0");
        edge.changes("judge(2)", 0, "count(7)=0");
        edge.on(Edge.BUSY);
        edge.changes("judge(0)", -9, "count(7)=0");
        edge.changes("judge(1)", 0, "count(7)=0");
        edge.on(Edge.with(Edge.BUSY, "clear()"));
        edge.changes("judge(0)", -9);
        edge.on(Edge.FULL);
        edge.changes("judge(5)", 0, "count(7)=0");
    }

    private static void firstNotSo(Edge edge) {
        edge.terms(29, "JUDGED: as RADII of a TRACE from HOUR 0 on: the first that is not so; -9.");
        String[] line = {"draw(0, 6, 9)"};
        String[] rows = {"40", "41", "40 39", "40 38", "39 38", "40 39 39 39 38 38 38 37 37 37 36 36",
            "40 39 39 39 38 38 38 37 37 37 36 35", "40 39 39 39 38 38 38 37 37 37 35 35",
            "0 39 39 39 38 38 38 37 37 37 36 36", "40 39 39 39 38 38 38 37 37 37 36", "40 39 39 39 38 38 38 37 37 37 99"};
        int[] firsts = {-9, 0, -9, 1, 0, -9, 11, 10, 0, -9, 10};
        for (int i = 0; i < rows.length; i++) {
            edge.on(Edge.with(line, "row " + rows[i]));
            edge.changes("judge(0)", firsts[i], "count(7)=0");
        }
        edge.on(line);
        edge.changes("judge(0)", -9);
    }

    private static void judgeLarge(Edge edge) {
        edge.terms(29, "JUDGED: as RADII of a TRACE from HOUR 0 on: the first that is not so; -9.");
        // 120 117 114 111 108 105 102 99 ..: above 99 nothing that is told is so.
        edge.on("draw(0, 2, 1)", "row 99");
        edge.changes("judge(0)", 0, "count(7)=0");
        // 99 (90 and a half of 18) is told as it is.
        String[] ninetyNine = {"set(1, 0)", "draw(0, 9, 5)", "skater(1, 0)", "draw(0, 3, 2)"};
        edge.on(Edge.with(ninetyNine, twelve(99)));
        edge.changes("judge(1)", -9, "count(7)=0");
        edge.changes("judge(0)", 0, "count(7)=0");
        // 0 is told as it is.
        edge.on("set(1, 9)", "draw(0, 1, 1)", "row 60 33 6 0 0 0 0 0 0 0 0 0");
        edge.changes("judge(0)", -9, "count(7)=0");
    }

    private static void judgeNobody(Edge edge) {
        edge.says(29, "-1.");
        edge.justOutside("judge(?)", 0, -1, -1);
        edge.on("row 1 2 3");
        edge.justOutside("judge(?)", 0, -1, -1);
        edge.on(Edge.BUSY);
        edge.outside("judge(?)", 0, 2, -1);
        edge.on(Edge.with(Edge.BUSY, "clear()"));
        edge.outside("judge(?)", 0, 2, -1);
        edge.on(Edge.FULL);
        edge.outside("judge(?)", 0, 5, -1);
    }

    private static void clearAnswers(Edge edge) {
        edge.says(30, "The ROW has none then: how many it had.");
        edge.changes("clear()", 0);
        edge.on("row 0");
        edge.changes("clear()", 1, "count(7)=0");
        edge.on(Edge.BUSY);
        edge.changes("clear()", 3, "count(7)=0");
        edge.on(TWELVE);
        edge.changes("clear()", 12, "count(7)=0");
        edge.on(Edge.with(TWELVE, "clear()"));
        edge.changes("clear()", 0);
        edge.changes("row(99)", 1, "count(7)=1");
    }
}
