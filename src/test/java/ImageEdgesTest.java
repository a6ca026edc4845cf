import java.util.Collections;

/** Promises 32, 33, 34, sentence by sentence, at their boundaries: image, restore, count; REFUSALS. */
public final class ImageEdgesTest {
    private static final String IMAGE = "THE IMAGE: all that there is, but it, letters, the ROW, REFUSALS.";
    private static final String[] SIX = {"draw(0, 6, 9)", "draw(1, 1, 1)", "draw(0, 9, 1)", "draw(1, 1, 9)",
        "draw(0, 9, 9)", "draw(1, 5, 5)"};
    /** Everything that an IMAGE keeps becomes another. */
    private static final String[] OTHERWISE = {"sweep()", "skater(4, 9)", "draw(1, 9, 9)", "draw(0, 2, 2)",
        "set(0, 99)", "set(1, 9)", "set(2, 0)", "set(3, 9)", "set(4, 9)", "lay(0, 3, 0, 0)", "lay(1, 7, 1, 0)",
        "lay(0, 0, 0, 3)", "lay(1, 11, 0, 3)", "lay(0, 0, 1, 99)", "lay(1, 11, 1, 1)"};

    public static void main(String[] args) {
        Edge edge = new Edge();
        all(edge);
        edge.finish("ImageEdgesTest");
    }

    static void all(Edge edge) {
        imageAnswers(edge);
        restoreAnswers(edge);
        restoredAgain(edge);
        restoreOfNone(edge);
        allThatThereIs(edge);
        butIt(edge);
        butLettersAndRow(edge);
        countAnswers(edge);
        leastAndMostCounts(edge);
        countsOfRefusals(edge);
        countOfAnother(edge);
        nobody(edge);
        other(edge);
        state(edge);
        below(edge);
        room(edge);
        farOff(edge);
        fiveHundredTwelve(edge);
    }

    private static void imageAnswers(Edge edge) {
        edge.says(32, "THE IMAGE is taken: how many TRACES.");
        edge.changes("image()", 0);
        edge.on("draw(1, 6, 9)");
        edge.changes("image()", 1);
        edge.on(SIX);
        edge.changes("image()", 6);
        edge.on(Edge.BUSY);
        edge.changes("image()", 3);
        edge.on(Edge.with(Edge.BUSY, "image()", "sweep()"));
        edge.changes("image()", 0);
    }

    private static void restoreAnswers(Edge edge) {
        edge.says(33, "It is RESTORED: how many TRACES.");
        edge.on("image()");
        edge.changes("restore()", 0);
        edge.on("set(1, 0)", "image()", "draw(0, 6, 9)", "sweep()");
        edge.changes("restore()", 0);
        edge.on("set(1, 0)", "draw(1, 6, 9)", "image()", "sweep()");
        edge.changes("restore()", 1, edge.line(0, 1, 6, 9, 40));
        edge.on(Edge.with(SIX, "image()"));
        edge.changes("restore()", 6);
        edge.alike(Edge.with(SIX, "image()", "sweep()", "restore()"), SIX);
        edge.alike(Edge.with(SIX, "image()", "sweep()", "draw(1, 2, 2)", "restore()"), SIX);
        edge.alike(Edge.with(new String[] {"image()"}, Edge.with(SIX, "restore()")));
    }

    private static void restoredAgain(Edge edge) {
        edge.says(33, "It is RESTORED: how many TRACES.");
        String[] then = Edge.with(new String[] {"image()"}, OTHERWISE);
        edge.alike(Edge.with(Edge.with(Edge.WORN, then), "restore()"), Edge.WORN);
        String[] twice = Edge.with(Edge.with(Edge.WORN, then), Edge.with(new String[] {"restore()"}, OTHERWISE));
        edge.alike(Edge.with(twice, "restore()"), Edge.WORN);
        edge.alike(Edge.with(twice, "restore()", "restore()"), Edge.WORN);
    }

    private static void restoreOfNone(Edge edge) {
        edge.says(33, "-3 there is none.");
        edge.refused("restore()", -3);
        edge.on(SIX);
        edge.refused("restore()", -3);
        edge.on("restore()");
        edge.refused("restore()", -3);
        edge.on("restore()", "image()");
        edge.changes("restore()", 0);
    }

    private static void allThatThereIs(Edge edge) {
        edge.terms(33, IMAGE);
        // One by one: HARD, OLD, the SETTINGS, the SKATER, the TRACES.
        String[] changes = {"lay(0, 0, 0, 1)", "lay(1, 11, 0, 3)", "lay(0, 0, 1, 1)", "lay(1, 11, 1, 99)", "set(0, 10)",
            "set(1, 9)", "set(2, 100)", "set(3, 9)", "set(4, 9)", "skater(6, 0)", "skater(0, 9)", "draw(1, 9, 9)",
            "sweep()"};
        for (String change : changes) {
            edge.alike(new String[] {"draw(0, 6, 9)", "image()", change, "restore()"}, "draw(0, 6, 9)");
            String[] kept = {"draw(0, 6, 9)", change};
            edge.alike(Edge.with(Edge.with(kept, "image()"), Edge.with(OTHERWISE, "restore()")), kept);
        }
    }

    private static void butIt(Edge edge) {
        edge.terms(33, IMAGE);
        // The IMAGE taken last is the one, and no earlier one comes back with it.
        String[] two = {"set(3, 1)", "image()", "set(3, 2)", "image()", "set(3, 3)"};
        edge.on(two);
        edge.changes("restore()", 0, "count(23)=2");
        edge.on(Edge.with(two, "restore()"));
        edge.changes("restore()", 0);
    }

    private static void butLettersAndRow(Edge edge) {
        edge.terms(33, IMAGE);
        edge.on("image()", "feed k69;", "row 1 2 3", "of(9, 9)", "skater(7, 0)", "row(-1)", "row(100)", "fits()");
        edge.changes("restore()", 0);
        edge.answers("count(6)", 4);
        edge.answers("count(7)", 3);
        edge.on("feed k69;", "row 1 2 3", "of(9, 9)", "image()", "rink()", "clear()", "of(9, 9)");
        edge.changes("restore()", 0, "count(2)=0", "count(3)=0");
        edge.answers("count(6)", 0);
        edge.answers("count(7)", 0);
        edge.answers("count(11)", 2);
        edge.on("image()", "feed k69;", "restore()");
        edge.changes("rink()", 1, "count(2)=6", "count(3)=9", "count(6)=0");
    }

    private static void countAnswers(Edge edge) {
        edge.says(34, "0 TRACES, 1 those of foot 0, 2 the KIND, 3 the FIGURE, 4 all HARD, 5 OLD lines, 6 letters, 7 in the "
            + "ROW, 20 .. 24 SETTINGS, 11 .. 16 REFUSALS -1 .. -6.");
        edge.on(Edge.with(Edge.BUSY, "of(9, 9)", "skater(7, 0)", "whose(0, 0)", "row(-1)", "row(100)", "row(100)"));
        edge.answersRow("count(?)", 0, 3, 2, 6, 3, 2, 2, 9, 3);
        edge.answersRow("count(?)", 11, 1, 1, 1, 1, 0, 2);
        edge.answersRow("count(?)", 20, 45, 2, 60, 2, 1);
    }

    private static void leastAndMostCounts(Edge edge) {
        edge.says(34, "0 TRACES, 1 those of foot 0, 2 the KIND, 3 the FIGURE, 4 all HARD, 5 OLD lines, 6 letters, 7 in the "
            + "ROW");
        edge.answersRow("count(?)", 0, 0, 0, 0, 0, 0, 0, 0, 0);
        String[] most = {"skater(6, 9)"};
        for (int hour = 0; hour < 12; hour++) {
            for (int patch = 0; patch < 2; patch++) {
                most = Edge.with(most, "lay(" + patch + ", " + hour + ", 0, 3)");
                most = Edge.with(most, "lay(" + patch + ", " + hour + ", 1, 99)");
            }
        }
        most = Edge.with(most, Collections.nCopies(6, "draw(0, 1, 1)").toArray(new String[0]));
        most = Edge.with(most, Collections.nCopies(96, "feed(119)").toArray(new String[0]));
        most = Edge.with(most, Collections.nCopies(12, "row(99)").toArray(new String[0]));
        edge.on(most);
        edge.answersRow("count(?)", 0, 6, 6, 6, 9, 72, 24, 96, 12);
        edge.on(SIX);
        edge.answersRow("count(?)", 0, 6, 3);
        edge.on("draw(1, 1, 1)");
        edge.answersRow("count(?)", 0, 1, 0);
    }

    private static void countsOfRefusals(Edge edge) {
        edge.says(34, "11 .. 16 REFUSALS -1 .. -6.");
        String[] refused = {"of(0, 0)", "skater(7, 0)", "restore()", "row(-1)", "row(100)"};
        int[] whats = {11, 12, 13, 14, 16};
        for (int i = 0; i < refused.length; i++) {
            for (int times = 1; times <= 3; times++) {
                edge.on(Collections.nCopies(times, refused[i]).toArray(new String[0]));
                edge.answers("count(" + whats[i] + ")", times);
                edge.answers("count(15)", 0);
            }
        }
        edge.on("mean(0, 0)", "grows(2, 1, 1, 0, 2)", "from(0, 3, 0)", "grows(0, 0, 1, 0, 2)", "grows(0, 1, 1, 0, 10)");
        edge.answersRow("count(?)", 11, 2, 1, 0, 1, 0, 1);
    }

    private static void countOfAnother(Edge edge) {
        edge.says(34, "-9 for another what.");
        String[] others = {"-1", "8", "9", "10", "17", "18", "19", "25", "26", "-11", "100", "MIN", "MAX"};
        for (String[] scene : new String[][] {{}, Edge.BUSY}) {
            edge.on(scene);
            for (String other : others) {
                edge.answers("count(" + other + ")", -9);
            }
        }
    }

    private static void nobody(Edge edge) {
        edge.terms(34, "-1 NOBODY: no such TRACE, PATCH, foot, HOUR, SETTING.");
        edge.on(Edge.BUSY);
        edge.outside("trace(?, 0)", 0, 2, -1);
        edge.outside("of(?, 0)", 0, 2, -1);
        edge.outside("mean(?, 0)", 0, 2, -1);
        edge.outside("close(?, 0)", 0, 2, -1);
        edge.outside("mark(0, ?)", 0, 2, -1);
        edge.outside("judge(?)", 0, 2, -1);
        edge.outside("ice(?, 0, 0)", 0, 1, -1);
        edge.outside("lay(?, 0, 0, 0)", 0, 1, -1);
        edge.outside("draw(?, 1, 1)", 0, 1, -1);
        edge.outside("spread(?)", 0, 1, -1);
        edge.outside("next(?, 1, 1, 0)", 0, 1, -1);
        edge.outside("grows(?, 1, 1, 0, 2)", 0, 1, -1);
        edge.outside("calm(?, 1, 1, 2)", 0, 1, -1);
        edge.outside("closes(?)", 0, 1, -1);
        edge.outside("correct(?, 1, 1)", 0, 1, -1);
        edge.outside("whose(?, 0)", 0, 1, -1);
        edge.outside("trace(0, ?)", 0, 11, -1);
        edge.outside("next(0, 1, 1, ?)", -1, 11, -1);
        edge.outside("from(?, 0, 0)", 0, 11, -1);
        edge.outside("set(?, 10)", 0, 4, -1);
    }

    private static void other(Edge edge) {
        edge.terms(34, "-2 OTHER: what, KIND.");
        edge.on(Edge.BUSY);
        edge.outside("ice(0, 0, ?)", 0, 1, -2);
        edge.outside("lay(0, 0, ?, 0)", 0, 1, -2);
        edge.outside("of(0, ?)", 0, 8, -2);
        edge.outside("mean(0, ?)", 0, 1, -2);
        edge.outside("from(0, ?, 0)", 0, 2, -2);
        edge.outside("from(0, 0, ?)", 0, 1, -2);
        edge.outside("fewest(?)", 0, 1, -2);
        edge.outside("hours(0, ?)", 0, 1, -2);
        edge.outside("seeds(1, 0, ?)", 0, 1, -2);
        edge.outside("skater(?, 0)", 0, 6, -2);
        edge.outside("grows(0, 1, 1, ?, 2)", 0, 6, -2);
        edge.outside("whose(0, ?)", -1, 6, -2);
        edge.outside("mark(?, 0)", 0, 4, -2);
    }

    private static void state(Edge edge) {
        edge.terms(34, "-3 STATE: it is not as told.");
        edge.refused("restore()", -3);
        edge.refused("whose(0, 0)", -3);
        edge.on("row 0");
        edge.refused("fits()", -3);
        edge.on("draw(0, 1, 1)");
        edge.refused("fits()", -3);
    }

    private static void below(Edge edge) {
        edge.terms(34, "-4 BELOW: a number below the least.");
        edge.on(Edge.BUSY);
        edge.below("feed(?)", 0, -4);
        edge.below("lay(0, 0, 0, ?)", 0, -4);
        edge.below("lay(0, 0, 1, ?)", 0, -4);
        edge.below("set(0, ?)", 10, -4);
        edge.below("skater(0, ?)", 0, -4);
        edge.below("draw(0, ?, 1)", 1, -4);
        edge.below("next(0, 1, ?, 0)", 1, -4);
        edge.below("grows(0, 1, 1, 0, ?)", 2, -4);
        edge.below("calm(0, 1, 1, ?)", 2, -4);
        edge.below("correct(0, ?, 1)", 1, -4);
        edge.below("hours(?, 0)", 0, -4);
        edge.below("won(?)", 0, -4);
        edge.below("lot(?, 1)", 1, -4);
        edge.below("row(?)", 0, -4);
        edge.below("seeds(?, 0, 0)", 1, -4);
    }

    private static void room(Edge edge) {
        edge.terms(34, "-6 ROOM: a number above the greatest, no room.");
        edge.on(Edge.BUSY);
        edge.above("feed(?)", 255, -6);
        edge.above("lay(0, 0, 0, ?)", 3, -6);
        edge.above("lay(0, 0, 1, ?)", 99, -6);
        edge.above("set(2, ?)", 100, -6);
        edge.above("skater(0, ?)", 9, -6);
        edge.above("draw(0, 1, ?)", 9, -6);
        edge.above("next(0, ?, 1, 0)", 9, -6);
        edge.above("grows(0, 1, 1, 0, ?)", 9, -6);
        edge.above("calm(0, 1, 1, ?)", 9, -6);
        edge.above("correct(0, 1, ?)", 9, -6);
        edge.above("hours(?, 0)", 40, -6);
        edge.above("won(?)", 40, -6);
        edge.above("lot(1, ?)", 9, -6);
        edge.above("row(?)", 99, -6);
        edge.above("seeds(?, 0, 0)", 20, -6);
        edge.on(SIX);
        edge.refused("draw(0, 1, 1)", -6);
        edge.on(Collections.nCopies(96, "feed(119)").toArray(new String[0]));
        edge.refused("feed(59)", -6);
        edge.on(Collections.nCopies(12, "row(0)").toArray(new String[0]));
        edge.refused("row(0)", -6);
    }

    private static void farOff(Edge edge) {
        edge.terms(34, "Of grows() 1000000000 less them, of longs 4000000000000000000 less them.");
        Skated x = new Skated("draw(0, 6, 9)");
        edge.due("grows() of no foot", x.ask("grows(2, 1, 1, 0, 2)"), 1000000001L);
        edge.due("grows() by no KIND", x.ask("grows(0, 1, 1, 7, 2)"), 1000000002L);
        edge.due("grows() by too few", x.ask("grows(0, 1, 1, 0, 1)"), 1000000004L);
        edge.due("grows() by too many", x.ask("grows(0, 1, 1, 0, 10)"), 1000000006L);
        edge.due("mean() of no TRACE", x.ask("mean(1, 0)"), 4000000000000000001L);
        edge.due("mean() of no part", x.ask("mean(0, 2)"), 4000000000000000002L);
        edge.due("from() of no HOUR", x.ask("from(12, 0, 0)"), 4000000000000000001L);
        edge.due("from() of nothing", x.ask("from(0, 3, 0)"), 4000000000000000002L);
        edge.due("from() of no part", x.ask("from(0, 0, 2)"), 4000000000000000002L);
        edge.due("counted as -1", x.ask("count(11)"), 3);
        edge.due("counted as -2", x.ask("count(12)"), 4);
        edge.due("counted as -4", x.ask("count(14)"), 1);
        edge.due("counted as -6", x.ask("count(16)"), 1);
    }

    private static void fiveHundredTwelve(Edge edge) {
        edge.terms(34, "An object is used for at most 512 calls after it has been made;");
        edge.due("call 512 behind 511 refused", behind(511, "of(0, 0)").ask("count(11)"), 511);
        edge.due("call 512 behind 511 images", behind(511, "image()").ask("restore()"), 0);
        edge.due("call 512 behind 511 unfed rinks", behind(511, "rink()").ask("draw(1, 1, 1)"), 0);
        edge.due("call 512 behind 511 letters", behind(511, "feed(119)").ask("count(16)"), 511 - 96);
        edge.due("call 512 behind 511 numbers", behind(511, "row(0)").ask("clear()"), 12);
        edge.due("call 511 behind 510 TRACES", behind(510, "draw(0, 6, 9)").ask("count(16)"), 504);
        edge.due("call 512 behind 511 TRACES", behind(511, "draw(0, 6, 9)").ask("sweep()"), 6);
        edge.due("call 512 behind 511 seeds", behind(511, "seeds(20, -1, 0)").ask("seeds(20, -1, 0)"), 9634);
    }

    private static Skated behind(int calls, String call) {
        return new Skated(Collections.nCopies(calls, call).toArray(new String[0]));
    }
}
