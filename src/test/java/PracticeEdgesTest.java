/** Promises 25, 26, 31, sentence by sentence, at their boundaries: hours, won, seeds. */
public final class PracticeEdgesTest {
    private static final String HOURS = "HOURS of practice h (0 .. 40): f of them for figures, the rest for jumps: MARKS "
        + "in tenths: figures 60 f less f times f; jumps 40 g and g times g by 4, cut (g the rest): together WEIGHT "
        + "times the one and (100 less WEIGHT) times the other, by 100, cut: the f by which that is most, of several "
        + "the least; that;";
    private static final String SEEDS = "SEEDS with a seed z: n TRACES (1 .. 20), in mind, each of a foot by a DRAW "
        + "below 2, PUSH by one below 9, and 1, LEAN likewise: all OFF together; how many of them are OFF by less than "
        + "60.";

    public static void main(String[] args) {
        Edge edge = new Edge();
        all(edge);
        edge.finish("PracticeEdgesTest");
    }

    static void all(Edge edge) {
        hoursAnswers(edge);
        leastAndMostHours(edge);
        leastAndMostWeight(edge);
        cutMarks(edge);
        ofSeveralTheLeast(edge);
        hoursBelow(edge);
        hoursAbove(edge);
        hoursOfAnother(edge);
        wonAnswers(edge);
        wonByWeights(edge);
        wonBelow(edge);
        wonAbove(edge);
        seedsAnswers(edge);
        oneToTwenty(edge);
        lessThanSixty(edge);
        inMind(edge);
        drawsOfInts(edge);
        seedsBelow(edge);
        seedsAbove(edge);
        seedsOfAnother(edge);
    }

    /** By a WEIGHT: the f of h HOURS and its MARKS. */
    private static void practised(Edge edge, int weight, int h, int f, int marks) {
        edge.on("set(2, " + weight + ")");
        edge.answers("hours(" + h + ", 0)", f);
        edge.answers("hours(" + h + ", 1)", marks);
    }

    private static void hoursAnswers(Edge edge) {
        edge.says(25, "HOURS: f (what 0), MARKS (1).");
        edge.answers("hours(40, 0)", 12);
        edge.answers("hours(40, 1)", 872);
        edge.on(Edge.BUSY);
        edge.answers("hours(40, 0)", 12);
        edge.answers("hours(40, 1)", 872);
    }

    private static void leastAndMostHours(Edge edge) {
        edge.terms(25, HOURS);
        practised(edge, 60, 0, 0, 0);
        practised(edge, 60, 1, 1, 35);
        practised(edge, 60, 39, 12, 850);
        practised(edge, 60, 40, 12, 872);
        edge.refused("hours(-1, 0)", -4);
        edge.refused("hours(41, 0)", -6);
    }

    private static void leastAndMostWeight(Edge edge) {
        edge.terms(25, HOURS);
        practised(edge, 0, 0, 0, 0);
        practised(edge, 0, 1, 0, 40);
        practised(edge, 0, 40, 0, 2000);
        practised(edge, 1, 40, 0, 1980);
        practised(edge, 100, 0, 0, 0);
        practised(edge, 100, 1, 1, 59);
        // 60 f less f times f is most by 30.
        practised(edge, 100, 29, 29, 899);
        practised(edge, 100, 30, 30, 900);
        practised(edge, 100, 31, 30, 900);
        practised(edge, 100, 40, 30, 900);
        practised(edge, 99, 40, 30, 895);
    }

    private static void cutMarks(Edge edge) {
        edge.terms(25, HOURS);
        // g times g by 4: 1 by 4 is 0, 4 by 4 is 1, 9 by 4 is 2.
        practised(edge, 0, 1, 0, 40);
        practised(edge, 0, 2, 0, 81);
        practised(edge, 0, 3, 0, 122);
        // By 100: 60 times 59 is 35.4; 1 times 0 and 99 times 40 is 39.6.
        practised(edge, 60, 1, 1, 35);
        practised(edge, 1, 1, 0, 39);
    }

    private static void ofSeveralTheLeast(Edge edge) {
        edge.terms(25, "the f by which that is most, of several the least; that;");
        // By 50: 0 and 1 of 39; 0, 1 and 2 of 36; 1 and 2 of 35; 9 and 10 of 11; by 60: 12, 13 and 14 of 34.
        practised(edge, 50, 39, 0, 970);
        practised(edge, 50, 36, 0, 882);
        practised(edge, 50, 35, 1, 854);
        practised(edge, 50, 11, 9, 270);
        practised(edge, 60, 34, 12, 746);
        // The only one
        practised(edge, 50, 40, 0, 1000);
        practised(edge, 50, 3, 3, 85);
    }

    private static void hoursBelow(Edge edge) {
        edge.says(25, "-4; -6 40; -2.", "-4");
        edge.below("hours(?, 0)", 0, -4);
        edge.on(Edge.BUSY);
        edge.below("hours(?, 1)", 0, -4);
        edge.below("hours(?, 2)", 0, -4);
        edge.below("hours(?, -1)", 0, -4);
    }

    private static void hoursAbove(Edge edge) {
        edge.says(25, "-4; -6 40; -2.", "-6 40");
        edge.above("hours(?, 0)", 40, -6);
        edge.on(Edge.BUSY);
        edge.above("hours(?, 1)", 40, -6);
        edge.above("hours(?, 2)", 40, -6);
        edge.above("hours(?, -1)", 40, -6);
    }

    private static void hoursOfAnother(Edge edge) {
        edge.says(25, "-4; -6 40; -2.", "-2");
        edge.on(Edge.BUSY);
        edge.outside("hours(0, ?)", 0, 1, -2);
        edge.outside("hours(40, ?)", 0, 1, -2);
    }

    private static void wonAnswers(Edge edge) {
        edge.says(26, "WON; -9.");
        edge.answers("won(0)", -9);
        edge.answers("won(1)", 50);
        edge.answers("won(40)", 60);
        edge.on("set(2, 100)");
        edge.answers("won(0)", -9);
        edge.answers("won(40)", 60);
    }

    private static void wonByWeights(Edge edge) {
        edge.terms(26, "WON: of weights 0, 10, .. 100 the least with which some f above 0 is best; -9.");
        // By 40 f 1 of 1 has 23, f 0 has 24; by 50 29 and 20.
        edge.answers("won(1)", 50);
        edge.answers("won(2)", 50);
        // By 50 f 1 of 35 is best; of 36 to 39 f 0 is (of several the least), of 40 alone.
        edge.answers("won(35)", 50);
        edge.answers("won(36)", 60);
        edge.answers("won(39)", 60);
        edge.answers("won(40)", 60);
        edge.answers("won(0)", -9);
    }

    private static void wonBelow(Edge edge) {
        edge.says(26, "-4; -6 40.", "-4");
        edge.below("won(?)", 0, -4);
        edge.on(Edge.BUSY);
        edge.below("won(?)", 0, -4);
    }

    private static void wonAbove(Edge edge) {
        edge.says(26, "-4; -6 40.", "-6 40");
        edge.above("won(?)", 40, -6);
        edge.on(Edge.BUSY);
        edge.above("won(?)", 40, -6);
    }

    private static void seedsAnswers(Edge edge) {
        edge.says(31, "SEEDS: OFF (what 0), how many (1).");
        edge.answers("seeds(1, -1, 0)", 300);
        edge.answers("seeds(1, -1, 1)", 0);
        edge.answers("seeds(20, -1, 0)", 9634);
        edge.answers("seeds(20, -1, 1)", 3);
    }

    private static void oneToTwenty(Edge edge) {
        edge.terms(31, SEEDS);
        edge.answersRow("seeds(?, 1, 0)", 1, 309, 375);
        edge.answers("seeds(19, 1, 0)", 13003);
        edge.answers("seeds(20, 1, 0)", 15661);
        edge.refused("seeds(0, 1, 0)", -4);
        edge.refused("seeds(21, 1, 0)", -6);
        edge.on("draw(0, 1, 1)", "draw(0, 1, 1)", "draw(0, 1, 1)", "draw(1, 1, 1)", "draw(1, 1, 1)", "draw(1, 1, 1)");
        edge.answers("seeds(20, 1, 0)", 15661);
    }

    private static void lessThanSixty(Edge edge) {
        edge.terms(31, "how many of them are OFF by less than 60.");
        // By seed 1 the left foot draws 480 by 7: 68 each; OFF by 60 from 63, by 59 with 67 at HOUR 11.
        String[] sixty = {"set(1, 0)", "set(0, 63)"};
        edge.on(sixty);
        edge.answers("seeds(1, 1, 0)", 60);
        edge.answers("seeds(1, 1, 1)", 0);
        edge.on(Edge.with(sixty, "lay(0, 11, 0, 3)"));
        edge.answers("seeds(1, 1, 0)", 59);
        edge.answers("seeds(1, 1, 1)", 1);
        edge.on("set(1, 0)", "set(0, 68)");
        edge.answers("seeds(1, 1, 0)", 0);
        edge.answers("seeds(1, 1, 1)", 1);
    }

    private static void inMind(Edge edge) {
        edge.terms(31, SEEDS);
        // By seed 1: 68 (left), 40 (right), 60 (left); a LOOKER's third is 64, behind 40 his first is 54.
        edge.on("set(1, 0)");
        edge.answersRow("seeds(?, 1, 0)", 1, 336, 336, 576);
        edge.on("set(1, 0)", "skater(1, 0)");
        edge.answersRow("seeds(?, 1, 0)", 1, 336, 336, 624);
        edge.on("set(1, 0)", "draw(0, 6, 9)", "skater(1, 0)");
        edge.answers("seeds(1, 1, 0)", 168);
        // By seed -1 67 (right); behind 40 of the right foot 54, of the left foot 67.
        edge.answers("seeds(1, -1, 0)", 324);
        edge.on("set(1, 0)", "draw(1, 6, 9)", "skater(1, 0)");
        edge.answers("seeds(1, -1, 0)", 168);
        // By seed 0: 30 (left), 52, 33 (right); a LOOKER's third is 42.
        edge.on("set(1, 0)", "skater(1, 0)");
        edge.answersRow("seeds(?, 0, 0)", 1, 120, 264, 288);
    }

    private static void drawsOfInts(Edge edge) {
        edge.terms(31, "DRAWS: z becomes z times 1103515245 and 12345 (an int); a DRAW below n is (z without its sign's bit "
            + "by 65536, cut) modulo n.");
        int[] offs = {16280, 16280, 15661, 9634, 9634, 15222};
        int[] nears = {0, 0, 0, 3, 3, 1};
        String[] seeds = {"0", "MIN", "1", "-1", "MAX", "12345"};
        for (int i = 0; i < seeds.length; i++) {
            edge.answers("seeds(20, " + seeds[i] + ", 0)", offs[i]);
            edge.answers("seeds(20, " + seeds[i] + ", 1)", nears[i]);
        }
        // By seed 0: 12345, then below 0, then above: left, PUSH 4, LEAN 8; by -1: right, PUSH 9, LEAN 8.
        edge.answers("seeds(1, 0, 0)", 150);
        edge.answers("seeds(1, -1, 0)", 300);
        edge.answers("seeds(1, MAX, 0)", 300);
        edge.on("lay(1, 1, 0, 3)");
        edge.answers("seeds(1, 0, 0)", 150);
        edge.answers("seeds(1, -1, 0)", 288);
    }

    private static void seedsBelow(Edge edge) {
        edge.says(31, "-4; -6 20; -2.", "-4");
        edge.below("seeds(?, 1, 0)", 1, -4);
        edge.on(Edge.BUSY);
        edge.below("seeds(?, MIN, 1)", 1, -4);
        edge.below("seeds(?, MAX, 2)", 1, -4);
        edge.below("seeds(?, 0, -1)", 1, -4);
    }

    private static void seedsAbove(Edge edge) {
        edge.says(31, "-4; -6 20; -2.", "-6 20");
        edge.above("seeds(?, 1, 0)", 20, -6);
        edge.on(Edge.BUSY);
        edge.above("seeds(?, MIN, 1)", 20, -6);
        edge.above("seeds(?, MAX, 2)", 20, -6);
        edge.above("seeds(?, 0, -1)", 20, -6);
    }

    private static void seedsOfAnother(Edge edge) {
        edge.says(31, "-4; -6 20; -2.", "-2");
        edge.on(Edge.BUSY);
        edge.outside("seeds(1, 1, ?)", 0, 1, -2);
        edge.outside("seeds(20, MIN, ?)", 0, 1, -2);
        edge.outside("seeds(20, MAX, ?)", 0, 1, -2);
    }
}
