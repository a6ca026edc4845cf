import java.util.Collections;

/** Promises 2, 3, sentence by sentence, at their boundaries: letters, and the RINK that they tell. */
public final class RinkEdgesTest {
    private static final String FEED_REFUSED = "-4; -6 (255; 96, too).";
    private static final String RINK = "The letters, which are no more then, are a RINK: how many STATEMENTS; "
        + "the FAULT (nothing is counted).";
    private static final String STARTS = "skhotw";

    public static void main(String[] args) {
        Edge edge = new Edge();
        all(edge);
        edge.finish("RinkEdgesTest");
    }

    static void all(Edge edge) {
        feedAnswers(edge);
        feedBelow(edge);
        feedAbove(edge);
        feedFull(edge);
        atMost96(edge);
        lettersAreNoMore(edge);
        howManyStatements(edge);
        nothingIsCounted(edge);
        semicolonBehind(edge);
        settingStatement(edge);
        settingNumbers(edge);
        skaterStatement(edge);
        hardStatement(edge);
        oldStatement(edge);
        traceStatement(edge);
        sweepStatement(edge);
        atLeastOne(edge);
        firstPlace(edge);
        everyLetter(edge);
        somethingLacks(edge);
        firstStatement(edge);
        noRoom(edge);
        formFirst(edge);
        allOrNothing(edge);
    }

    private static String many(String statement, int times) {
        return String.join("", Collections.nCopies(times, statement));
    }

    /** Told to a new object: what rink() answers, and what has changed. */
    private static void told(Edge edge, String letters, int answer, String... changed) {
        edge.on("feed " + letters);
        edge.changes("rink()", answer, Edge.with(changed, "count(6)=0"));
    }

    /** Told to a worn rink: the FAULT, and nothing comes, nothing is counted. */
    private static void fault(Edge edge, String letters, int answer) {
        edge.on(Edge.with(Edge.WORN, "feed " + letters));
        edge.changes("rink()", answer, "count(6)=0");
    }

    private static void feedAnswers(Edge edge) {
        edge.says(2, "A letter comes: how many there are.");
        edge.changes("feed(0)", 1, "count(6)=1");
        edge.changes("feed(255)", 1, "count(6)=1");
        edge.changes("feed(59)", 1, "count(6)=1");
        edge.on(Edge.with(Edge.WORN, "feed w"));
        edge.changes("feed(59)", 2, "count(6)=2");
        edge.on("feed " + many("w;", 47));
        edge.changes("feed(119)", 95, "count(6)=95");
        edge.on("feed " + many("w;", 47) + "w");
        edge.changes("feed(59)", 96, "count(6)=96");
    }

    private static void feedBelow(Edge edge) {
        edge.says(2, FEED_REFUSED, "-4");
        edge.below("feed(?)", 0, -4);
        edge.on(Edge.BUSY);
        edge.below("feed(?)", 0, -4);
        edge.changes("feed(0)", 10, "count(6)=10");
        edge.on("feed " + many("w;", 48));
        edge.below("feed(?)", 0, -4);
    }

    private static void feedAbove(Edge edge) {
        edge.says(2, FEED_REFUSED, "-6 (255; 96, too)");
        edge.above("feed(?)", 255, -6);
        edge.on(Edge.BUSY);
        edge.above("feed(?)", 255, -6);
        edge.changes("feed(255)", 10, "count(6)=10");
    }

    private static void feedFull(Edge edge) {
        edge.says(2, FEED_REFUSED, "-6 (255; 96, too)");
        edge.on("feed " + many("w;", 48));
        edge.refused("feed(0)", -6);
        edge.refused("feed(59)", -6);
        edge.refused("feed(119)", -6);
        edge.refused("feed(255)", -6);
        edge.justAbove("feed(?)", 255, -6);
    }

    private static void atMost96(Edge edge) {
        edge.terms(2, "A RINK is told in letters, one by one (96 at most):");
        edge.on("feed " + many("w;", 47) + "w");
        edge.changes("feed(59)", 96, "count(6)=96");
        edge.on("feed " + many("w;", 48));
        edge.refused("feed(119)", -6);
        edge.changes("rink()", 48, "count(6)=0");
        edge.on("feed " + many("w;", 48), "rink()");
        edge.changes("feed(119)", 1, "count(6)=1");
    }

    private static void lettersAreNoMore(Edge edge) {
        edge.says(3, RINK, "The letters, which are no more then");
        edge.on(Edge.BUSY);
        edge.changes("rink()", 2, "count(6)=0", "count(24)=7", "count(2)=2", "count(3)=0");
        edge.on(Edge.with(Edge.BUSY, "rink()"));
        edge.changes("rink()", -1000);
        edge.on(Edge.with(Edge.BUSY, "feed x"));
        edge.changes("rink()", -1009, "count(6)=0");
        edge.on(Edge.with(Edge.BUSY, "feed k70;"));
        edge.changes("rink()", -2009, "count(6)=0");
        edge.on(Edge.with(Edge.BUSY, "feed k70;", "rink()"));
        edge.changes("feed(119)", 1, "count(6)=1");
        edge.changes("rink()", -1000);
    }

    private static void howManyStatements(Edge edge) {
        edge.says(3, RINK, "how many STATEMENTS");
        told(edge, "w;", 1);
        told(edge, "w;w;", 2);
        told(edge, many("w;", 47), 47);
        told(edge, many("w;", 48), 48);
        told(edge, "s0=040;s1=1;k00;h0000;o00000;w;", 6);
        // Of the letters that are there alone, not of those told ahead.
        edge.on("feed w;w;w;w;k19;", "rink()", "feed k69;");
        edge.changes("rink()", 1, "count(6)=0", "count(2)=6");
    }

    private static void nothingIsCounted(Edge edge) {
        edge.says(3, RINK, "the FAULT (nothing is counted)");
        edge.on(Edge.WORN);
        edge.answers("rink()", -1000);
        fault(edge, "x", -1000);
        fault(edge, "s0=9;", -2000);
        fault(edge, "s5=9;", -2000);
        fault(edge, "h0120;", -2000);
        fault(edge, "k70;", -2000);
        fault(edge, "t001;", -2000);
        edge.on(Edge.with(Edge.WORN, "of(9, 9)", "lay(0, 0, 0, 4)", "feed x"));
        edge.changes("rink()", -1000, "count(6)=0");
    }

    private static void semicolonBehind(Edge edge) {
        edge.terms(3, "STATEMENTS, each with \";\" behind:");
        told(edge, "w;", 1);
        fault(edge, "w", -1001);
        fault(edge, "w:", -1001);
        fault(edge, "w<", -1001);
        fault(edge, "ww;", -1001);
        fault(edge, "w;;", -1002);
        fault(edge, ";", -1000);
        fault(edge, ";w;", -1000);
        fault(edge, "w;w", -1003);
        fault(edge, "s1=1", -1004);
        fault(edge, "k00", -1003);
        fault(edge, "h0000", -1005);
        fault(edge, "o00000", -1006);
        fault(edge, "t011", -1004);
    }

    private static void settingStatement(Edge edge) {
        edge.terms(3, "\"s\" a SETTING (a digit), \"=\", its number (1 to 3 digits);");
        told(edge, "s0=50;", 1, "count(20)=50");
        told(edge, "s4=9;", 1, "count(24)=9");
        fault(edge, "s5=9;", -2000);
        fault(edge, "s9=9;", -2000);
        fault(edge, "s=9;", -1001);
        fault(edge, "s/=9;", -1001);
        fault(edge, "s:=9;", -1001);
        fault(edge, "s44=9;", -1002);
        fault(edge, "s4;", -1002);
        fault(edge, "s4<9;", -1002);
        fault(edge, "s4>9;", -1002);
        fault(edge, "s4==9;", -1003);
        fault(edge, "s4=;", -1003);
        fault(edge, "s4=/;", -1003);
        fault(edge, "s4=:;", -1003);
        fault(edge, "s4=-1;", -1003);
        told(edge, "s4=0;", 1);
        told(edge, "s4=09;", 1, "count(24)=9");
        told(edge, "s4=009;", 1, "count(24)=9");
        fault(edge, "s4=0009;", -1006);
        fault(edge, "s2=1000;", -1006);
        fault(edge, "s4=9x;", -1004);
        fault(edge, "s4=99x;", -1005);
    }

    private static void settingNumbers(Edge edge) {
        edge.terms(3, "(a number out of range, no such PATCH, foot, HOUR, SETTING, no room)");
        told(edge, "s0=10;", 1, "count(20)=10");
        told(edge, "s0=99;", 1, "count(20)=99");
        fault(edge, "s0=0;", -2000);
        fault(edge, "s0=9;", -2000);
        fault(edge, "s0=100;", -2000);
        fault(edge, "s0=999;", -2000);
        told(edge, "s1=0;", 1, "count(21)=0");
        told(edge, "s1=9;", 1, "count(21)=9");
        fault(edge, "s1=10;", -2000);
        fault(edge, "s1=999;", -2000);
        told(edge, "s2=0;", 1, "count(22)=0");
        told(edge, "s2=100;", 1, "count(22)=100");
        fault(edge, "s2=101;", -2000);
        fault(edge, "s2=999;", -2000);
        told(edge, "s3=0;", 1);
        told(edge, "s3=9;", 1, "count(23)=9");
        fault(edge, "s3=10;", -2000);
        told(edge, "s4=9;", 1, "count(24)=9");
        fault(edge, "s4=10;", -2000);
        fault(edge, "s4=999;", -2000);
    }

    private static void skaterStatement(Edge edge) {
        edge.terms(3, "\"k\" KIND, FIGURE (a digit each);");
        told(edge, "k00;", 1);
        told(edge, "k09;", 1, "count(3)=9");
        told(edge, "k60;", 1, "count(2)=6");
        told(edge, "k69;", 1, "count(2)=6", "count(3)=9");
        fault(edge, "k70;", -2000);
        fault(edge, "k99;", -2000);
        fault(edge, "k;", -1001);
        fault(edge, "k6;", -1002);
        fault(edge, "k690;", -1003);
        fault(edge, "k/0;", -1001);
        fault(edge, "k:0;", -1001);
        fault(edge, "k0/;", -1002);
        fault(edge, "k0:;", -1002);
    }

    private static void hardStatement(Edge edge) {
        edge.terms(3, "\"h\" a PATCH (a digit), HOUR (2 digits), HARD (a digit);");
        for (int hour = 0; hour < 12; hour++) {
            String told = String.format("%02d", hour);
            told(edge, "h0" + told + "2;", 1, "ice(0, " + hour + ", 0)=2", "count(4)=2");
            told(edge, "h1" + told + "2;", 1, "ice(1, " + hour + ", 0)=2", "count(4)=2");
        }
        told(edge, "h0003;", 1, "ice(0, 0, 0)=3", "count(4)=3");
        told(edge, "h1111;", 1, "ice(1, 11, 0)=1", "count(4)=1");
        told(edge, "h1093;h1090;", 2);
        fault(edge, "h2000;", -2000);
        fault(edge, "h9000;", -2000);
        fault(edge, "h0120;", -2000);
        fault(edge, "h1990;", -2000);
        fault(edge, "h0004;", -2000);
        fault(edge, "h1119;", -2000);
        fault(edge, "h;", -1001);
        fault(edge, "h1;", -1002);
        fault(edge, "h11;", -1003);
        fault(edge, "h111;", -1004);
        fault(edge, "h11111;", -1005);
        fault(edge, "h/111;", -1001);
        fault(edge, "h1:11;", -1002);
        fault(edge, "h11/1;", -1003);
        fault(edge, "h111:;", -1004);
    }

    private static void oldStatement(Edge edge) {
        edge.terms(3, "\"o\" a PATCH (a digit), HOUR (2 digits), RADIUS (2 digits);");
        for (int hour = 0; hour < 12; hour++) {
            String told = String.format("%02d", hour);
            told(edge, "o0" + told + "70;", 1, "ice(0, " + hour + ", 1)=70", "count(5)=1");
            told(edge, "o1" + told + "07;", 1, "ice(1, " + hour + ", 1)=7", "count(5)=1");
        }
        told(edge, "o00001;", 1, "ice(0, 0, 1)=1", "count(5)=1");
        told(edge, "o11199;", 1, "ice(1, 11, 1)=99", "count(5)=1");
        told(edge, "o11199;o11100;", 2);
        fault(edge, "o20001;", -2000);
        fault(edge, "o90001;", -2000);
        fault(edge, "o01201;", -2000);
        fault(edge, "o19901;", -2000);
        fault(edge, "o;", -1001);
        fault(edge, "o1;", -1002);
        fault(edge, "o11;", -1003);
        fault(edge, "o111;", -1004);
        fault(edge, "o1119;", -1005);
        fault(edge, "o111999;", -1006);
        fault(edge, "o/1199;", -1001);
        fault(edge, "o1/199;", -1002);
        fault(edge, "o11:99;", -1003);
        fault(edge, "o111/9;", -1004);
        fault(edge, "o1119:;", -1005);
    }

    private static void traceStatement(Edge edge) {
        edge.terms(3, "\"t\" a foot, PUSH, LEAN (a digit each): a TRACE is drawn;");
        edge.on("feed s1=0;t011;");
        edge.changes("rink()", 2, Edge.with(edge.line(0, 0, 1, 1, 60), "count(6)=0", "count(21)=0"));
        edge.on("feed s1=0;t199;");
        edge.changes("rink()", 2, Edge.with(edge.line(0, 1, 9, 9, 60), "count(6)=0", "count(21)=0"));
        edge.on("feed s1=0;t191;");
        edge.changes("rink()", 2, Edge.with(edge.line(0, 1, 9, 1, 540), "count(6)=0", "count(21)=0"));
        fault(edge, "t211;", -2000);
        fault(edge, "t911;", -2000);
        fault(edge, "t001;", -2000);
        fault(edge, "t010;", -2000);
        fault(edge, "t;", -1001);
        fault(edge, "t0;", -1002);
        fault(edge, "t01;", -1003);
        fault(edge, "t0111;", -1004);
        fault(edge, "t/11;", -1001);
        fault(edge, "t0:1;", -1002);
        fault(edge, "t01/;", -1003);
    }

    private static void sweepStatement(Edge edge) {
        edge.terms(3, "\"w\": all TRACES are swept.");
        told(edge, "w;", 1);
        told(edge, "t011;w;", 2);
        told(edge, many("t011;", 6) + "w;", 7);
        edge.on("set(1, 0)", "draw(0, 6, 9)", "feed w;t123;");
        edge.changes("rink()", 2, Edge.with(edge.line(0, 1, 2, 3, 40), "count(6)=0", "count(1)=0"));
        fault(edge, "w0;", -1001);
        fault(edge, "W;", -1000);
    }

    private static void atLeastOne(Edge edge) {
        edge.terms(3, "At least one STATEMENT.");
        edge.answers("rink()", -1000);
        edge.on(Edge.WORN);
        edge.answers("rink()", -1000);
        told(edge, "w;", 1);
    }

    private static void firstPlace(Edge edge) {
        edge.terms(3, "FAULT: kind 1 the place of the first letter with which no RINK can go on");
        fault(edge, "x", -1000);
        fault(edge, "xw;", -1000);
        fault(edge, "w;x", -1002);
        fault(edge, "w;xx;w;", -1002);
        told(edge, many("w;", 47) + "xx", -1094);
        told(edge, many("w;", 47) + "wx", -1095);
        told(edge, many("w;", 47) + "t1", -1096);
    }

    /** Of all letters that can be fed six begin a STATEMENT, ten are digits. */
    private static void everyLetter(Edge edge) {
        edge.terms(3, "FAULT: kind 1 the place of the first letter with which no RINK can go on");
        for (int letter = 0; letter <= 255; letter++) {
            boolean starts = letter < 128 && STARTS.indexOf(letter) >= 0;
            edge.on("feed(" + letter + ")");
            edge.changes("rink()", starts ? -1001 : -1000, "count(6)=0");
            boolean digit = letter >= '0' && letter <= '9';
            edge.on("feed(107)", "feed(" + letter + ")", "feed(120)");
            edge.changes("rink()", digit ? -1002 : -1001, "count(6)=0");
            boolean ends = letter == ';';
            edge.on("feed(119)", "feed(" + letter + ")");
            edge.changes("rink()", ends ? 1 : -1001, "count(6)=0");
        }
    }

    private static void somethingLacks(Edge edge) {
        edge.terms(3, "(the end, if something lacks): -1000 less the place;");
        fault(edge, "s", -1001);
        fault(edge, "s1", -1002);
        fault(edge, "s1=", -1003);
        fault(edge, "s1=1", -1004);
        fault(edge, "s1=11", -1005);
        fault(edge, "s1=111", -1006);
        fault(edge, "k", -1001);
        fault(edge, "k1", -1002);
        fault(edge, "h", -1001);
        fault(edge, "h1", -1002);
        fault(edge, "h11", -1003);
        fault(edge, "h111", -1004);
        fault(edge, "o1119", -1005);
        fault(edge, "t", -1001);
        fault(edge, "t1", -1002);
        fault(edge, "t11", -1003);
        told(edge, many("w;", 47) + "w", -1095);
        told(edge, many("w;", 46) + "k11", -1095);
        told(edge, many("w;", 46) + "t111", -1096);
    }

    private static void firstStatement(Edge edge) {
        edge.terms(3, "else kind 2 the place of the first letter of the first STATEMENT that is not as it must be");
        fault(edge, "k70;", -2000);
        fault(edge, "w;k70;", -2002);
        fault(edge, "w;k70;k80;t000;", -2002);
        fault(edge, "s0=50;k55;t069;w;h0014;k70;", -2017);
        told(edge, many("w;", 46) + "k70;", -2092);
        told(edge, many("w;", 46) + "k60;", 47, "count(2)=6");
    }

    private static void noRoom(Edge edge) {
        edge.terms(3, "(a number out of range, no such PATCH, foot, HOUR, SETTING, no room): -2000 less the place.");
        edge.on("set(1, 0)", "feed " + many("t111;", 6));
        String[] six = {"count(6)=0"};
        for (int number = 0; number < 6; number++) {
            six = Edge.with(six, edge.line(number, 1, 1, 1, 60));
        }
        edge.changes("rink()", 6, six);
        told(edge, many("t011;", 7), -2030);
        told(edge, many("t011;", 6) + "w;" + many("t011;", 7), -2062);
        told(edge, many("t011;", 6) + "w;t011;w;", 9);
        edge.on("draw(0, 1, 1)", "draw(0, 1, 1)", "draw(0, 1, 1)", "draw(0, 1, 1)", "draw(0, 1, 1)",
            "set(1, 0)", "feed t199;");
        edge.changes("rink()", 1, Edge.with(edge.line(5, 1, 9, 9, 60), "count(6)=0"));
        edge.on("draw(0, 1, 1)", "draw(0, 1, 1)", "draw(0, 1, 1)", "draw(0, 1, 1)", "draw(0, 1, 1)",
            "draw(0, 1, 1)", "feed t199;");
        edge.changes("rink()", -2000, "count(6)=0");
        edge.on(Edge.with(Edge.WORN, "feed " + many("t011;", 4)));
        edge.changes("rink()", -2015, "count(6)=0");
    }

    private static void formFirst(Edge edge) {
        edge.terms(3, "FAULT: kind 1 the place of the first letter with which no RINK can go on (the end, if "
            + "something lacks): -1000 less the place; else kind 2");
        fault(edge, "k70;x", -1004);
        fault(edge, "k70;w", -1005);
        fault(edge, "s9=999;t211;k0", -1014);
        fault(edge, many("t011;", 7) + "?", -1035);
    }

    private static void allOrNothing(Edge edge) {
        edge.terms(3, "Without FAULT all of it comes, with one nothing.");
        String good = "s0=10;s1=0;s2=0;s3=9;s4=9;h0003;o11199;k69;t011;";
        edge.on("feed " + good);
        edge.changes("rink()", 9, Edge.with(edge.line(0, 0, 1, 1, 60), "count(6)=0", "count(20)=10",
            "count(21)=0", "count(22)=0", "count(23)=9", "count(24)=9", "ice(0, 0, 0)=3", "count(4)=3",
            "ice(1, 11, 1)=99", "count(5)=1", "count(2)=6", "count(3)=9"));
        fault(edge, good + "w;x", -1000 - good.length() - 2);
        fault(edge, good + "w;k70;", -2000 - good.length() - 2);
        fault(edge, good + "w;s0=9;", -2000 - good.length() - 2);
        fault(edge, "w;" + good + many("t011;", 6), -2002 - good.length() - 25);
    }
}
