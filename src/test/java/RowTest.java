/** Promises 20, 21, 28, 29, 30: from, whose, row, judge, clear. */
public final class RowTest {
    private static final Check check = new Check();

    public static void main(String[] args) {
        rows();
        judged();
        whoseLine();
        whoseLargeLine();
        whereAWobbleIsFrom();
        check.finish("RowTest");
    }

    private static void rows() {
        EightOnIce x = new EightOnIce();
        check.due("clear() of none", x.clear(), 0);
        check.due("row(0)", x.row(0), 1);
        for (int n = 2; n <= 12; n++) {
            check.due("row(99)", x.row(99), n);
        }
        check.due("in the ROW", x.count(7), 12);
        check.due("clear()", x.clear(), 12);
        check.due("in the ROW then", x.count(7), 0);
    }

    private static void judged() {
        EightOnIce x = new EightOnIce();
        x.draw(0, 6, 9);
        x.draw(0, 9, 1);
        check.due("of none all is so", x.judge(0), -9);
        Check.rowOf(x, 40, 39, 39, 39, 38, 38, 38, 37, 37, 37, 36, 36);
        check.due("all is so", x.judge(0), -9);
        check.due("the ROW has none then", x.count(7), 0);
        Check.rowOf(x, 40, 39, 39, 39, 38, 38, 38, 37, 37, 37, 36, 35);
        check.due("the last is not", x.judge(0), 11);
        check.due("the ROW has none then either", x.count(7), 0);
        Check.rowOf(x, 40, 39, 38, 37);
        check.due("the first that is not", x.judge(0), 2);
        Check.rowOf(x, 40, 39);
        check.due("so far it is so", x.judge(0), -9);
        Check.rowOf(x, 99, 99);
        check.due("540 is not 99", x.judge(1), 0);
        Check.rowOf(x, 1, 2, 3);
        check.due("no such TRACE", x.judge(2), -1);
        check.due("the ROW stays then", x.count(7), 3);
    }

    private static void whoseLine() {
        EightOnIce x = new EightOnIce();
        Check.rowOf(x, 40, 39, 39, 39, 38, 38, 38, 37, 37, 37, 36, 36);
        // FREE, LOOKER, LAGGED, ASTRAY without lines to look at; CENTRED and WOBBLER 0, for a
        // quarter of 4 and less is 1 at 36 alone.
        check.due("whose(0, -1)", x.whose(0, -1), 1 + 2 + 8 + 64);
        check.due("whose(0, 0)", x.whose(0, 0), 69);
        check.due("whose(0, 4)", x.whose(0, 4), -9);
        check.due("the ROW stays", x.count(7), 12);
        Check.rowOf(x, 40, 40, 39, 40, 38, 39, 38, 38, 37, 38, 36, 37);
        check.due("a STIFF one's", x.whose(1, -1), 16);
        check.due("by which", x.whose(1, 4), 69);
        Check.rowOf(x, 0, 99, 0, 99, 0, 99, 0, 99, 0, 99, 0, 99);
        check.due("nobody's", x.whose(0, -1), 0);
        check.due("by none", x.whose(0, 0), -9);
        x.set(1, 0);
        x.skater(0, 9);
        Check.rowOf(x, 60, 60, 60, 60, 60, 60, 60, 60, 60, 60, 60, 60);
        check.due("the least of several", x.whose(0, 0), 11);
        Check.rowOf(x, 55, 55, 55, 55, 55, 55, 55, 55, 55, 64, 46, 55);
        check.due("a WOBBLER's, FIGURE as it is", x.whose(0, -1), 32);
        check.due("of an ASTRAY", x.whose(0, 6), -9);
        check.due("60 less a quarter of 20", x.whose(0, 5), 11);
        Check.rowOf(x, 50, 50, 50, 50, 50, 50, 50, 50, 50, 50, 50, 50);
        check.due("ASTRAY without lines", x.whose(0, 6), 56);
        Check.rowOf(x, 51, 50, 50, 50, 50, 50, 50, 50, 50, 50, 50, 50);
        check.due("HOUR 0 is looked at, too", x.whose(0, 0), -9);
        Check.rowOf(x, 77, 77, 77, 77, 77, 77, 77, 77, 77, 77, 77, 77);
        check.due("77 by 97 alone", x.whose(0, 0), 97);
        Check.rowOf(x, 50, 50, 50, 50, 50, 50, 50, 50, 50, 50, 50, 50);
        x.draw(1, 6, 9);
        check.due("those who look at 40", x.whose(1, -1) & 2 + 8 + 64, 2 + 8 + 64);
        check.due("by 60", x.whose(1, 1), 11);
        check.due("the other foot has nothing to look at", x.whose(0, 1), 56);
    }

    private static void whoseLargeLine() {
        EightOnIce x = new EightOnIce();
        Check.rowOf(x, 99, 99, 99, 99, 99, 99, 99, 99, 99, 99, 99, 99);
        // 180 .. 147 by 1; 120 .. 87 would be too small at the end
        check.due("above 99 is told as 99", x.whose(0, 0), 31);
        check.due("STIFF", x.whose(0, 4), 31);
    }

    private static void fraction(EightOnIce x, int hour, int what, int above, int below) {
        String call = "from(" + hour + ", " + what;
        check.due(call + ", 0)", x.from(hour, what, 0), above);
        check.due(call + ", 1)", x.from(hour, what, 1), below);
    }

    private static void whereAWobbleIsFrom() {
        EightOnIce x = new EightOnIce();
        fraction(x, 11, 2, 0, 1);
        x.set(1, 0);
        x.skater(5, 2);
        x.draw(0, 6, 9);
        // 42 at HOUR 2, 38 at 3: 6 off at both, 2 off beside them
        fraction(x, 2, 0, 0, 1);
        x.draw(1, 6, 9);
        fraction(x, 2, 0, 1, 1);
        fraction(x, 1, 0, 0, 1);
        x.draw(1, 6, 9);
        x.lay(0, 2, 0, 1);
        x.lay(1, 2, 0, 3);
        // BODY 3, ICE 12
        fraction(x, 2, 0, 1, 5);
        fraction(x, 2, 1, 4, 5);
        fraction(x, 2, 2, 0, 1);
        x.lay(1, 2, 1, 50);
        // BODY 3, ICE 12, LINE 2
        fraction(x, 2, 0, 3, 17);
        fraction(x, 2, 1, 12, 17);
        fraction(x, 2, 2, 2, 17);
        x.lay(0, 2, 1, 1);
        fraction(x, 2, 2, 4, 19);
        x.lay(0, 0, 1, 1);
        fraction(x, 0, 2, 1, 1);
        wobbleOfJustFour();
        wobbleOfThree();
        wobbleOfTheRightAlone();
    }

    private static void wobbleOfThree() {
        EightOnIce x = new EightOnIce();
        x.skater(4, 0);
        x.draw(0, 6, 9);
        x.draw(1, 6, 9);
        // 40 40 39 40 38 39 38 38 37 38 36 37: at HOUR 3 3 off, at HOUR 4 3
        check.due("how far", x.of(0, 7), 3);
        for (int hour = 0; hour < 12; hour++) {
            fraction(x, hour, 0, 0, 1);
        }
    }

    private static void wobbleOfTheRightAlone() {
        EightOnIce x = new EightOnIce();
        x.skater(5, 9);
        x.draw(0, 6, 9);
        x.draw(0, 6, 9);
        x.draw(0, 6, 9);
        x.sweep();
        x.draw(1, 6, 9);
        x.draw(1, 6, 9);
        fraction(x, 9, 0, 0, 1);
        x.lay(1, 9, 1, 1);
        fraction(x, 9, 0, 0, 1);
        fraction(x, 9, 2, 1, 1);
        x.lay(0, 9, 0, 1);
        // BODY 0, ICE 3, LINE 2
        fraction(x, 9, 1, 3, 5);
        fraction(x, 9, 2, 2, 5);
    }

    private static void wobbleOfJustFour() {
        EightOnIce x = new EightOnIce();
        x.set(1, 0);
        x.skater(6, 1);
        x.lay(0, 0, 1, 60);
        x.lay(1, 0, 1, 60);
        x.lay(0, 6, 1, 50);
        x.lay(1, 6, 1, 50);
        x.draw(0, 6, 9);
        x.draw(1, 6, 9);
        // 42 at HOUR 0: 4 off, beside it 2 off; 41 at HOUR 6: 2 off
        fraction(x, 0, 0, 1, 3);
        fraction(x, 11, 0, 0, 1);
        fraction(x, 6, 0, 0, 1);
        fraction(x, 6, 2, 1, 1);
    }
}
