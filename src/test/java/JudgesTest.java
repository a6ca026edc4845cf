/** Promises 22, 23, 24: mark, fits, fewest. */
public final class JudgesTest {
    private static final Check check = new Check();

    public static void main(String[] args) {
        marks();
        boundsBehindEach();
        closeOnes();
        fitting();
        fewestLines();
        fewestOfSeveral();
        check.finish("JudgesTest");
    }

    private static void marksOf(EightOnIce x, int trace, int... want) {
        for (int kind = 0; kind < 5; kind++) {
            check.due("mark(" + kind + ", " + trace + ")", x.mark(kind, trace), want[kind]);
        }
    }

    private static void marks() {
        EightOnIce x = new EightOnIce();
        x.draw(0, 6, 9);
        // OFF 26, GAP 4
        marksOf(x, 0, 50, 50, 50, 50, 50);
        x.lay(0, 2, 0, 1);
        x.lay(0, 3, 0, 2);
        x.lay(0, 4, 0, 2);
        // FLATS at 2 and 3
        x.set(3, 2);
        x.set(4, 3);
        marksOf(x, 0, 50, 46, 56, 59, 46);
    }

    private static void boundsBehindEach() {
        EightOnIce x = new EightOnIce();
        x.set(3, 9);
        x.set(4, 9);
        x.draw(0, 6, 9);
        marksOf(x, 0, 50, 50, 60, 60, 50);
        x.draw(1, 9, 1);
        // Far OFF: a JUDGE's is 0, not less, before NAME and ORDER come to it
        marksOf(x, 1, 0, 0, 27, 36, 0);
    }

    private static void closeOnes() {
        EightOnIce x = new EightOnIce();
        x.draw(0, 6, 9);
        x.draw(1, 9, 9);
        x.set(1, 0);
        x.draw(0, 6, 9);
        // 40 each: OFF 0, GAP 0, CLOSE to TRACE 0 is 26: 3 less
        marksOf(x, 2, 60, 60, 60, 60, 57);
        x.draw(0, 6, 9);
        check.due("by the latest ahead of it", x.mark(4, 3), 60);
        check.due("one behind it counts for nothing", x.mark(4, 2), 57);
        check.due("the first has none ahead", x.mark(4, 0), x.mark(0, 0));
        check.due("the other foot's first, too", x.mark(4, 1), x.mark(0, 1));
    }

    private static void fitting() {
        EightOnIce x = new EightOnIce();
        check.due("of none all fit", x.fits(), 31);
        x.draw(0, 6, 9);
        x.set(3, 2);
        Check.rowOf(x, 50);
        check.due("50", x.fits(), 1 + 2 + 16);
        check.due("the ROW stays", x.count(7), 1);
        Check.rowOf(x, 56);
        check.due("56", x.fits(), 4 + 8);
        x.set(4, 1);
        check.due("56 with ORDER", x.fits(), 4);
        Check.rowOf(x, 55);
        check.due("55", x.fits(), 0);
        x.set(1, 0);
        x.draw(0, 6, 9);
        Check.rowOf(x, 50, 57);
        check.due("one behind the other", x.fits(), 16);
        Check.rowOf(x, 57, 50);
        check.due("the wrong way", x.fits(), 0);
    }

    private static void fewestLines() {
        EightOnIce x = new EightOnIce();
        check.due("how many of none", x.fewest(0), -9);
        check.due("the set of none", x.fewest(1), -9);
        x.draw(0, 6, 9);
        x.set(3, 1);
        x.set(4, 1);
        check.due("SWEEPER is as JUDGE", x.fewest(0), -9);
        x.lay(0, 3, 0, 1);
        check.due("CLOSE one is as SWEEPER", x.fewest(0), -9);
        x.set(1, 0);
        x.lay(0, 3, 0, 0);
        x.draw(0, 6, 9);
        x.lay(0, 3, 0, 1);
        // TRACE 0: 50 48 53 54 48; TRACE 1: 60 58 60 60 55
        marksOf(x, 0, 50, 48, 53, 54, 48);
        marksOf(x, 1, 60, 58, 60, 60, 55);
        check.due("both", x.fewest(0), 2);
        check.due("the set of both", x.fewest(1), 3);
        x.set(4, 0);
        check.due("ORDERLY is as NAMER", x.fewest(0), -9);
        x.set(4, 1);
        x.set(3, 0);
        check.due("NAMER is as JUDGE", x.fewest(1), -9);
        x.set(3, 1);
        x.lay(0, 3, 0, 0);
        check.due("SWEEPER alone is as JUDGE", x.fewest(0), -9);
        x.lay(0, 3, 0, 1);
        check.due("told apart again", x.fewest(1), 3);
    }

    private static void fewestOfSeveral() {
        EightOnIce x = new EightOnIce();
        x.set(3, 1);
        x.set(4, 1);
        x.draw(0, 6, 8);
        x.draw(0, 6, 9);
        x.draw(1, 6, 8);
        x.draw(1, 6, 9);
        x.lay(0, 2, 0, 1);
        x.lay(1, 2, 0, 1);
        // 45 44 44 43 43 43 42 42 42 41 41 40 ahead of it: CLOSE is 510 less 454
        marksOf(x, 1, 50, 48, 53, 54, 41);
        marksOf(x, 3, 50, 48, 53, 54, 41);
        check.due("one is enough", x.fewest(0), 1);
        check.due("the least such", x.fewest(1), 2);
    }
}
