/** Promises 8, 9, 10: draw by each KIND, sweep, trace. */
public final class DrawTest {
    private static final Check check = new Check();

    public static void main(String[] args) {
        freeOnHardIce();
        paceRunsOut();
        lookers();
        centredOnes();
        stiffOnes();
        wobblers();
        ledAstray();
        roomForSix();
        check.finish("DrawTest");
    }

    private static void freeOnHardIce() {
        EightOnIce x = new EightOnIce();
        check.due("draw(0, 6, 9)", x.draw(0, 6, 9), 0);
        check.radii(x, 0, 40, 39, 39, 39, 38, 38, 38, 37, 37, 37, 36, 36);
        x.lay(1, 0, 0, 3);
        x.lay(1, 4, 0, 3);
        check.due("draw(1, 6, 9)", x.draw(1, 6, 9), 1);
        check.radii(x, 1, 40, 39, 39, 39, 37, 37, 37, 36, 36, 36, 35, 35);
        check.due("HARD of the other PATCH does nothing", x.draw(0, 6, 9), 2);
        check.radii(x, 2, 40, 39, 39, 39, 38, 38, 38, 37, 37, 37, 36, 36);
        check.due("the foot", x.of(1, 0), 1);
        check.due("the PUSH", x.of(1, 1), 6);
        check.due("the LEAN", x.of(1, 2), 9);
        x.draw(0, 9, 1);
        check.due("the largest", x.trace(3, 0), 540);
    }

    private static void paceRunsOut() {
        EightOnIce x = new EightOnIce();
        x.set(1, 9);
        x.draw(0, 1, 1);
        check.radii(x, 0, 60, 33, 6, 0, 0, 0, 0, 0, 0, 0, 0, 0);
    }

    private static void lookers() {
        EightOnIce x = new EightOnIce();
        x.skater(1, 0);
        x.draw(0, 6, 9);
        check.radii(x, 0, 40, 39, 39, 39, 38, 38, 38, 37, 37, 37, 36, 36);
        x.draw(1, 6, 5);
        check.radii(x, 1, 72, 71, 70, 70, 69, 69, 68, 67, 67, 66, 66, 65);
        x.draw(0, 6, 5);
        check.radii(x, 2, 56, 55, 55, 55, 54, 54, 53, 52, 52, 52, 51, 51);
        x.sweep();
        x.skater(0, 0);
        x.draw(0, 6, 9);
        x.skater(3, 0);
        x.draw(0, 6, 5);
        check.radii(x, 1, 54, 56, 55, 55, 54, 54, 53, 53, 52, 52, 52, 51);
        x.draw(1, 6, 9);
        check.radii(x, 2, 40, 39, 39, 39, 38, 38, 38, 37, 37, 37, 36, 36);
    }

    private static void centredOnes() {
        EightOnIce x = new EightOnIce();
        x.skater(2, 5);
        x.draw(0, 6, 5);
        check.radii(x, 0, 64, 64, 63, 63, 62, 62, 61, 61, 61, 60, 60, 59);
        x.set(0, 99);
        x.draw(0, 6, 9);
        check.radii(x, 1, 54, 54, 54, 54, 53, 53, 53, 52, 52, 52, 51, 51);
    }

    private static void stiffOnes() {
        EightOnIce x = new EightOnIce();
        x.skater(4, 9);
        x.draw(1, 6, 9);
        check.radii(x, 0, 40, 40, 39, 40, 38, 39, 38, 38, 37, 38, 36, 37);
    }

    private static void wobblers() {
        EightOnIce x = new EightOnIce();
        x.skater(5, 3);
        x.draw(0, 6, 5);
        check.radii(x, 0, 64, 64, 63, 66, 59, 62, 61, 61, 61, 60, 60, 59);
        x.skater(5, 0);
        x.draw(0, 6, 5);
        check.radii(x, 1, 64, 64, 63, 63, 62, 62, 61, 61, 61, 60, 60, 59);
        x.set(0, 10);
        x.set(1, 9);
        x.skater(5, 9);
        x.draw(0, 1, 1);
        check.radii(x, 2, 48, 28, 7, 2, 2, 2, 2, 2, 2, 11, 0, 2);
    }

    private static void ledAstray() {
        EightOnIce x = new EightOnIce();
        x.lay(0, 5, 1, 50);
        x.lay(0, 6, 1, 20);
        x.lay(1, 7, 1, 1);
        x.skater(6, 7);
        x.draw(0, 6, 9);
        check.radii(x, 0, 40, 39, 39, 39, 38, 46, 26, 37, 37, 37, 36, 36);
        x.draw(0, 6, 5);
        // As a LOOKER 58 at HOUR 5 and 47 at HOUR 6; then 7 tenths toward 50 and 20.
        check.radii(x, 1, 56, 55, 55, 55, 54, 53, 29, 52, 52, 52, 51, 51);
        x.skater(6, 0);
        x.draw(1, 6, 9);
        check.due("FIGURE 0 is not led astray", x.trace(2, 7), 37);
    }

    private static void roomForSix() {
        EightOnIce x = new EightOnIce();
        check.due("sweep() of none", x.sweep(), 0);
        for (int number = 0; number < 6; number++) {
            check.due("draw", x.draw(number % 2, 1 + number, 9), number);
        }
        check.due("sweep()", x.sweep(), 6);
        check.due("TRACES then", x.count(0), 0);
        check.due("the first again", x.draw(1, 9, 9), 0);
    }
}
