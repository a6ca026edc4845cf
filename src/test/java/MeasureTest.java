/** Promises 11, 12, 13, 14: of, mean, close, spread. */
public final class MeasureTest {
    private static final Check check = new Check();

    public static void main(String[] args) {
        ofATrace();
        wobbleRoundTheCircle();
        flats();
        means();
        closeAndSpread();
        check.finish("MeasureTest");
    }

    private static void ofWhats(EightOnIce x, int trace, int... want) {
        for (int what = 0; what < want.length; what++) {
            check.due("of(" + trace + ", " + what + ")", x.of(trace, what), want[what]);
        }
    }

    private static void ofATrace() {
        EightOnIce x = new EightOnIce();
        x.draw(0, 6, 9);
        // 40 39 39 39 38 38 38 37 37 37 36 36
        ofWhats(x, 0, 0, 6, 9, 4, 4, 26, 0, 5, 0);
        x.skater(5, 3);
        x.draw(1, 6, 5);
        // 64 64 63 66 59 62 61 61 61 60 60 59: at 3 |132 - 122|, at 4 |118 - 128|
        ofWhats(x, 1, 1, 6, 5, 7, 5, 260, 3, 10, 0);
        x.set(0, 60);
        check.due("OFF by another SIZE", x.of(0, 5), 12 * 60 - 454);
        x.set(0, 38);
        check.due("OFF above and below", x.of(0, 5), 2 + 3 + 3 + 4);
    }

    private static void wobbleRoundTheCircle() {
        EightOnIce x = new EightOnIce();
        x.lay(0, 11, 1, 99);
        x.skater(6, 9);
        x.set(1, 0);
        x.draw(0, 6, 9);
        // 40 everywhere but 93 at HOUR 11
        check.due("HOUR", x.of(0, 6), 11);
        check.due("how far", x.of(0, 7), 106);
        check.due("ROUND", x.of(0, 3), 53);
        check.due("GAP", x.of(0, 4), 53);
        x.lay(0, 11, 1, 0);
        x.lay(0, 0, 1, 1);
        x.draw(0, 6, 9);
        // A LOOKER's are 40, 66 at HOUR 11; then 9 tenths toward 1 at HOUR 0
        check.radii(x, 1, 5, 40, 40, 40, 40, 40, 40, 40, 40, 40, 40, 66);
        check.due("HOUR", x.of(1, 6), 0);
        check.due("how far", x.of(1, 7), 96);
        check.due("ROUND from HOUR 0 on", x.of(1, 3), 61);
        x.sweep();
        x.lay(0, 0, 1, 99);
        x.lay(0, 1, 1, 1);
        x.draw(0, 6, 9);
        // 93 5 40 .. 40: at HOUR 0 141 off, at HOUR 1 123, at HOUR 11 53
        check.due("HOUR", x.of(0, 6), 0);
        check.due("how far", x.of(0, 7), 141);
        check.due("ROUND", x.of(0, 3), 88);
        x.lay(0, 11, 1, 99);
        x.skater(6, 5);
        x.sweep();
        x.draw(0, 6, 9);
        // 69 21 40 .. 40 69: at HOUR 0 48 off, at HOUR 1 67, at HOUR 11 29 (round: HOUR 0 behind)
        check.due("HOUR 1", x.of(0, 6), 1);
        check.due("how far at HOUR 1", x.of(0, 7), 67);
        x.lay(0, 1, 1, 0);
        x.lay(0, 0, 1, 20);
        x.sweep();
        x.draw(0, 6, 9);
        // 30 40 .. 40 69: at HOUR 0 49 off, at HOUR 11 68 (58 by HOUR 1)
        check.due("HOUR 11 beside HOUR 0", x.of(0, 6), 11);
        check.due("how far at HOUR 11", x.of(0, 7), 68);
        x.sweep();
        x.skater(0, 0);
        x.draw(0, 6, 9);
        check.due("no wobble: the least HOUR", x.of(0, 6), 0);
        check.due("no wobble: how far", x.of(0, 7), 0);
    }

    private static void flats() {
        EightOnIce x = new EightOnIce();
        x.set(1, 0);
        x.lay(0, 0, 0, 1);
        x.draw(0, 6, 9);
        check.due("round at HOUR 0", x.of(0, 8), 1);
        x.lay(1, 5, 0, 1);
        check.due("HARD of the other PATCH", x.of(0, 8), 1);
        x.lay(0, 7, 0, 3);
        x.lay(0, 11, 0, 2);
        check.due("by the ice as it is now", x.of(0, 8), 1 + (1 << 7) + (1 << 11));
        x.draw(0, 6, 9);
        // 40 .. 40, 39 from HOUR 7 on, 38 (351 - 6 = 345 by 9) at HOUR 11
        check.due("not where it changes", x.of(1, 8), 0);
    }

    private static void means() {
        EightOnIce x = new EightOnIce();
        x.draw(0, 6, 9);
        check.due("454 by 12", x.mean(0, 0), 227);
        check.due("454 by 12", x.mean(0, 1), 6);
        x.set(1, 0);
        x.draw(0, 6, 9);
        check.due("480 by 12", x.mean(1, 0), 40);
        check.due("480 by 12", x.mean(1, 1), 1);
        x.set(1, 9);
        x.draw(0, 1, 9);
        // 6 3 0 ..: 60 33 6 by 9
        check.due("9 by 12", x.mean(2, 0), 3);
        check.due("9 by 12", x.mean(2, 1), 4);
        x.draw(0, 1, 5);
        // 12 6 1 0 ..
        check.due("19 by 12", x.mean(3, 0), 19);
        check.due("19 by 12", x.mean(3, 1), 12);
    }

    private static void closeAndSpread() {
        EightOnIce x = new EightOnIce();
        check.due("spread(0) of none", x.spread(0), -9);
        x.draw(0, 6, 9);
        check.due("spread(0) of one", x.spread(0), 0);
        check.due("spread(1) of none", x.spread(1), -9);
        x.skater(4, 0);
        x.draw(0, 6, 9);
        check.due("close(0, 1)", x.close(0, 1), 6);
        check.due("close(1, 0)", x.close(1, 0), 6);
        check.due("close(1, 1)", x.close(1, 1), 0);
        check.due("spread(0)", x.spread(0), 6);
        x.draw(1, 9, 1);
        check.due("another foot's", x.spread(0), 6);
        x.skater(0, 0);
        x.set(1, 0);
        x.draw(0, 6, 9);
        // 40 each: it is the greatest but where the second has 40, too
        check.due("of three", x.spread(0), 0 + 1 + 1 + 1 + 2 + 2 + 2 + 3 + 3 + 3 + 4 + 4);
        check.due("close of two feet", x.close(2, 3), 12 * 540 - 3 * 66 + 6 - 480);
        check.due("spread(1)", x.spread(1), 0);
        x.draw(1, 9, 9);
        check.due("HOUR 0 counts, too", x.spread(1), 12 * 540 - 3 * 66 + 6 - 12 * 60);
        x.sweep();
        x.draw(0, 6, 1);
        check.due("what is swept counts no more", x.spread(0), 0);
    }
}
