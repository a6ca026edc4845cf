/** Promises 15, 16, 17, 18, 19, 27: next, grows, calm, closes, correct, lot. */
public final class MindTest {
    private static final Check check = new Check();

    public static void main(String[] args) {
        nextOnes();
        growing();
        calmKinds();
        closing();
        correcting();
        lots();
        nothingChanges();
        check.finish("MindTest");
    }

    private static void nextOnes() {
        EightOnIce x = new EightOnIce();
        x.skater(1, 0);
        x.draw(0, 6, 9);
        int[] looked = {56, 55, 55, 55, 54, 54, 53, 52, 52, 52, 51, 51};
        for (int hour = 0; hour < 12; hour++) {
            check.due("next(0, 6, 5, " + hour + ")", x.next(0, 6, 5, hour), looked[hour]);
        }
        check.due("its OFF", x.next(0, 6, 5, -1), 160);
        check.due("the other foot has no TRACE", x.next(1, 6, 5, 0), 72);
        for (int i = 0; i < 5; i++) {
            x.draw(0, 6, 9);
        }
        check.due("with 6 TRACES, too", x.next(0, 6, 5, 0), 56);
        check.due("and nothing was drawn", x.count(0), 6);
    }

    private static void growing() {
        EightOnIce x = new EightOnIce();
        x.draw(0, 6, 9);
        check.due("FREE is as it was", x.grows(0, 6, 5, 0, 9), 0);
        // A LOOKER's first is 56 .. at SIZE 40, and comes nearer to 72 .. each time.
        check.due("LOOKER grows", x.grows(0, 6, 5, 1, 2), 1);
        check.due("CENTRED is as it was", x.grows(0, 6, 5, 2, 2), 0);
        check.due("LAGGED grows", x.grows(0, 6, 5, 3, 9), 1);
        check.due("STIFF is as it was", x.grows(0, 6, 5, 4, 5), 0);
        x.set(0, 10);
        x.draw(1, 2, 5);
        check.due("by two", x.grows(1, 1, 7, 1, 2), -1);
        check.due("by three", x.grows(1, 1, 7, 1, 3), 1);
        x.sweep();
        x.set(0, 40);
        x.draw(0, 6, 9);
        check.due("without a TRACE it is as it was", x.grows(1, 6, 5, 1, 2), 0);
        x.draw(0, 9, 9);
        // Behind 60 .. the LOOKER comes nearer to 40 .. again.
        check.due("LOOKER is less OFF", x.grows(0, 6, 9, 1, 2), -1);
        check.due("with the most", x.grows(0, 6, 9, 1, 9), -1);
        x.lay(0, 5, 1, 99);
        x.skater(0, 9);
        check.due("FIGURE as it is: led astray", x.grows(0, 6, 9, 6, 2), -1);
    }

    private static void calmKinds() {
        EightOnIce x = new EightOnIce();
        check.due("none grows without a TRACE but those", x.calm(0, 6, 9, 2), 127 - 8);
        x.draw(0, 6, 9);
        check.due("those who look grow", x.calm(0, 6, 5, 2), 1 + 4 + 16 + 32);
        x.draw(0, 9, 9);
        check.due("those who look come back", x.calm(0, 6, 9, 3), 127);
        for (int kind = 0; kind < 7; kind++) {
            int grows = x.grows(1, 7, 3, kind, 4);
            check.due("by KIND " + kind, x.calm(1, 7, 3, 4) >> kind & 1, grows == 1 ? 0 : 1);
        }
    }

    private static void closing() {
        EightOnIce x = new EightOnIce();
        check.due("closes(0)", x.closes(0), 79);
        x.set(1, 0);
        // Without RUB every GAP is 0: the least OFF, of several the least number.
        check.due("no RUB: 40 by 69", x.closes(0), 23);
        x.set(0, 60);
        check.due("no RUB: 60 by 11", x.closes(1), 11);
        x.set(0, 99);
        check.due("no RUB: 100 by 53", x.closes(1), 53);
        x.set(0, 77);
        check.due("no RUB: 77 by 97 alone", x.closes(1), 97);
        x.skater(4, 0);
        x.set(0, 10);
        check.due("STIFF: 10 and 11", x.closes(1), 16);
    }

    private static void correcting() {
        EightOnIce x = new EightOnIce();
        check.due("correct(0, 6, 9)", x.correct(0, 6, 9), 1);
        x.set(1, 0);
        check.due("as it must be already", x.correct(0, 6, 9), 0);
        check.due("far off", x.correct(1, 9, 1), 1);
        x.skater(5, 9);
        x.draw(0, 9, 1);
        check.due("by CENTRED and FREE, whoever skates", x.correct(0, 6, 9), 0);
        // 420 by 9 is 46: 6 above, a quarter of it 1, cut; 43 is 3 above: nothing to correct.
        check.due("a quarter is something", x.correct(0, 7, 9), 1);
        x.set(0, 43);
        check.due("a quarter is nothing", x.correct(0, 7, 9), 0);
    }

    private static void lots() {
        EightOnIce x = new EightOnIce();
        check.due("alike", x.lot(6, 9), 2);
        x.lay(0, 1, 0, 1);
        check.due("the left is harder, too small", x.lot(6, 9), 1);
        check.due("the left is harder, too large", x.lot(6, 5), 0);
        x.lay(0, 1, 0, 0);
        x.lay(1, 1, 0, 1);
        check.due("the right is harder", x.lot(6, 9), 0);
        x.lay(1, 1, 0, 0);
        x.skater(1, 0);
        x.draw(1, 9, 1);
        check.due("by the SKATER as he is", x.lot(6, 9), 0);
    }

    private static void nothingChanges() {
        EightOnIce x = new EightOnIce();
        x.skater(3, 4);
        x.draw(0, 6, 9);
        x.draw(1, 3, 2);
        String before = Check.stateOf(x);
        x.next(0, 5, 5, -1);
        x.grows(0, 5, 5, 3, 9);
        x.calm(1, 5, 5, 9);
        x.closes(0);
        x.correct(1, 5, 5);
        x.lot(5, 5);
        x.seeds(20, 77, 0);
        check.due("in mind alone", Check.stateOf(x).equals(before) ? 1 : 0, 1);
    }
}
