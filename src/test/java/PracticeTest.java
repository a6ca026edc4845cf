/** Promises 25, 26, 31: hours, won, seeds. */
public final class PracticeTest {
    private static final Check check = new Check();

    public static void main(String[] args) {
        hoursOfPractice();
        whoWouldHaveWon();
        seedsOfOne();
        seedsBehindOneAnother();
        check.finish("PracticeTest");
    }

    private static void hours(EightOnIce x, int h, int f, int marks) {
        check.due("hours(" + h + ", 0)", x.hours(h, 0), f);
        check.due("hours(" + h + ", 1)", x.hours(h, 1), marks);
    }

    private static void hoursOfPractice() {
        EightOnIce x = new EightOnIce();
        hours(x, 0, 0, 0);
        // f 1: 59; f 0: 40: 60 * 59 by 100
        hours(x, 1, 1, 35);
        hours(x, 40, 12, 872);
        x.set(2, 0);
        hours(x, 40, 0, 2000);
        // 40 * 3 and 9 by 4, cut
        hours(x, 3, 0, 122);
        x.set(2, 100);
        // 60 f less f times f is most at 30
        hours(x, 40, 30, 900);
        hours(x, 29, 29, 899);
        x.set(2, 50);
        // 1000 for f 0, less for each other
        hours(x, 40, 0, 1000);
        // Of f 0 (40 * 39 and 380, 970) and others as much the least
        hours(x, 39, 0, 970);
    }

    private static void whoWouldHaveWon() {
        EightOnIce x = new EightOnIce();
        check.due("won(0)", x.won(0), -9);
        check.due("won(1)", x.won(1), 50);
        check.due("won(20)", x.won(20), 50);
        check.due("won(35)", x.won(35), 50);
        check.due("won(39)", x.won(39), 60);
        check.due("won(40)", x.won(40), 60);
        x.set(2, 0);
        check.due("whatever WEIGHT is", x.won(40), 60);
        check.due("WEIGHT stays", x.count(22), 0);
    }

    private static void seedsOfOne() {
        EightOnIce x = new EightOnIce();
        // z 1: 1103527590, 2524885223 (as an int below 0), 662824084 behind one another
        int foot = 1103527590 / 65536 % 2;
        int push = (int) ((2524885223L & 0x7fffffff) / 65536 % 9 + 1);
        int lean = 662824084 / 65536 % 9 + 1;
        check.due("OFF", x.seeds(1, 1, 0), x.next(foot, push, lean, -1));
        check.due("foot", foot, 0);
        check.due("PUSH", push, 8);
        check.due("LEAN", lean, 7);
        check.due("OFF of 68 68 67 67 66 66 66 65 65 64 64 63", x.seeds(1, 1, 0), 789 - 480);
        check.due("how many", x.seeds(1, 1, 1), 0);
        x.set(0, 61);
        check.due("OFF by 57", x.seeds(1, 1, 0), 789 - 732);
        check.due("less than 60", x.seeds(1, 1, 1), 1);
        x.set(1, 0);
        x.set(0, 63);
        check.due("68 each: OFF by 60", x.seeds(1, 1, 0), 60);
        check.due("60 is not less than 60", x.seeds(1, 1, 1), 0);
        x.lay(0, 11, 0, 3);
        check.due("67 at HOUR 11: OFF by 59", x.seeds(1, 1, 0), 59);
        check.due("59 is less than 60", x.seeds(1, 1, 1), 1);
        x.lay(0, 1, 0, 3);
        check.due("OFF on hard ice", x.seeds(1, 1, 0), x.next(0, 8, 7, -1));
        check.due("the same seed again", x.seeds(7, -5, 0), x.seeds(7, -5, 0));
    }

    /** SEEDS as the draws tell, drawn for real behind two that are there. */
    private static void seedsBehindOneAnother() {
        for (int z = -3; z <= 3; z++) {
            for (int kind = 0; kind < 7; kind++) {
                EightOnIce x = new EightOnIce();
                x.skater(kind, 3);
                x.lay(0, 4, 1, 60);
                x.lay(1, 7, 0, 2);
                x.draw(0, 9, 4);
                x.draw(1, 5, 9);
                int all = x.seeds(4, z * 1000003, 0);
                int near = x.seeds(4, z * 1000003, 1);
                int[] drawn = drawForReal(x, z * 1000003);
                check.due("OFF of four by KIND " + kind, all, drawn[0]);
                check.due("how many of four by KIND " + kind, near, drawn[1]);
            }
        }
    }

    private static int[] drawForReal(EightOnIce x, int z) {
        int[] sums = new int[2];
        for (int i = 0; i < 4; i++) {
            int[] drawn = new int[3];
            int[] below = {2, 9, 9};
            for (int j = 0; j < 3; j++) {
                z = z * 1103515245 + 12345;
                drawn[j] = (z & 0x7fffffff) / 65536 % below[j];
            }
            int off = x.of(x.draw(drawn[0], drawn[1] + 1, drawn[2] + 1), 5);
            sums[0] += off;
            sums[1] += off < 60 ? 1 : 0;
        }
        return sums;
    }
}
