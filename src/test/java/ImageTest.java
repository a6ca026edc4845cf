/** Promises 32, 33, 34: image, restore, count. */
public final class ImageTest {
    private static final Check check = new Check();

    public static void main(String[] args) {
        allComesBack();
        whatTheImageHasNot();
        counts();
        check.finish("ImageTest");
    }

    private static EightOnIce busy() {
        EightOnIce x = new EightOnIce();
        Check.tell(x, "s0=50;s1=2;s2=70;s3=4;s4=5;k63;h0102;o11177;t069;t123;t098;");
        x.lay(1, 11, 0, 1);
        x.lay(0, 0, 1, 5);
        return x;
    }

    private static void allComesBack() {
        EightOnIce x = busy();
        String before = Check.stateOf(x);
        check.due("image()", x.image(), 3);
        Check.tell(x, "w;s0=10;s1=0;s2=0;s3=0;s4=0;k00;h0100;h1110;o11100;o00000;t111;t111;t111;t111;");
        check.due("TRACES then", x.count(0), 4);
        check.due("restore()", x.restore(), 3);
        check.due("all is as it was", Check.stateOf(x).equals(before) ? 1 : 0, 1);
        x.sweep();
        x.draw(1, 1, 1);
        x.set(0, 99);
        x.lay(0, 0, 0, 1);
        check.due("restore() again", x.restore(), 3);
        check.due("and again as it was", Check.stateOf(x).equals(before) ? 1 : 0, 1);
        x.sweep();
        check.due("image() of none", x.image(), 0);
        x.draw(0, 1, 1);
        check.due("restore() of none", x.restore(), 0);
        check.due("no TRACES", x.count(0), 0);
    }

    private static void whatTheImageHasNot() {
        EightOnIce x = busy();
        Check.feedAll(x, "w;");
        Check.rowOf(x, 1, 2, 3);
        x.of(9, 9);
        x.image();
        x.feed('w');
        x.row(4);
        x.of(9, 9);
        x.restore();
        check.due("letters stay", x.count(6), 3);
        check.due("the ROW stays", x.count(7), 4);
        check.due("REFUSALS stay", x.count(11), 2);
        check.due("the letters are those told", x.rink(), -1003);
    }

    private static void counts() {
        EightOnIce x = busy();
        x.lay(1, 4, 0, 3);
        x.lay(1, 5, 1, 5);
        Check.feedAll(x, "abcd");
        Check.rowOf(x, 1, 2);
        int[] want = {3, 2, 6, 3, 6, 3, 4, 2};
        for (int what = 0; what < want.length; what++) {
            check.due("count(" + what + ")", x.count(what), want[what]);
        }
        int[] settings = {50, 2, 70, 4, 5};
        for (int setting = 0; setting < settings.length; setting++) {
            check.due("count(" + (20 + setting) + ")", x.count(20 + setting), settings[setting]);
        }
        int[] no = {-1, 8, 9, 10, 17, 18, 19, 25, 100, Integer.MAX_VALUE, Integer.MIN_VALUE};
        for (int what : no) {
            check.due("count(" + what + ")", x.count(what), -9);
        }
        refusalCounts(x);
    }

    private static void refusalCounts(EightOnIce x) {
        x.trace(3, 0);
        x.mean(3, 0);
        x.grows(2, 1, 1, 0, 2);
        x.skater(7, 0);
        x.from(0, 3, 0);
        x.restore();
        x.row(-1);
        x.grows(0, 0, 1, 0, 2);
        x.won(-1);
        x.seeds(0, 0, 0);
        x.row(100);
        int[] want = {3, 2, 1, 4, 0, 1};
        for (int kind = 0; kind < 6; kind++) {
            check.due("count(" + (11 + kind) + ")", x.count(11 + kind), want[kind]);
        }
    }
}
