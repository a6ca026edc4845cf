/** Promises 1, 4, 5, 6, 7: a new object, ice, lay, set, skater. */
public final class IceTest {
    private static final Check check = new Check();

    public static void main(String[] args) {
        aNewObject();
        layingIce();
        settings();
        skaters();
        check.finish("IceTest");
    }

    private static void aNewObject() {
        EightOnIce x = new EightOnIce();
        int[] settings = {40, 1, 60, 0, 0};
        for (int what = 0; what <= 7; what++) {
            check.due("new: count(" + what + ")", x.count(what), 0);
        }
        for (int setting = 0; setting < 5; setting++) {
            check.due("new: SETTING " + setting, x.count(20 + setting), settings[setting]);
        }
        for (int what = 11; what <= 16; what++) {
            check.due("new: count(" + what + ")", x.count(what), 0);
        }
        for (int hour = 0; hour < 12; hour++) {
            for (int patch = 0; patch < 2; patch++) {
                check.due("new: HARD", x.ice(patch, hour, 0), 0);
                check.due("new: OLD", x.ice(patch, hour, 1), 0);
            }
        }
        check.due("new: restore()", x.restore(), -3);
    }

    private static void layingIce() {
        EightOnIce x = new EightOnIce();
        check.due("lay(0, 0, 0, 3)", x.lay(0, 0, 0, 3), 0);
        check.due("lay(0, 0, 0, 1)", x.lay(0, 0, 0, 1), 3);
        check.due("lay(1, 11, 0, 2)", x.lay(1, 11, 0, 2), 0);
        check.due("lay(1, 11, 1, 99)", x.lay(1, 11, 1, 99), 0);
        check.due("lay(0, 0, 1, 7)", x.lay(0, 0, 1, 7), 0);
        check.due("lay(0, 11, 1, 1)", x.lay(0, 11, 1, 1), 0);
        check.due("lay(1, 0, 1, 50)", x.lay(1, 0, 1, 50), 0);
        check.due("HARD 0 0", x.ice(0, 0, 0), 1);
        check.due("HARD 1 11", x.ice(1, 11, 0), 2);
        check.due("HARD 1 0", x.ice(1, 0, 0), 0);
        check.due("OLD 1 11", x.ice(1, 11, 1), 99);
        check.due("OLD 0 0", x.ice(0, 0, 1), 7);
        check.due("OLD 0 11", x.ice(0, 11, 1), 1);
        check.due("OLD 1 0", x.ice(1, 0, 1), 50);
        check.due("all HARD", x.count(4), 3);
        check.due("OLD lines", x.count(5), 4);
        check.due("an OLD line becomes none", x.lay(1, 11, 1, 0), 99);
        check.due("OLD lines then", x.count(5), 3);
    }

    private static void settings() {
        EightOnIce x = new EightOnIce();
        int[] least = {10, 0, 0, 0, 0};
        int[] first = {40, 1, 60, 0, 0};
        int[] most = {99, 9, 100, 9, 9};
        for (int i = 0; i < 5; i++) {
            check.due("set to the most", x.set(i, most[i]), first[i]);
            check.due("it is so", x.count(20 + i), most[i]);
            check.due("set to the least", x.set(i, least[i]), most[i]);
            check.due("it is the least", x.count(20 + i), least[i]);
        }
    }

    private static void skaters() {
        EightOnIce x = new EightOnIce();
        check.due("skater(6, 9)", x.skater(6, 9), 0);
        check.due("skater(5, 3)", x.skater(5, 3), 69);
        check.due("KIND", x.count(2), 5);
        check.due("FIGURE", x.count(3), 3);
        check.due("skater(0, 0)", x.skater(0, 0), 53);
    }
}
