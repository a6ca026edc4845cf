/** Promises 2, 3: letters, and the RINK that they tell. */
public final class RinkTest {
    private static final Check check = new Check();

    public static void main(String[] args) {
        feeding();
        everyStatement();
        inTheirOrder();
        unformed();
        outOfRange();
        room();
        fullOfLetters();
        check.finish("RinkTest");
    }

    private static void feeding() {
        EightOnIce x = new EightOnIce();
        check.due("feed(0)", x.feed(0), 1);
        check.due("feed(255)", x.feed(255), 2);
        for (int n = 3; n <= 96; n++) {
            check.due("feed", x.feed('w'), n);
        }
        check.due("rink()", x.rink(), -1000);
        check.due("letters then", x.count(6), 0);
    }

    private static void everyStatement() {
        EightOnIce x = new EightOnIce();
        String told = "s0=99;s1=9;s2=100;s3=009;s4=4;k69;h1113;o01109;t199;w;t111;";
        check.due("rink()", Check.tell(x, told), 11);
        int[] settings = {99, 9, 100, 9, 4};
        for (int setting = 0; setting < 5; setting++) {
            check.due("SETTING " + setting, x.count(20 + setting), settings[setting]);
        }
        check.due("KIND", x.count(2), 6);
        check.due("FIGURE", x.count(3), 9);
        check.due("HARD", x.ice(1, 11, 0), 3);
        check.due("OLD", x.ice(0, 11, 1), 9);
        check.due("TRACES", x.count(0), 1);
        check.due("its foot", x.of(0, 0), 1);
        check.due("its PUSH", x.of(0, 1), 1);
        check.due("letters", x.count(6), 0);
        check.due("an OLD line goes", Check.tell(x, "o01100;"), 1);
        check.due("OLD then", x.ice(0, 11, 1), 0);
    }

    private static void inTheirOrder() {
        EightOnIce x = new EightOnIce();
        check.due("rink()", Check.tell(x, "t069;s1=0;t069;k40;t069;h0013;t069;"), 7);
        check.radii(x, 0, 40, 39, 39, 39);
        check.radii(x, 1, 40, 40, 40, 40);
        check.radii(x, 2, 40, 41, 40, 41);
        check.radii(x, 3, 40, 40, 39, 40);
    }

    private static void fault(String letters, int answer) {
        EightOnIce x = new EightOnIce();
        x.draw(0, 5, 5);
        x.row(7);
        Check.feedAll(x, letters);
        check.due("letters of " + letters, x.count(6), letters.length());
        String before = Check.stateOf(x);
        check.due("rink() of " + letters, x.rink(), answer);
        check.due("no letters behind " + letters, x.count(6), 0);
        Check.feedAll(x, letters);
        check.due("nothing came of " + letters, Check.stateOf(x).equals(before) ? 1 : 0, 1);
        for (int what = 11; what <= 16; what++) {
            check.due("nothing is counted", x.count(what), 0);
        }
    }

    private static void unformed() {
        fault("", -1000);
        fault("x", -1000);
        fault(";", -1000);
        fault("s", -1001);
        fault("s=", -1001);
        fault("s0", -1002);
        fault("s00", -1002);
        fault("s0=", -1003);
        fault("s0=;", -1003);
        fault("s0=40", -1005);
        fault("s0=0400;", -1006);
        fault("k1;", -1002);
        fault("k123;", -1003);
        fault("k12", -1003);
        fault("h001;", -1004);
        fault("h00123;", -1005);
        fault("o0011;", -1005);
        fault("o001123;", -1006);
        fault("t11;", -1003);
        fault("t1111;", -1004);
        fault("w1;", -1001);
        fault("w;w", -1003);
        fault("w;;", -1002);
        fault("w; w;", -1002);
        fault("W;", -1000);
        fault("w:", -1001);
        fault("k1/;", -1002);
        fault("k1:;", -1002);
        // The form comes first, however early the other FAULT is.
        fault("k90;t069;q", -1009);
        fault("s9=999;w;t", -1010);
    }

    private static void outOfRange() {
        fault("s5=1;", -2000);
        fault("s0=9;", -2000);
        fault("s0=100;", -2000);
        fault("s1=10;", -2000);
        fault("s2=101;", -2000);
        fault("s3=10;", -2000);
        fault("s4=10;", -2000);
        fault("k70;", -2000);
        fault("h2000;", -2000);
        fault("h0120;", -2000);
        fault("h0004;", -2000);
        fault("o20010;", -2000);
        fault("o01210;", -2000);
        fault("t211;", -2000);
        fault("t001;", -2000);
        fault("t010;", -2000);
        fault("s0=50;k55;t069;w;h0014;k70;", -2017);
        fault("w;h0014;k70;", -2002);
    }

    private static void room() {
        String five = "t011;t011;t011;t011;t011;";
        fault(five + "t011;", -2025);
        fault("w;" + five + "t011;t011;", -2032);
        fault(five + "w;t011;t011;t011;t011;t011;t011;t011;", -2057);
        EightOnIce x = new EightOnIce();
        x.draw(0, 5, 5);
        check.due("six in all", Check.tell(x, five), 5);
        check.due("a seventh", Check.tell(x, "t199;"), -2000);
        check.due("swept ahead", Check.tell(x, "w;" + five + "t199;"), 7);
        check.due("TRACES", x.count(0), 6);
        check.due("the last", x.of(5, 0), 1);
    }

    private static void fullOfLetters() {
        StringBuilder whole = new StringBuilder();
        for (int i = 0; i < 48; i++) {
            whole.append("w;");
        }
        EightOnIce x = new EightOnIce();
        check.due("48 STATEMENTS", Check.tell(x, whole.toString()), 48);
        whole.setCharAt(95, 'w');
        check.due("a wrong last letter", Check.tell(x, whole.toString()), -1095);
        whole.setLength(94);
        check.due("the end lacks", Check.tell(x, whole + "k1"), -1096);
    }
}
