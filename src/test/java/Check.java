/** What every test uses: it compares answers, counts them, and ends with 1 if one was wrong. */
final class Check {
    private int right;
    private int wrong;

    void due(String call, long got, long want) {
        if (got == want) {
            right++;
        } else {
            wrong++;
            System.out.println(call + " answered " + got + ", due is " + want);
        }
    }

    /** The RADII of a TRACE, HOUR by HOUR. */
    void radii(EightOnIce x, int trace, int... want) {
        for (int hour = 0; hour < want.length; hour++) {
            due("trace(" + trace + ", " + hour + ")", x.trace(trace, hour), want[hour]);
        }
    }

    /** All that can be seen without a refusal and without a change. */
    static String stateOf(EightOnIce x) {
        StringBuilder seen = new StringBuilder();
        for (int what = 0; what <= 7; what++) {
            seen.append(x.count(what)).append(' ');
        }
        for (int what = 20; what <= 24; what++) {
            seen.append(x.count(what)).append(' ');
        }
        for (int hour = 0; hour < 12; hour++) {
            for (int patch = 0; patch < 2; patch++) {
                seen.append(x.ice(patch, hour, 0)).append('/').append(x.ice(patch, hour, 1)).append(' ');
            }
        }
        for (int trace = 0; trace < x.count(0); trace++) {
            for (int what = 0; what < 3; what++) {
                seen.append(x.of(trace, what)).append(' ');
            }
            for (int hour = 0; hour < 12; hour++) {
                seen.append(x.trace(trace, hour)).append(' ');
            }
        }
        return seen.toString();
    }

    /** Feeds all letters; what rink() answers. */
    static int tell(EightOnIce x, String letters) {
        feedAll(x, letters);
        return x.rink();
    }

    static void feedAll(EightOnIce x, String letters) {
        for (int i = 0; i < letters.length(); i++) {
            x.feed(letters.charAt(i));
        }
    }

    static void rowOf(EightOnIce x, int... numbers) {
        x.clear();
        for (int number : numbers) {
            x.row(number);
        }
    }

    void finish(String test) {
        System.out.println(test + ": " + right + " right, " + wrong + " wrong");
        if (wrong != 0 || right == 0) {
            System.exit(1);
        }
    }
}
