import java.util.ArrayList;
import java.util.Arrays;
import java.util.HashMap;
import java.util.List;
import java.util.Map;
import java.util.TreeSet;
import java.util.regex.Matcher;
import java.util.regex.Pattern;

/**
 * The document once more, written apart from the class and in another way (lists, maps, regular
 * expressions), to be run beside it.
 */
final class Model {
    record Line(int foot, int push, int lean, int[] r) { }

    private static final int[][] RANGES = {{10, 99}, {0, 9}, {0, 100}, {0, 9}, {0, 9}};

    private int[][][] ice = new int[2][12][2];
    private int[] settings = {40, 1, 60, 0, 0};
    private int kind;
    private int figure;
    private List<Line> lines = new ArrayList<>();
    private String letters = "";
    private List<Integer> told = new ArrayList<>();
    private final Map<Integer, Integer> refusals = new HashMap<>();
    private Model image;

    private int no(int code) {
        refusals.merge(code, 1, Integer::sum);
        return code;
    }

    private static boolean in(int v, int a, int b) {
        return a <= v && v <= b;
    }

    private boolean isLine(int t) {
        return in(t, 0, lines.size() - 1);
    }

    /** -4 if any is below its least, else -6 if any is above its most; triples of v, least, most. */
    private static int range(int... triples) {
        for (int i = 0; i < triples.length; i += 3) {
            if (triples[i] < triples[i + 1]) {
                return -4;
            }
        }
        for (int i = 0; i < triples.length; i += 3) {
            if (triples[i] > triples[i + 2]) {
                return -6;
            }
        }
        return 0;
    }

    private Line latest(List<Line> of, int foot) {
        Line found = null;
        for (Line line : of) {
            if (line.foot == foot) {
                found = line;
            }
        }
        return found;
    }

    private Line make(List<Line> ahead, int k, int foot, int push, int lean) {
        int[] r = new int[12];
        Line last = latest(ahead, foot);
        for (int h = 0; h < 12; h++) {
            int pace = 60 * push;
            for (int i = 1; i <= h; i++) {
                pace -= 3 * (settings[1] + ice[foot][i][0]);
            }
            int v = Math.max(pace, 0) / lean;
            if (k == 4 && (h & 1) == 1) {
                v++;
            }
            if ((k == 1 || k == 3 || k == 6) && last != null) {
                v += (last.r[k == 3 ? (h + 11) % 12 : h] - v) / 2;
            }
            if (k == 6 && ice[foot][h][1] != 0) {
                v += (ice[foot][h][1] - v) * figure / 10;
            }
            if (k == 2 || k == 5) {
                v += (settings[0] - v) / 4;
            }
            if (k == 5) {
                v += h == figure ? figure : h - 1 == figure ? -figure : 0;
            }
            r[h] = Math.min(999, Math.max(0, v));
        }
        return new Line(foot, push, lean, r);
    }

    private int off(Line line) {
        return Arrays.stream(line.r).map(v -> Math.abs(v - settings[0])).sum();
    }

    private static int gap(Line line) {
        return Math.abs(line.r[0] - line.r[11]);
    }

    private static int bend(Line line, int h) {
        return Math.abs(2 * line.r[h] - line.r[(h + 1) % 12] - line.r[(h + 11) % 12]);
    }

    private int flats(Line line) {
        int bits = 0;
        for (int h = 11; h >= 0; h--) {
            boolean flat = ice[line.foot][h][0] > 0 && line.r[h] == line.r[(h + 11) % 12];
            bits = 2 * bits + (flat ? 1 : 0);
        }
        return bits;
    }

    private static int apart(Line a, Line b) {
        int sum = 0;
        for (int h = 0; h < 12; h++) {
            sum += Math.abs(a.r[h] - b.r[h]);
        }
        return sum;
    }

    private static int mark60(int v) {
        return v < 0 ? 0 : v > 60 ? 60 : v;
    }

    private int marked(int k, int t) {
        Line line = lines.get(t);
        int judge = mark60(60 - off(line) / 4 - gap(line));
        int sweeper = mark60(judge - 2 * Integer.bitCount(flats(line)));
        int namer = mark60(judge + 3 * settings[3]);
        int orderly = mark60(namer + settings[4]);
        Line ahead = latest(lines.subList(0, t), line.foot);
        int closeOne = mark60(sweeper - (ahead == null ? 0 : apart(ahead, line)) / 8);
        return new int[] {judge, sweeper, namer, orderly, closeOne}[k];
    }

    int feed(int letter) {
        int fault = range(letter, 0, 255, letters.length(), 0, 95);
        if (fault != 0) {
            return no(fault);
        }
        letters += (char) letter;
        return letters.length();
    }

    int rink() {
        String all = letters;
        letters = "";
        String[] forms = {"s\\d=\\d{1,3};", "k\\d\\d;", "h\\d{4};", "o\\d{5};", "t\\d{3};", "w;"};
        Pattern whole = Pattern.compile("(?:" + String.join("|", forms) + ")+");
        Matcher matcher = whole.matcher(all);
        if (!matcher.matches()) {
            // The longest beginning that could still go on: hitEnd() tells that it could.
            int place = 0;
            for (int n = all.length(); n > 0; n--) {
                Matcher begun = whole.matcher(all.substring(0, n));
                if (begun.matches() || begun.hitEnd()) {
                    place = n;
                    break;
                }
            }
            return -1000 - place;
        }
        List<String> statements = new ArrayList<>();
        Matcher each = Pattern.compile(String.join("|", forms)).matcher(all);
        int drawn = lines.size();
        while (each.find()) {
            String s = each.group();
            if (!proper(s, drawn)) {
                return -2000 - each.start();
            }
            drawn = s.charAt(0) == 't' ? drawn + 1 : s.charAt(0) == 'w' ? 0 : drawn;
            statements.add(s);
        }
        statements.forEach(this::come);
        return statements.size();
    }

    private static int num(String s, int from, int to) {
        return Integer.parseInt(s.substring(from, to));
    }

    private static boolean proper(String s, int drawn) {
        switch (s.charAt(0)) {
            case 's':
                int n = num(s, 1, 2);
                return n < 5 && in(num(s, 3, s.length() - 1), RANGES[n][0], RANGES[n][1]);
            case 'k':
                return num(s, 1, 2) <= 6;
            case 'h':
                return num(s, 1, 2) < 2 && num(s, 2, 4) < 12 && num(s, 4, 5) < 4;
            case 'o':
                return num(s, 1, 2) < 2 && num(s, 2, 4) < 12;
            case 't':
                return num(s, 1, 2) < 2 && num(s, 2, 3) > 0 && num(s, 3, 4) > 0 && drawn < 6;
            default:
                return true;
        }
    }

    private void come(String s) {
        switch (s.charAt(0)) {
            case 's' -> settings[num(s, 1, 2)] = num(s, 3, s.length() - 1);
            case 'k' -> {
                kind = num(s, 1, 2);
                figure = num(s, 2, 3);
            }
            case 'h' -> ice[num(s, 1, 2)][num(s, 2, 4)][0] = num(s, 4, 5);
            case 'o' -> ice[num(s, 1, 2)][num(s, 2, 4)][1] = num(s, 4, 6);
            case 't' -> lines.add(make(lines, kind, num(s, 1, 2), num(s, 2, 3), num(s, 3, 4)));
            default -> lines.clear();
        }
    }

    int ice(int p, int h, int what) {
        if (!in(p, 0, 1) || !in(h, 0, 11)) {
            return no(-1);
        }
        return in(what, 0, 1) ? ice[p][h][what] : no(-2);
    }

    int lay(int p, int h, int what, int v) {
        if (!in(p, 0, 1) || !in(h, 0, 11)) {
            return no(-1);
        }
        if (!in(what, 0, 1)) {
            return no(-2);
        }
        int fault = range(v, 0, what == 0 ? 3 : 99);
        if (fault != 0) {
            return no(fault);
        }
        int was = ice[p][h][what];
        ice[p][h][what] = v;
        return was;
    }

    int set(int setting, int v) {
        if (!in(setting, 0, 4)) {
            return no(-1);
        }
        int fault = range(v, RANGES[setting][0], RANGES[setting][1]);
        if (fault != 0) {
            return no(fault);
        }
        int was = settings[setting];
        settings[setting] = v;
        return was;
    }

    int skater(int k, int f) {
        int fault = in(k, 0, 6) ? range(f, 0, 9) : -2;
        if (fault != 0) {
            return no(fault);
        }
        int was = 10 * kind + figure;
        kind = k;
        figure = f;
        return was;
    }

    int draw(int foot, int push, int lean) {
        int fault = in(foot, 0, 1) ? range(push, 1, 9, lean, 1, 9, lines.size(), 0, 5) : -1;
        if (fault != 0) {
            return no(fault);
        }
        lines.add(make(lines, kind, foot, push, lean));
        return lines.size() - 1;
    }

    int sweep() {
        int were = lines.size();
        lines.clear();
        return were;
    }

    int trace(int t, int h) {
        return isLine(t) && in(h, 0, 11) ? lines.get(t).r[h] : no(-1);
    }

    int of(int t, int what) {
        if (!isLine(t)) {
            return no(-1);
        }
        if (!in(what, 0, 8)) {
            return no(-2);
        }
        Line line = lines.get(t);
        int[] sorted = line.r.clone();
        Arrays.sort(sorted);
        int at = 11;
        for (int h = 10; h >= 0; h--) {
            at = bend(line, h) >= bend(line, at) ? h : at;
        }
        int[] all = {line.foot, line.push, line.lean, sorted[11] - sorted[0], gap(line), off(line),
            at, bend(line, at), flats(line)};
        return all[what];
    }

    private static long fraction(long above, long below, int part) {
        if (below == 0) {
            return part;
        }
        for (long d = below; d > 1; d--) {
            if (above % d == 0 && below % d == 0) {
                above /= d;
                below /= d;
            }
        }
        return part == 0 ? above : below;
    }

    private long noLong(int code) {
        return 4000000000000000000L - no(code);
    }

    long mean(int t, int part) {
        if (!isLine(t)) {
            return noLong(-1);
        }
        return in(part, 0, 1) ? fraction(Arrays.stream(lines.get(t).r).sum(), 12, part) : noLong(-2);
    }

    int close(int a, int b) {
        return isLine(a) && isLine(b) ? apart(lines.get(a), lines.get(b)) : no(-1);
    }

    int spread(int foot) {
        if (!in(foot, 0, 1)) {
            return no(-1);
        }
        int sum = 0;
        for (int h = 0; h < 12; h++) {
            TreeSet<Integer> seen = new TreeSet<>();
            for (Line line : lines) {
                if (line.foot == foot) {
                    seen.add(line.r[h]);
                }
            }
            if (seen.isEmpty()) {
                return -9;
            }
            sum += seen.last() - seen.first();
        }
        return sum;
    }

    int next(int foot, int push, int lean, int h) {
        int fault = in(foot, 0, 1) && in(h, -1, 11) ? range(push, 1, 9, lean, 1, 9) : -1;
        if (fault != 0) {
            return no(fault);
        }
        Line line = make(lines, kind, foot, push, lean);
        return h < 0 ? off(line) : line.r[h];
    }

    private int growth(int foot, int push, int lean, int k, int n) {
        List<Line> ahead = new ArrayList<>(lines);
        for (int i = 0; i < n; i++) {
            ahead.add(make(ahead, k, foot, push, lean));
        }
        return Integer.signum(off(ahead.get(ahead.size() - 1)) - off(ahead.get(lines.size())));
    }

    int grows(int foot, int push, int lean, int k, int n) {
        int fault = !in(foot, 0, 1) ? -1 : !in(k, 0, 6) ? -2 : range(push, 1, 9, lean, 1, 9, n, 2, 9);
        return fault != 0 ? 1000000000 - no(fault) : growth(foot, push, lean, k, n);
    }

    int calm(int foot, int push, int lean, int n) {
        int fault = !in(foot, 0, 1) ? -1 : range(push, 1, 9, lean, 1, 9, n, 2, 9);
        if (fault != 0) {
            return no(fault);
        }
        int bits = 0;
        for (int k = 0; k < 7; k++) {
            bits += growth(foot, push, lean, k, n) == 1 ? 0 : 1 << k;
        }
        return bits;
    }

    int closes(int foot) {
        if (!in(foot, 0, 1)) {
            return no(-1);
        }
        long best = Long.MAX_VALUE;
        for (int both = 11; both <= 99; both++) {
            if (both % 10 > 0) {
                Line line = make(lines, kind, foot, both / 10, both % 10);
                best = Math.min(best, (gap(line) * 100000L + off(line)) * 100 + both);
            }
        }
        return (int) (best % 100);
    }

    int correct(int foot, int push, int lean) {
        int fault = in(foot, 0, 1) ? range(push, 1, 9, lean, 1, 9) : -1;
        if (fault != 0) {
            return no(fault);
        }
        return off(make(lines, 2, foot, push, lean)) < off(make(lines, 0, foot, push, lean)) ? 1 : 0;
    }

    long from(int h, int what, int part) {
        if (!in(h, 0, 11)) {
            return noLong(-1);
        }
        if (!in(what, 0, 2) || !in(part, 0, 1)) {
            return noLong(-2);
        }
        int[] feet = new int[2];
        for (Line line : lines) {
            feet[line.foot] += bend(line, h) > 3 ? 1 : 0;
        }
        int[] parts = {feet[0] * feet[1] == 0 ? 0 : feet[0] + feet[1], 0, 0};
        for (int p = 0; p < 2; p++) {
            parts[1] += 3 * ice[p][h][0];
            parts[2] += ice[p][h][1] == 0 ? 0 : 2;
        }
        return fraction(parts[what], parts[0] + parts[1] + parts[2], part);
    }

    private int stroke(int foot, int k) {
        for (int both = 11; both <= 99; both++) {
            if (both % 10 > 0) {
                int[] r = make(lines, k, foot, both / 10, both % 10).r;
                List<Integer> seen = new ArrayList<>();
                Arrays.stream(r).forEach(v -> seen.add(Math.min(v, 99)));
                if (seen.equals(told)) {
                    return both;
                }
            }
        }
        return -9;
    }

    int whose(int foot, int k) {
        int fault = !in(foot, 0, 1) ? -1 : !in(k, -1, 6) ? -2 : told.size() != 12 ? -3 : 0;
        if (fault != 0) {
            return no(fault);
        }
        if (k >= 0) {
            return stroke(foot, k);
        }
        int bits = 0;
        for (int i = 0; i < 7; i++) {
            bits += stroke(foot, i) < 0 ? 0 : 1 << i;
        }
        return bits;
    }

    int mark(int k, int t) {
        return !in(k, 0, 4) ? no(-2) : !isLine(t) ? no(-1) : marked(k, t);
    }

    int fits() {
        if (told.size() != lines.size()) {
            return no(-3);
        }
        int bits = 31;
        for (int k = 0; k < 5; k++) {
            for (int t = 0; t < lines.size(); t++) {
                if (marked(k, t) != told.get(t)) {
                    bits &= ~(1 << k);
                }
            }
        }
        return bits;
    }

    int fewest(int what) {
        if (!in(what, 0, 1)) {
            return no(-2);
        }
        for (int n = 0; n <= lines.size(); n++) {
            for (int set = 0; set < 1 << lines.size(); set++) {
                if (Integer.bitCount(set) == n && kindsSeen(set) == 5) {
                    return what == 0 ? n : set;
                }
            }
        }
        return -9;
    }

    private int kindsSeen(int set) {
        TreeSet<String> seen = new TreeSet<>();
        for (int k = 0; k < 5; k++) {
            String marks = "";
            for (int t = 0; t < lines.size(); t++) {
                marks += (set >> t & 1) == 1 ? marked(k, t) + "," : "";
            }
            seen.add(marks);
        }
        return seen.size();
    }

    /** The best f, and the MARKS by it. */
    private static int[] practice(int h, int weight) {
        int[] best = {0, -1};
        for (int f = 0; f <= h; f++) {
            int g = h - f;
            int marks = (weight * (60 * f - f * f) + (100 - weight) * (40 * g + g * g / 4)) / 100;
            if (marks > best[1]) {
                best = new int[] {f, marks};
            }
        }
        return best;
    }

    int hours(int h, int what) {
        int fault = range(h, 0, 40);
        fault = fault == 0 && !in(what, 0, 1) ? -2 : fault;
        return fault != 0 ? no(fault) : practice(h, settings[2])[what];
    }

    int won(int h) {
        int fault = range(h, 0, 40);
        if (fault != 0) {
            return no(fault);
        }
        int weight = 0;
        while (weight <= 100 && practice(h, weight)[0] == 0) {
            weight += 10;
        }
        return weight > 100 ? -9 : weight;
    }

    int lot(int push, int lean) {
        int fault = range(push, 1, 9, lean, 1, 9);
        if (fault != 0) {
            return no(fault);
        }
        int less = off(make(lines, kind, 0, push, lean)) - off(make(lines, kind, 1, push, lean));
        return less < 0 ? 0 : less > 0 ? 1 : 2;
    }

    int row(int v) {
        int fault = range(v, 0, 99, told.size(), 0, 11);
        if (fault != 0) {
            return no(fault);
        }
        told.add(v);
        return told.size();
    }

    int judge(int t) {
        if (!isLine(t)) {
            return no(-1);
        }
        int first = 0;
        while (first < told.size() && told.get(first) == lines.get(t).r[first]) {
            first++;
        }
        int answer = first < told.size() ? first : -9;
        told.clear();
        return answer;
    }

    int clear() {
        int had = told.size();
        told.clear();
        return had;
    }

    int seeds(int n, int z, int what) {
        int fault = range(n, 1, 20);
        fault = fault == 0 && !in(what, 0, 1) ? -2 : fault;
        if (fault != 0) {
            return no(fault);
        }
        List<Line> ahead = new ArrayList<>(lines);
        int[] sums = new int[2];
        for (int i = 0; i < n; i++) {
            int[] d = {2, 9, 9};
            for (int j = 0; j < 3; j++) {
                z = z * 1103515245 + 12345;
                d[j] = (int) (((z & 0xffffffffL) % 2147483648L) / 65536 % d[j]);
            }
            Line line = make(ahead, kind, d[0], d[1] + 1, d[2] + 1);
            ahead.add(line);
            sums[0] += off(line);
            sums[1] += off(line) < 60 ? 1 : 0;
        }
        return sums[what];
    }

    private void copyFrom(Model other) {
        for (int p = 0; p < 2; p++) {
            for (int h = 0; h < 12; h++) {
                ice[p][h] = other.ice[p][h].clone();
            }
        }
        settings = other.settings.clone();
        kind = other.kind;
        figure = other.figure;
        lines = new ArrayList<>(other.lines);
    }

    int image() {
        image = new Model();
        image.copyFrom(this);
        return lines.size();
    }

    int restore() {
        if (image == null) {
            return no(-3);
        }
        copyFrom(image);
        return lines.size();
    }

    int count(int what) {
        if (in(what, 11, 16)) {
            return refusals.getOrDefault(10 - what, 0);
        }
        if (in(what, 20, 24)) {
            return settings[what - 20];
        }
        int left = (int) lines.stream().filter(line -> line.foot == 0).count();
        int hard = 0;
        int old = 0;
        for (int[][] patch : ice) {
            for (int[] spot : patch) {
                hard += spot[0];
                old += spot[1] == 0 ? 0 : 1;
            }
        }
        int[] all = {lines.size(), left, kind, figure, hard, old, letters.length(), told.size()};
        return in(what, 0, 7) ? all[what] : -9;
    }
}
