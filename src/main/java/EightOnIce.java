/**
 * An eight on ice: circles drawn by a skater of some kind on two patches, measured, judged and
 * thought ahead. Every refusal is a number; no call throws. The words in capitals in the comments
 * are the document's terms.
 */
public final class EightOnIce {
    private static final int HOURS = 12;
    private static final int FEET = 2;
    private static final int MOST_TRACES = 6;
    private static final int MOST_LETTERS = 96;
    private static final int MOST_SIGN = 255;
    private static final int MOST_IN_ROW = 12;
    private static final int MOST_TOLD = 99;
    private static final int MOST_RADIUS = 999;
    private static final int MOST_HARD = 3;
    private static final int MOST_FIGURE = 9;
    private static final int LEAST_STROKE = 1;
    private static final int MOST_STROKE = 9;
    private static final int LEAST_GROWTH = 2;
    private static final int MOST_GROWTH = 9;
    private static final int MOST_SEEDED = 20;
    private static final int MOST_PRACTICE = 40;

    private static final int SIZE = 0;
    private static final int RUB = 1;
    private static final int WEIGHT = 2;
    private static final int NAME = 3;
    private static final int ORDER = 4;
    private static final int SETTINGS = 5;
    private static final int[] SETTING_FIRST = {40, 1, 60, 0, 0};
    private static final int[] SETTING_LEAST = {10, 0, 0, 0, 0};
    private static final int[] SETTING_MOST = {99, 9, 100, 9, 9};

    private static final int FREE = 0;
    private static final int LOOKER = 1;
    private static final int CENTRED = 2;
    private static final int LAGGED = 3;
    private static final int STIFF = 4;
    private static final int WOBBLER = 5;
    private static final int ASTRAY = 6;
    private static final int SKATER_KINDS = 7;

    private static final int SWEEPER = 1;
    private static final int NAMER = 2;
    private static final int ORDERLY = 3;
    private static final int CLOSE_ONE = 4;
    private static final int JUDGE_KINDS = 5;
    private static final int MOST_MARK = 60;

    private static final int NOBODY = -1;
    private static final int OTHER = -2;
    private static final int STATE = -3;
    private static final int BELOW = -4;
    private static final int ROOM = -6;
    private static final int REFUSAL_KINDS = 6;
    private static final int NONE = -9;
    private static final int ANY = -1;

    /** grows() may answer -1, and longs anything small, so their refusals stand far off. */
    private static final int INT_REFUSED = 1000000000;
    private static final long LONG_REFUSED = 4000000000000000000L;

    /** A line on the ice, and what can be measured of it alone. */
    private static final class Trace {
        int foot;
        int push;
        int lean;
        final int[] radii = new int[HOURS];

        void copyFrom(Trace other) {
            begin(other.foot, other.push, other.lean);
            System.arraycopy(other.radii, 0, radii, 0, HOURS);
        }

        void begin(int newFoot, int newPush, int newLean) {
            foot = newFoot;
            push = newPush;
            lean = newLean;
        }

        int roundness() {
            int least = radii[0];
            int greatest = radii[0];
            for (int hour = 1; hour < HOURS; hour++) {
                least = Math.min(least, radii[hour]);
                greatest = Math.max(greatest, radii[hour]);
            }
            return greatest - least;
        }

        int gap() {
            return Math.abs(radii[HOURS - 1] - radii[0]);
        }

        int offBy(int size) {
            int together = 0;
            for (int hour = 0; hour < HOURS; hour++) {
                together += Math.abs(radii[hour] - size);
            }
            return together;
        }

        int total() {
            int together = 0;
            for (int hour = 0; hour < HOURS; hour++) {
                together += radii[hour];
            }
            return together;
        }

        /** How far twice the RADIUS at an HOUR is from those beside it together. */
        int bendAt(int hour) {
            return Math.abs(2 * radii[hour] - radii[hourAhead(hour)] - radii[hourBehind(hour)]);
        }

        int wobbleHour() {
            int best = 0;
            for (int hour = 1; hour < HOURS; hour++) {
                if (bendAt(hour) > bendAt(best)) {
                    best = hour;
                }
            }
            return best;
        }

        int farFrom(Trace other) {
            int together = 0;
            for (int hour = 0; hour < HOURS; hour++) {
                together += Math.abs(radii[hour] - other.radii[hour]);
            }
            return together;
        }
    }

    /** All that THE IMAGE keeps: the ice, the SETTINGS, the SKATER and the TRACES. */
    private static final class Rink {
        final int[] hard = new int[FEET * HOURS];
        final int[] old = new int[FEET * HOURS];
        final int[] settings = new int[SETTINGS];
        int kind = FREE;
        int figure;
        final Trace[] traces = new Trace[MOST_TRACES];
        int drawn;

        Rink() {
            System.arraycopy(SETTING_FIRST, 0, settings, 0, SETTINGS);
            for (int number = 0; number < MOST_TRACES; number++) {
                traces[number] = new Trace();
            }
        }

        void copyFrom(Rink other) {
            System.arraycopy(other.hard, 0, hard, 0, FEET * HOURS);
            System.arraycopy(other.old, 0, old, 0, FEET * HOURS);
            System.arraycopy(other.settings, 0, settings, 0, SETTINGS);
            kind = other.kind;
            figure = other.figure;
            drawn = other.drawn;
            for (int number = 0; number < MOST_TRACES; number++) {
                traces[number].copyFrom(other.traces[number]);
            }
        }

        boolean hasTrace(int number) {
            return within(number, 0, drawn - 1);
        }

        /** The latest TRACE of a foot ahead of a number; null if there is none. */
        Trace latestAhead(int foot, int number) {
            for (int earlier = Math.min(number, drawn) - 1; earlier >= 0; earlier--) {
                if (traces[earlier].foot == foot) {
                    return traces[earlier];
                }
            }
            return null;
        }

        Trace latestOf(int foot) {
            return latestAhead(foot, drawn);
        }

        /** The caller has seen that there is room. */
        int addTrace(int foot, int push, int lean) {
            if (drawn >= MOST_TRACES) {
                return ROOM;
            }
            Trace line = traces[drawn];
            line.begin(foot, push, lean);
            skate(line, kind, latestOf(foot));
            drawn++;
            return drawn - 1;
        }

        /** Gives a begun line its RADII; latest may be null, and is never the line itself. */
        void skate(Trace line, int byKind, Trace latest) {
            int pace = 60 * line.push;
            for (int hour = 0; hour < HOURS; hour++) {
                if (hour > 0) {
                    int rubbed = settings[RUB] + hard[spot(line.foot, hour)];
                    pace = Math.max(0, pace - 3 * rubbed);
                }
                int plain = line.lean > 0 ? pace / line.lean : 0;
                int radius = radiusBy(byKind, line.foot, hour, plain, latest);
                line.radii[hour] = bounded(radius, MOST_RADIUS);
            }
        }

        int radiusBy(int byKind, int foot, int hour, int plain, Trace latest) {
            switch (byKind) {
                case LOOKER:
                    return looked(plain, latest, hour);
                case CENTRED:
                    return centred(plain);
                case LAGGED:
                    return looked(plain, latest, hourAhead(hour));
                case STIFF:
                    return plain + hour % 2;
                case WOBBLER:
                    return centred(plain) + wobbleOf(hour);
                case ASTRAY:
                    return ledAstray(looked(plain, latest, hour), old[spot(foot, hour)]);
                default:
                    return plain;
            }
        }

        int looked(int plain, Trace latest, int hour) {
            return latest == null ? plain : plain + (latest.radii[hour] - plain) / 2;
        }

        int centred(int plain) {
            return plain + (settings[SIZE] - plain) / 4;
        }

        int wobbleOf(int hour) {
            if (hour == figure) {
                return figure;
            }
            return hour == figure + 1 ? -figure : 0;
        }

        int ledAstray(int radius, int oldRadius) {
            return oldRadius == 0 ? radius : radius + (oldRadius - radius) * figure / 10;
        }

        int flatsOf(Trace line) {
            int flats = 0;
            for (int hour = 0; hour < HOURS; hour++) {
                boolean alike = line.radii[hour] == line.radii[hourAhead(hour)];
                if (alike && hard[spot(line.foot, hour)] > 0) {
                    flats |= 1 << hour;
                }
            }
            return flats;
        }

        int offOf(Trace line) {
            return line.offBy(settings[SIZE]);
        }

        /** How many TRACES of a foot WOBBLE at an HOUR. */
        int wobblersAt(int foot, int hour) {
            int many = 0;
            for (int number = 0; number < drawn; number++) {
                if (traces[number].foot == foot && traces[number].bendAt(hour) >= 4) {
                    many++;
                }
            }
            return many;
        }

        /** How much of a WOBBLE at an HOUR is from the BODY (0), the ICE (1), the LINE (2). */
        int shareOf(int what, int hour) {
            int left = spot(0, hour);
            int right = spot(1, hour);
            if (what == 0) {
                int byLeft = wobblersAt(0, hour);
                int byRight = wobblersAt(1, hour);
                return byLeft > 0 && byRight > 0 ? byLeft + byRight : 0;
            }
            if (what == 1) {
                return 3 * (hard[left] + hard[right]);
            }
            return (old[left] > 0 ? 2 : 0) + (old[right] > 0 ? 2 : 0);
        }

        /** The greatest less the least RADIUS at an HOUR of a foot's TRACES; NONE without any. */
        int spreadAt(int foot, int hour) {
            int least = MOST_RADIUS;
            int greatest = NONE;
            for (int number = 0; number < drawn; number++) {
                if (traces[number].foot == foot) {
                    least = Math.min(least, traces[number].radii[hour]);
                    greatest = Math.max(greatest, traces[number].radii[hour]);
                }
            }
            return greatest == NONE ? NONE : greatest - least;
        }

        int tracesOf(int foot) {
            int many = 0;
            for (int number = 0; number < drawn; number++) {
                if (traces[number].foot == foot) {
                    many++;
                }
            }
            return many;
        }
    }

    /** The JUDGES: their MARKS of a rink's TRACES. */
    private static final class Panel {
        private final Rink rink;
        private final int[] marks = new int[JUDGE_KINDS * MOST_TRACES];

        Panel(Rink rink) {
            this.rink = rink;
        }

        int markBy(int kind, int number) {
            Trace line = rink.traces[number];
            int seen = bounded(MOST_MARK - rink.offOf(line) / 4 - line.gap(), MOST_MARK);
            switch (kind) {
                case SWEEPER:
                    return swept(seen, line);
                case NAMER:
                    return named(seen);
                case ORDERLY:
                    return bounded(named(seen) + rink.settings[ORDER], MOST_MARK);
                case CLOSE_ONE:
                    int far = farFromAhead(line, number);
                    return bounded(swept(seen, line) - far / 8, MOST_MARK);
                default:
                    return seen;
            }
        }

        private int swept(int seen, Trace line) {
            return bounded(seen - 2 * Integer.bitCount(rink.flatsOf(line)), MOST_MARK);
        }

        private int named(int seen) {
            return bounded(seen + 3 * rink.settings[NAME], MOST_MARK);
        }

        /** CLOSE to the TRACE of the same foot drawn latest ahead of it; 0 without one. */
        private int farFromAhead(Trace line, int number) {
            Trace earlier = rink.latestAhead(line.foot, number);
            return earlier == null ? 0 : line.farFrom(earlier);
        }

        /** The caller has seen that the told row has a number for each TRACE. */
        boolean marksAre(int kind, int[] told) {
            for (int number = 0; number < rink.drawn && number < told.length; number++) {
                if (markBy(kind, number) != told[number]) {
                    return false;
                }
            }
            return true;
        }

        /** The least of the smallest sets of TRACES that tell all KINDS apart; NONE. */
        int fewestTelling() {
            for (int kind = 0; kind < JUDGE_KINDS; kind++) {
                for (int number = 0; number < rink.drawn; number++) {
                    marks[kind * MOST_TRACES + number] = markBy(kind, number);
                }
            }
            int best = NONE;
            int fewest = MOST_TRACES + 1;
            for (int set = 0; set < 1 << rink.drawn; set++) {
                if (Integer.bitCount(set) < fewest && tellsAllApart(set)) {
                    best = set;
                    fewest = Integer.bitCount(set);
                }
            }
            return best;
        }

        private boolean tellsAllApart(int set) {
            for (int one = 0; one < JUDGE_KINDS; one++) {
                for (int other = one + 1; other < JUDGE_KINDS; other++) {
                    if (!tellsApart(set, one, other)) {
                        return false;
                    }
                }
            }
            return true;
        }

        private boolean tellsApart(int set, int one, int other) {
            for (int number = 0; number < rink.drawn; number++) {
                boolean inSet = (set >> number & 1) == 1;
                int markOfOne = marks[one * MOST_TRACES + number];
                if (inSet && markOfOne != marks[other * MOST_TRACES + number]) {
                    return true;
                }
            }
            return false;
        }
    }

    /** TRACES drawn in mind: nothing of the rink changes by them. */
    private static final class Mind {
        private final Rink rink;
        /** Two lines for each foot, used by turns: a new line looks at the one ahead of it. */
        private final Trace[] lines = new Trace[2 * FEET];
        /** The seed of the DRAWS. */
        private int seed;

        Mind(Rink rink) {
            this.rink = rink;
            for (int i = 0; i < 2 * FEET; i++) {
                lines[i] = new Trace();
            }
        }

        /** The NEXT of a foot by a KIND. */
        Trace nextBy(int kind, int foot, int push, int lean) {
            return lineBehind(rink.latestOf(foot), kind, foot, push, lean);
        }

        /** The line that would be drawn behind the latest one (null if there is none). */
        private Trace lineBehind(Trace latest, int kind, int foot, int push, int lean) {
            Trace line = latest == lines[2 * foot] ? lines[2 * foot + 1] : lines[2 * foot];
            line.begin(foot, push, lean);
            rink.skate(line, kind, latest);
            return line;
        }

        int nextOff(int kind, int foot, int push, int lean) {
            return rink.offOf(nextBy(kind, foot, push, lean));
        }

        int growth(int kind, int foot, int push, int lean, int n) {
            Trace line = nextBy(kind, foot, push, lean);
            int first = rink.offOf(line);
            for (int i = 1; i < n; i++) {
                line = lineBehind(line, kind, foot, push, lean);
            }
            return Integer.compare(rink.offOf(line), first);
        }

        int bestClosing(int foot) {
            int best = NONE;
            int leastGap = 0;
            int leastOff = 0;
            for (int push = LEAST_STROKE; push <= MOST_STROKE; push++) {
                for (int lean = LEAST_STROKE; lean <= MOST_STROKE; lean++) {
                    Trace line = nextBy(rink.kind, foot, push, lean);
                    int gap = line.gap();
                    int off = rink.offOf(line);
                    boolean better = gap < leastGap || gap == leastGap && off < leastOff;
                    if (best == NONE || better) {
                        best = 10 * push + lean;
                        leastGap = gap;
                        leastOff = off;
                    }
                }
            }
            return best;
        }

        /** The least PUSH and LEAN by which a KIND's NEXT would be the told line; NONE. */
        int strokeOf(int kind, int foot, int[] told) {
            for (int push = LEAST_STROKE; push <= MOST_STROKE; push++) {
                for (int lean = LEAST_STROKE; lean <= MOST_STROKE; lean++) {
                    if (isTold(nextBy(kind, foot, push, lean), told)) {
                        return 10 * push + lean;
                    }
                }
            }
            return NONE;
        }

        private boolean isTold(Trace line, int[] told) {
            for (int hour = 0; hour < HOURS && hour < told.length; hour++) {
                if (Math.min(line.radii[hour], MOST_TOLD) != told[hour]) {
                    return false;
                }
            }
            return true;
        }

        /** SEEDS: all OFF together (what 0), or how many TRACES are OFF by less than 60. */
        int practice(int n, int z, int what) {
            seed = z;
            Trace left = rink.latestOf(0);
            Trace right = rink.latestOf(1);
            int together = 0;
            int near = 0;
            for (int i = 0; i < n; i++) {
                int foot = drawBelow(FEET);
                int push = drawBelow(MOST_STROKE) + 1;
                int lean = drawBelow(MOST_STROKE) + 1;
                Trace line = lineBehind(foot == 0 ? left : right, rink.kind, foot, push, lean);
                if (foot == 0) {
                    left = line;
                } else {
                    right = line;
                }
                int off = rink.offOf(line);
                together += off;
                near += off < 60 ? 1 : 0;
            }
            return what == 0 ? together : near;
        }

        private int drawBelow(int n) {
            seed = seed * 1103515245 + 12345;
            return n > 0 ? (seed & 0x7fffffff) / 65536 % n : 0;
        }
    }

    /** The letters that tell a RINK. */
    private static final class Letters {
        private final int[] signs = new int[MOST_LETTERS];
        int many;
        /** Where the STATEMENTS begin, and how many there are. */
        private final int[] starts = new int[MOST_LETTERS];
        private int statements;
        /** Where the reading stands; behind a failed one, where it failed. */
        private int place;

        void add(int sign) {
            if (many < MOST_LETTERS) {
                signs[many] = sign;
                many++;
            }
        }

        /** Tells the rink all of it or, with a FAULT, nothing; the letters are no more then. */
        int tellTo(Rink rink) {
            int answer = passAll() ? faultyOne(rink.drawn) : -1000 - place;
            if (answer == 0) {
                for (int i = 0; i < statements; i++) {
                    tellOne(starts[i], rink);
                }
                answer = statements;
            }
            many = 0;
            return answer;
        }

        /** Whether the letters have the form of a RINK. */
        private boolean passAll() {
            place = 0;
            statements = 0;
            for (int i = 0; i < MOST_LETTERS; i++) {
                starts[i] = place;
                if (!passStatement()) {
                    return false;
                }
                statements++;
                if (place >= many) {
                    return true;
                }
            }
            return false;
        }

        private boolean passStatement() {
            switch (signAt(place)) {
                case 's':
                    place++;
                    return passDigits(1, 1) && passSign('=') && passDigits(1, 3) && passSign(';');
                case 'k':
                    return passPlain(2);
                case 'h':
                    return passPlain(4);
                case 'o':
                    return passPlain(5);
                case 't':
                    return passPlain(3);
                case 'w':
                    return passPlain(0);
                default:
                    return false;
            }
        }

        private boolean passPlain(int digits) {
            place++;
            return passDigits(digits, digits) && passSign(';');
        }

        private boolean passDigits(int least, int most) {
            int passed = 0;
            while (passed < most && within(signAt(place), '0', '9')) {
                place++;
                passed++;
            }
            return passed >= least;
        }

        private boolean passSign(int sign) {
            if (signAt(place) != sign) {
                return false;
            }
            place++;
            return true;
        }

        /** The letter at a place; NONE, which is no letter, at the end. */
        private int signAt(int at) {
            return at >= 0 && at < many ? signs[at] : NONE;
        }

        private int numberAt(int at, int digits) {
            int number = 0;
            for (int i = 0; i < digits; i++) {
                number = 10 * number + signAt(at + i) - '0';
            }
            return number;
        }

        private int digitAt(int at) {
            return signAt(at) - '0';
        }

        /** The number of the "s" STATEMENT that begins at a place: all up to its ";". */
        private int settingNumber(int start) {
            int digits = 1;
            while (digits < 3 && signAt(start + 3 + digits) != ';') {
                digits++;
            }
            return numberAt(start + 3, digits);
        }

        /** The FAULT of the first STATEMENT that is not as it must be; 0 without one. */
        private int faultyOne(int drawn) {
            int room = MOST_TRACES - drawn;
            for (int i = 0; i < statements; i++) {
                int start = starts[i];
                if (!isAsItMust(start, room)) {
                    return -2000 - start;
                }
                if (signAt(start) == 't') {
                    room--;
                } else if (signAt(start) == 'w') {
                    room = MOST_TRACES;
                }
            }
            return 0;
        }

        private boolean isAsItMust(int start, int room) {
            int first = digitAt(start + 1);
            switch (signAt(start)) {
                case 's':
                    return within(first, 0, SETTINGS - 1) && fitsSetting(first, settingNumber(start));
                case 'k':
                    return within(first, 0, SKATER_KINDS - 1);
                case 'h':
                    return isSpot(first, numberAt(start + 2, 2)) && digitAt(start + 4) <= MOST_HARD;
                case 'o':
                    return isSpot(first, numberAt(start + 2, 2));
                case 't':
                    int push = digitAt(start + 2);
                    int lean = digitAt(start + 3);
                    return isFoot(first) && strokeFault(push, lean) == 0 && room > 0;
                default:
                    return true;
            }
        }

        /** faultyOne() has seen that every number is in its range. */
        private void tellOne(int start, Rink rink) {
            int first = digitAt(start + 1);
            switch (signAt(start)) {
                case 's':
                    rink.settings[first] = settingNumber(start);
                    break;
                case 'k':
                    rink.kind = first;
                    rink.figure = digitAt(start + 2);
                    break;
                case 'h':
                    rink.hard[spot(first, numberAt(start + 2, 2))] = digitAt(start + 4);
                    break;
                case 'o':
                    rink.old[spot(first, numberAt(start + 2, 2))] = numberAt(start + 4, 2);
                    break;
                case 't':
                    rink.addTrace(first, digitAt(start + 2), digitAt(start + 3));
                    break;
                default:
                    rink.drawn = 0;
            }
        }
    }

    private final Rink now = new Rink();
    private final Rink kept = new Rink();
    private boolean isKept;
    private final Panel panel = new Panel(now);
    private final Mind mind = new Mind(now);
    private final Letters letters = new Letters();
    private final int[] told = new int[MOST_IN_ROW];
    private int toldMany;
    private final int[] refusals = new int[REFUSAL_KINDS + 1];

    /** Clean ice, a FREE skater, no TRACES. */
    public EightOnIce() {
    }

    public int feed(int letter) {
        int fault = rangeFault(letter, 0, MOST_SIGN);
        if (fault == 0 && letters.many >= MOST_LETTERS) {
            fault = ROOM;
        }
        if (fault != 0) {
            return refuse(fault);
        }
        letters.add(letter);
        return letters.many;
    }

    public int rink() {
        return letters.tellTo(now);
    }

    public int ice(int patch, int hour, int what) {
        if (!isSpot(patch, hour)) {
            return refuse(NOBODY);
        }
        if (!within(what, 0, 1)) {
            return refuse(OTHER);
        }
        return what == 0 ? now.hard[spot(patch, hour)] : now.old[spot(patch, hour)];
    }

    public int lay(int patch, int hour, int what, int v) {
        if (!isSpot(patch, hour)) {
            return refuse(NOBODY);
        }
        if (!within(what, 0, 1)) {
            return refuse(OTHER);
        }
        int fault = rangeFault(v, 0, what == 0 ? MOST_HARD : MOST_TOLD);
        if (fault != 0) {
            return refuse(fault);
        }
        int[] laid = what == 0 ? now.hard : now.old;
        int was = laid[spot(patch, hour)];
        laid[spot(patch, hour)] = v;
        return was;
    }

    public int set(int setting, int v) {
        if (!within(setting, 0, SETTINGS - 1)) {
            return refuse(NOBODY);
        }
        int fault = rangeFault(v, SETTING_LEAST[setting], SETTING_MOST[setting]);
        if (fault != 0) {
            return refuse(fault);
        }
        int was = now.settings[setting];
        now.settings[setting] = v;
        return was;
    }

    public int skater(int kind, int figure) {
        if (!within(kind, 0, SKATER_KINDS - 1)) {
            return refuse(OTHER);
        }
        int fault = rangeFault(figure, 0, MOST_FIGURE);
        if (fault != 0) {
            return refuse(fault);
        }
        int was = 10 * now.kind + now.figure;
        now.kind = kind;
        now.figure = figure;
        return was;
    }

    public int draw(int foot, int push, int lean) {
        int fault = footAndStrokeFault(foot, push, lean);
        if (fault == 0 && now.drawn >= MOST_TRACES) {
            fault = ROOM;
        }
        return fault != 0 ? refuse(fault) : now.addTrace(foot, push, lean);
    }

    public int sweep() {
        int swept = now.drawn;
        now.drawn = 0;
        return swept;
    }

    public int trace(int trace, int hour) {
        if (!now.hasTrace(trace) || !isHour(hour)) {
            return refuse(NOBODY);
        }
        return now.traces[trace].radii[hour];
    }

    public int of(int trace, int what) {
        if (!now.hasTrace(trace)) {
            return refuse(NOBODY);
        }
        Trace line = now.traces[trace];
        switch (what) {
            case 0:
                return line.foot;
            case 1:
                return line.push;
            case 2:
                return line.lean;
            case 3:
                return line.roundness();
            case 4:
                return line.gap();
            case 5:
                return now.offOf(line);
            case 6:
                return line.wobbleHour();
            case 7:
                return line.bendAt(line.wobbleHour());
            case 8:
                return now.flatsOf(line);
            default:
                return refuse(OTHER);
        }
    }

    public long mean(int trace, int part) {
        if (!now.hasTrace(trace)) {
            return refuseLong(NOBODY);
        }
        if (!within(part, 0, 1)) {
            return refuseLong(OTHER);
        }
        return partOfFraction(now.traces[trace].total(), HOURS, part);
    }

    public int close(int one, int other) {
        if (!now.hasTrace(one) || !now.hasTrace(other)) {
            return refuse(NOBODY);
        }
        return now.traces[one].farFrom(now.traces[other]);
    }

    public int spread(int foot) {
        if (!isFoot(foot)) {
            return refuse(NOBODY);
        }
        if (now.tracesOf(foot) == 0) {
            return NONE;
        }
        int together = 0;
        for (int hour = 0; hour < HOURS; hour++) {
            together += now.spreadAt(foot, hour);
        }
        return together;
    }

    public int next(int foot, int push, int lean, int hour) {
        if (!isFoot(foot) || hour != ANY && !isHour(hour)) {
            return refuse(NOBODY);
        }
        int fault = strokeFault(push, lean);
        if (fault != 0) {
            return refuse(fault);
        }
        Trace line = mind.nextBy(now.kind, foot, push, lean);
        return hour == ANY ? now.offOf(line) : line.radii[hour];
    }

    public int grows(int foot, int push, int lean, int kind, int n) {
        int fault = growthFault(push, lean, n);
        if (!isFoot(foot)) {
            fault = NOBODY;
        } else if (!within(kind, 0, SKATER_KINDS - 1)) {
            fault = OTHER;
        }
        if (fault != 0) {
            return INT_REFUSED - refuse(fault);
        }
        return mind.growth(kind, foot, push, lean, n);
    }

    public int calm(int foot, int push, int lean, int n) {
        int fault = isFoot(foot) ? growthFault(push, lean, n) : NOBODY;
        if (fault != 0) {
            return refuse(fault);
        }
        int kinds = 0;
        for (int kind = 0; kind < SKATER_KINDS; kind++) {
            if (mind.growth(kind, foot, push, lean, n) <= 0) {
                kinds |= 1 << kind;
            }
        }
        return kinds;
    }

    public int closes(int foot) {
        return isFoot(foot) ? mind.bestClosing(foot) : refuse(NOBODY);
    }

    public int correct(int foot, int push, int lean) {
        int fault = footAndStrokeFault(foot, push, lean);
        if (fault != 0) {
            return refuse(fault);
        }
        int byCentred = mind.nextOff(CENTRED, foot, push, lean);
        return byCentred < mind.nextOff(FREE, foot, push, lean) ? 1 : 0;
    }

    public long from(int hour, int what, int part) {
        if (!isHour(hour)) {
            return refuseLong(NOBODY);
        }
        if (!within(what, 0, 2) || !within(part, 0, 1)) {
            return refuseLong(OTHER);
        }
        int together = now.shareOf(0, hour) + now.shareOf(1, hour) + now.shareOf(2, hour);
        return partOfFraction(now.shareOf(what, hour), together, part);
    }

    public int whose(int foot, int kind) {
        if (!isFoot(foot)) {
            return refuse(NOBODY);
        }
        if (kind != ANY && !within(kind, 0, SKATER_KINDS - 1)) {
            return refuse(OTHER);
        }
        if (toldMany != HOURS) {
            return refuse(STATE);
        }
        if (kind != ANY) {
            return mind.strokeOf(kind, foot, told);
        }
        int kinds = 0;
        for (int possible = 0; possible < SKATER_KINDS; possible++) {
            if (mind.strokeOf(possible, foot, told) != NONE) {
                kinds |= 1 << possible;
            }
        }
        return kinds;
    }

    public int mark(int kind, int trace) {
        if (!within(kind, 0, JUDGE_KINDS - 1)) {
            return refuse(OTHER);
        }
        return now.hasTrace(trace) ? panel.markBy(kind, trace) : refuse(NOBODY);
    }

    public int fits() {
        if (toldMany != now.drawn) {
            return refuse(STATE);
        }
        int kinds = 0;
        for (int kind = 0; kind < JUDGE_KINDS; kind++) {
            if (panel.marksAre(kind, told)) {
                kinds |= 1 << kind;
            }
        }
        return kinds;
    }

    public int fewest(int what) {
        if (!within(what, 0, 1)) {
            return refuse(OTHER);
        }
        int set = panel.fewestTelling();
        return set == NONE || what == 1 ? set : Integer.bitCount(set);
    }

    public int hours(int h, int what) {
        int fault = rangeFault(h, 0, MOST_PRACTICE);
        if (fault == 0 && !within(what, 0, 1)) {
            fault = OTHER;
        }
        if (fault != 0) {
            return refuse(fault);
        }
        int best = bestForFigures(h, now.settings[WEIGHT]);
        return what == 0 ? best : marksTogether(best, h - best, now.settings[WEIGHT]);
    }

    public int won(int h) {
        int fault = rangeFault(h, 0, MOST_PRACTICE);
        if (fault != 0) {
            return refuse(fault);
        }
        for (int weight = 0; weight <= 100; weight += 10) {
            if (bestForFigures(h, weight) > 0) {
                return weight;
            }
        }
        return NONE;
    }

    public int lot(int push, int lean) {
        int fault = strokeFault(push, lean);
        if (fault != 0) {
            return refuse(fault);
        }
        int left = mind.nextOff(now.kind, 0, push, lean);
        int right = mind.nextOff(now.kind, 1, push, lean);
        if (left == right) {
            return 2;
        }
        return left < right ? 0 : 1;
    }

    public int row(int v) {
        int fault = rangeFault(v, 0, MOST_TOLD);
        if (fault == 0 && toldMany >= MOST_IN_ROW) {
            fault = ROOM;
        }
        if (fault != 0) {
            return refuse(fault);
        }
        told[toldMany] = v;
        toldMany++;
        return toldMany;
    }

    public int judge(int trace) {
        if (!now.hasTrace(trace)) {
            return refuse(NOBODY);
        }
        int first = firstUnlike(now.traces[trace]);
        toldMany = 0;
        return first;
    }

    public int clear() {
        int had = toldMany;
        toldMany = 0;
        return had;
    }

    public int seeds(int n, int z, int what) {
        int fault = rangeFault(n, 1, MOST_SEEDED);
        if (fault == 0 && !within(what, 0, 1)) {
            fault = OTHER;
        }
        return fault != 0 ? refuse(fault) : mind.practice(n, z, what);
    }

    public int image() {
        kept.copyFrom(now);
        isKept = true;
        return kept.drawn;
    }

    public int restore() {
        if (!isKept) {
            return refuse(STATE);
        }
        now.copyFrom(kept);
        return now.drawn;
    }

    public int count(int what) {
        if (within(what, 11, 10 + REFUSAL_KINDS)) {
            return refusals[what - 10];
        }
        if (within(what, 20, 20 + SETTINGS - 1)) {
            return now.settings[what - 20];
        }
        switch (what) {
            case 0:
                return now.drawn;
            case 1:
                return now.tracesOf(0);
            case 2:
                return now.kind;
            case 3:
                return now.figure;
            case 4:
                return allHard();
            case 5:
                return oldLines();
            case 6:
                return letters.many;
            case 7:
                return toldMany;
            default:
                return NONE;
        }
    }

    private int allHard() {
        int together = 0;
        for (int i = 0; i < FEET * HOURS; i++) {
            together += now.hard[i];
        }
        return together;
    }

    private int oldLines() {
        int many = 0;
        for (int i = 0; i < FEET * HOURS; i++) {
            many += now.old[i] > 0 ? 1 : 0;
        }
        return many;
    }

    /** The first place at which the told row is not as a TRACE; NONE. */
    private int firstUnlike(Trace line) {
        for (int hour = 0; hour < toldMany && hour < HOURS; hour++) {
            if (told[hour] != line.radii[hour]) {
                return hour;
            }
        }
        return NONE;
    }

    private int refuse(int fault) {
        if (within(-fault, 1, REFUSAL_KINDS)) {
            refusals[-fault]++;
        }
        return fault;
    }

    private long refuseLong(int fault) {
        return LONG_REFUSED - refuse(fault);
    }

    private static int footAndStrokeFault(int foot, int push, int lean) {
        return isFoot(foot) ? strokeFault(push, lean) : NOBODY;
    }

    /** What is too little is told ahead of what is too much, whichever number it is. */
    private static int strokeFault(int push, int lean) {
        if (push < LEAST_STROKE || lean < LEAST_STROKE) {
            return BELOW;
        }
        return push > MOST_STROKE || lean > MOST_STROKE ? ROOM : 0;
    }

    private static int growthFault(int push, int lean, int n) {
        int ofStroke = strokeFault(push, lean);
        int ofMany = rangeFault(n, LEAST_GROWTH, MOST_GROWTH);
        if (ofStroke == BELOW || ofMany == BELOW) {
            return BELOW;
        }
        return ofStroke != 0 ? ofStroke : ofMany;
    }

    private static int rangeFault(int v, int least, int most) {
        if (v < least) {
            return BELOW;
        }
        return v > most ? ROOM : 0;
    }

    private static boolean fitsSetting(int setting, int v) {
        return within(v, SETTING_LEAST[setting], SETTING_MOST[setting]);
    }

    /** The f of h hours by which the MARKS together are most, of several the least. */
    private static int bestForFigures(int h, int weight) {
        int best = 0;
        for (int f = 1; f <= h; f++) {
            if (marksTogether(f, h - f, weight) > marksTogether(best, h - best, weight)) {
                best = f;
            }
        }
        return best;
    }

    private static int marksTogether(int f, int g, int weight) {
        int figures = 60 * f - f * f;
        int jumps = 40 * g + g * g / 4;
        return (weight * figures + (100 - weight) * jumps) / 100;
    }

    /** Above (part 0) or below the line of a fraction in least terms; 0 by 1 for 0 by 0. */
    private static long partOfFraction(int above, int below, int part) {
        int common = commonDivisor(above, below);
        if (common == 0) {
            return part == 0 ? 0 : 1;
        }
        return part == 0 ? above / common : below / common;
    }

    private static int commonDivisor(int one, int other) {
        int greater = one;
        int less = other;
        for (int i = 0; i < 64 && less != 0; i++) {
            int rest = greater % less;
            greater = less;
            less = rest;
        }
        return greater;
    }

    private static boolean isFoot(int foot) {
        return within(foot, 0, FEET - 1);
    }

    private static boolean isHour(int hour) {
        return within(hour, 0, HOURS - 1);
    }

    private static boolean isSpot(int patch, int hour) {
        return isFoot(patch) && isHour(hour);
    }

    /** Where the ice of a PATCH at an HOUR stands in its row. */
    private static int spot(int patch, int hour) {
        return patch * HOURS + hour;
    }

    private static int hourAhead(int hour) {
        return hour == 0 ? HOURS - 1 : hour - 1;
    }

    private static int hourBehind(int hour) {
        return hour == HOURS - 1 ? 0 : hour + 1;
    }

    private static boolean within(int v, int least, int most) {
        return v >= least && v <= most;
    }

    private static int bounded(int v, int most) {
        return Math.max(0, Math.min(v, most));
    }
}
