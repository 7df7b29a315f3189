import java.util.Arrays;

/**
 * A year of days on each of which one thing is done, taxed by the longest
 * stretch of the same thing. The numbered promises are in the document.
 */
public final class TaxedByLongest {
    private static final int NOBODY = -1;
    private static final int OTHER = -2;
    private static final int STATE = -3;
    private static final int BELOW = -4;
    private static final int ROOM = -6;
    private static final int REFUSAL_NUMBERS = 7;

    /** Amounts may be below 0 themselves, so their refusals are told from here. */
    private static final int AMOUNT_REFUSED = 1000000000;
    private static final long LONG_REFUSED = 4000000000000000000L;

    private static final int NONE = -9;
    private static final int UNKNOWN = 9;
    /** No year earns so little: 20 days are worth -120 at least, 19 changes cost 171 at most. */
    private static final int NO_YEAR = -999;

    private static final int WITHOUT_SIGN = 0x7fffffff;

    private static final int MOST_THINGS = 4;
    private static final int MOST_DAYS = 20;
    private static final int MOST_LETTERS = 80;
    private static final int MOST_LETTER = 255;
    private static final int MOST_CHANGE = 9;
    private static final int MOST_SUM = 400;
    private static final int MOST_WORTH = 9;
    private static final int MOST_HABIT = 3;

    /** Kinds by number; WORK is 0 and has no name here, since the others are told by how they differ from it. */
    private static final int REST = 1;
    private static final int STEADY = 2;
    private static final int TIRING = 3;
    private static final int DOUBLE = 4;
    private static final int FEAST = 5;
    private static final String KIND_LETTERS = "wrsidf";

    private static final int LONGEST = 0;
    private static final int SECOND = 1;
    private static final int ALL = 2;
    private static final int CHANGES = 3;
    private static final int SHORTEST = 4;
    private static final int FLAT = 5;

    private final Told told = new Told();
    private final Told kept = new Told();
    private boolean isKept = false;
    private final Text text = new Text();
    private final Look look = new Look();
    private final Plan plan = new Plan();
    private final Counting counting = new Counting();
    private final int[] seen = new int[MOST_DAYS];
    private int seenSize = 0;
    private final int[] refusals = new int[REFUSAL_NUMBERS];

    public TaxedByLongest() {
    }

    public int letter(int c) {
        if (c < 0) {
            return refuse(BELOW);
        }
        if (c > MOST_LETTER || text.isFull()) {
            return refuse(ROOM);
        }
        return text.append(c);
    }

    public int land() {
        return text.becomeLand(told);
    }

    public int thing(int thing, int what) {
        if (!told.hasThing(thing)) {
            return refuse(NOBODY);
        }
        switch (what) {
            case 0:
                return told.kinds[thing];
            case 1:
                return told.worths[thing];
            case 2:
                return told.habits[thing];
            case 3:
                return told.wearies[thing];
            default:
                return refuse(OTHER);
        }
    }

    public int does(int day, int thing) {
        if (!told.hasDay(day) || !told.hasThing(thing)) {
            return refuse(NOBODY);
        }
        if (told.isBoundElse(day, thing)) {
            return refuse(STATE);
        }
        int before = told.done[day];
        told.done[day] = thing;
        return before;
    }

    public int bind(int day, int thing) {
        if (!told.hasDay(day) || (thing != -1 && !told.hasThing(thing))) {
            return refuse(NOBODY);
        }
        int before = told.bound[day];
        if (thing == -1) {
            told.unbindDay(day);
        } else {
            told.bindDay(day, thing);
        }
        return before;
    }

    public int done(int day) {
        return told.hasDay(day) ? told.done[day] : refuse(NOBODY);
    }

    public int change(int v) {
        if (v < 0) {
            return refuse(BELOW);
        }
        if (v > MOST_CHANGE) {
            return refuse(ROOM);
        }
        int before = told.change;
        told.change = v;
        return before;
    }

    public int law(int v) {
        if (!isLaw(v)) {
            return refuse(OTHER);
        }
        int before = told.law;
        told.law = v;
        return before;
    }

    public int longest() {
        lookAtNow();
        return look.longest;
    }

    public int stretches() {
        lookAtNow();
        return look.counted;
    }

    public int stretch(int day, int what) {
        if (!told.hasDay(day)) {
            return refuse(NOBODY);
        }
        if (what != 0 && what != 1) {
            return refuse(OTHER);
        }
        int place = told.placeInStretch(day);
        return what == 1 ? place : place + told.daysToGoOn(day);
    }

    public int worth(int day) {
        if (!told.hasDay(day)) {
            return refuseAmount(NOBODY);
        }
        if (told.things == 0) {
            return refuseAmount(STATE);
        }
        return told.valueNow(day);
    }

    public int earned() {
        if (told.things == 0) {
            return refuseAmount(STATE);
        }
        lookAtNow();
        return look.earnings;
    }

    public int pays() {
        if (told.things == 0) {
            return refuse(STATE);
        }
        lookAtNow();
        return look.taxBy(told.law);
    }

    public int left() {
        if (told.things == 0) {
            return refuseAmount(STATE);
        }
        return leftNow();
    }

    public int allow(int l) {
        if (l < 1) {
            return refuseAmount(BELOW);
        }
        if (l > MOST_DAYS) {
            return refuseAmount(ROOM);
        }
        if (told.things == 0) {
            return refuseAmount(STATE);
        }
        plan.begin(told);
        return plan.mostWithin(told, l);
    }

    public int best(int what) {
        if (what != 0 && what != 1) {
            return refuseAmount(OTHER);
        }
        if (told.things == 0) {
            return refuseAmount(STATE);
        }
        plan.findBest(told);
        return what == 0 ? plan.bestLeft : plan.bestLimit;
    }

    public int bestDay(int day) {
        if (!told.hasDay(day)) {
            return refuse(NOBODY);
        }
        if (told.things == 0) {
            return refuse(STATE);
        }
        plan.findBest(told);
        if (plan.bestLimit == NONE) {
            return NONE;
        }
        plan.findFirstYear(told);
        return plan.year[day];
    }

    public int breaking() {
        if (told.things == 0) {
            return refuse(STATE);
        }
        int most = leftNow();
        int found = NONE;
        for (int day = 0; day < told.days; day++) {
            for (int thing = 0; thing < told.things && told.bound[day] == NONE; thing++) {
                int left = leftWith(day, thing);
                if (left > most) {
                    most = left;
                    found = 10 * day + thing;
                }
            }
        }
        return found;
    }

    public int more(int thing) {
        if (!told.hasThing(thing)) {
            return refuseAmount(NOBODY);
        }
        int now = leftNow();
        look.addDay(thing);
        look.tally(told);
        return look.leftBy(told.law) - now;
    }

    public int brought(int thing) {
        if (!told.hasThing(thing)) {
            return refuseAmount(NOBODY);
        }
        int sum = 0;
        for (int day = 0; day < told.days; day++) {
            if (told.done[day] == thing) {
                sum += told.valueNow(day);
            }
        }
        return sum;
    }

    public int byLaw(int law) {
        if (!isLaw(law)) {
            return refuse(OTHER);
        }
        if (told.things == 0) {
            return refuse(STATE);
        }
        lookAtNow();
        return look.taxBy(law);
    }

    public long years(int n, int m, int l) {
        if (n < 1 || m < 1 || l < 1) {
            return refuseLong(BELOW);
        }
        if (n > MOST_DAYS || m > MOST_THINGS || l > MOST_DAYS) {
            return refuseLong(ROOM);
        }
        counting.beginUnknown(n, m);
        return counting.withLongest(l);
    }

    public int row(int v) {
        if (v < 0) {
            return refuse(BELOW);
        }
        if (v > UNKNOWN || seenSize >= seen.length) {
            return refuse(ROOM);
        }
        seen[seenSize] = v;
        seenSize++;
        return seenSize;
    }

    public long fitting(int sum) {
        if (sum < 0) {
            return refuseLong(BELOW);
        }
        if (sum > MOST_SUM) {
            return refuseLong(ROOM);
        }
        if (told.things == 0 || seenSize == 0) {
            return refuseLong(STATE);
        }
        counting.beginSeen(told, seen, seenSize);
        return counting.thatPay(sum);
    }

    public long likely(int sum, int day, int thing, int part) {
        if (day < 0 || day >= seenSize || !told.hasThing(thing)) {
            return refuseLong(NOBODY);
        }
        if (sum < 0) {
            return refuseLong(BELOW);
        }
        if (sum > MOST_SUM) {
            return refuseLong(ROOM);
        }
        if (part != 0 && part != 1) {
            return refuseLong(OTHER);
        }
        counting.beginSeen(told, seen, seenSize);
        long all = counting.thatPay(sum);
        long such = counting.thatPayWith(sum, day, thing);
        return inLeastTerms(such, all, part);
    }

    public int judge() {
        int verdict = verdictOnRow();
        seenSize = 0;
        return verdict;
    }

    public int seeds(int n, int z) {
        if (n < 1) {
            return refuseAmount(BELOW);
        }
        if (n > MOST_DAYS) {
            return refuseAmount(ROOM);
        }
        if (told.things == 0) {
            return refuseAmount(STATE);
        }
        int seed = z;
        int sum = 0;
        for (int year = 0; year < n; year++) {
            seed = look.drawYear(told, seed);
            look.tally(told);
            sum += look.leftBy(told.law);
        }
        return sum;
    }

    public int image() {
        kept.copyFrom(told);
        isKept = true;
        return told.days;
    }

    public int on() {
        if (!isKept) {
            return refuse(STATE);
        }
        told.copyFrom(kept);
        return told.days;
    }

    public int count(int what) {
        switch (what) {
            case 0:
                return told.things;
            case 1:
                return told.days;
            case 2:
                return told.change;
            case 3:
                return told.law;
            case 4:
                lookAtNow();
                return look.changes;
            case 5:
                return told.boundDays();
            case 6:
                return seenSize;
            case 7:
                return text.size;
            default:
                return what >= 11 && what <= 16 ? refusals[what - 10] : NONE;
        }
    }

    private int refuse(int number) {
        int place = -number;
        if (place >= 0 && place < refusals.length) {
            refusals[place]++;
        }
        return number;
    }

    private int refuseAmount(int number) {
        return AMOUNT_REFUSED - refuse(number);
    }

    private long refuseLong(int number) {
        return LONG_REFUSED - refuse(number);
    }

    private static boolean isLaw(int law) {
        return law >= LONGEST && law <= FLAT;
    }

    private void lookAtNow() {
        look.copyYear(told);
        look.tally(told);
    }

    private int leftNow() {
        lookAtNow();
        return look.leftBy(told.law);
    }

    /** What is left if only this day were another; the look holds the year of now before and after. */
    private int leftWith(int day, int thing) {
        look.done[day] = thing;
        look.tally(told);
        look.done[day] = told.done[day];
        return look.leftBy(told.law);
    }

    private int verdictOnRow() {
        int both = Math.min(seenSize, told.days);
        for (int day = 0; day < both; day++) {
            if (seen[day] != UNKNOWN && seen[day] != told.done[day]) {
                return day;
            }
        }
        return seenSize == told.days ? NONE : both;
    }

    private static long inLeastTerms(long above, long below, int part) {
        if (below == 0) {
            return part;
        }
        long divisor = commonDivisor(above, below);
        if (divisor == 0) {
            return part;
        }
        return (part == 0 ? above : below) / divisor;
    }

    private static long commonDivisor(long a, long b) {
        long large = a;
        long small = b;
        // 200 steps are far more than numbers below 4^20 can need.
        for (int step = 0; step < 200 && small != 0; step++) {
            long rest = large % small;
            large = small;
            small = rest;
        }
        return large;
    }

    /** All that is told and that an image keeps. */
    private static final class Told {
        final int[] kinds = new int[MOST_THINGS];
        final int[] worths = new int[MOST_THINGS];
        final int[] habits = new int[MOST_THINGS];
        final int[] wearies = new int[MOST_THINGS];
        final int[] done = new int[MOST_DAYS];
        final int[] bound = new int[MOST_DAYS];
        int things = 0;
        int days = 10;
        int change = 1;
        int law = LONGEST;

        Told() {
            Arrays.fill(bound, NONE);
        }

        void copyFrom(Told other) {
            System.arraycopy(other.kinds, 0, kinds, 0, MOST_THINGS);
            System.arraycopy(other.worths, 0, worths, 0, MOST_THINGS);
            System.arraycopy(other.habits, 0, habits, 0, MOST_THINGS);
            System.arraycopy(other.wearies, 0, wearies, 0, MOST_THINGS);
            System.arraycopy(other.done, 0, done, 0, MOST_DAYS);
            System.arraycopy(other.bound, 0, bound, 0, MOST_DAYS);
            things = other.things;
            days = other.days;
            change = other.change;
            law = other.law;
        }

        boolean hasThing(int thing) {
            return thing >= 0 && thing < things;
        }

        boolean hasDay(int day) {
            return day >= 0 && day < days;
        }

        boolean isBoundElse(int day, int thing) {
            return bound[day] != NONE && bound[day] != thing;
        }

        boolean addThing(int kind, int worth, int habit, int weary) {
            if (things >= MOST_THINGS || worth > MOST_WORTH || habit > MOST_HABIT || weary > MOST_HABIT) {
                return false;
            }
            kinds[things] = kind;
            worths[things] = worth;
            habits[things] = habit;
            wearies[things] = weary;
            things++;
            return true;
        }

        boolean beginYear(int length) {
            if (length < 1 || length > MOST_DAYS) {
                return false;
            }
            days = length;
            Arrays.fill(done, 0);
            Arrays.fill(bound, NONE);
            return true;
        }

        void bindDay(int day, int thing) {
            bound[day] = thing;
            done[day] = thing;
        }

        void unbindDay(int day) {
            bound[day] = NONE;
        }

        int boundDays() {
            int sum = 0;
            for (int day = 0; day < days; day++) {
                if (bound[day] != NONE) {
                    sum++;
                }
            }
            return sum;
        }

        /** Which day of its stretch a day is, 1 first. */
        int placeInStretch(int day) {
            int first = day;
            while (first > 0 && done[first - 1] == done[day]) {
                first--;
            }
            return day - first + 1;
        }

        /** How many days of its stretch are behind a day. */
        int daysToGoOn(int day) {
            int last = day;
            while (last + 1 < days && done[last + 1] == done[day]) {
                last++;
            }
            return last - day;
        }

        int valueNow(int day) {
            return valueOf(done[day], placeInStretch(day));
        }

        /** What a thing is worth on the place-th day (1 first) of its stretch. */
        int valueOf(int thing, int place) {
            if (!hasThing(thing)) {
                return 0;
            }
            switch (kinds[thing]) {
                case REST:
                    return 0;
                case STEADY:
                    return workValue(thing, place, 2, 7);
                case TIRING:
                    return workValue(thing, place, 4, 4);
                case DOUBLE:
                    return 2 * workValue(thing, place, 2, 7);
                case FEAST:
                    return place == 1 ? worths[thing] : 0;
                default:
                    return workValue(thing, place, 4, 7);
            }
        }

        private int workValue(int thing, int place, int habitFrom, int wearyFrom) {
            int value = worths[thing];
            if (place >= habitFrom) {
                value += habits[thing];
            }
            if (place >= wearyFrom) {
                value -= wearies[thing];
            }
            return value;
        }

        boolean isTaxed(int thing) {
            return hasThing(thing) && kinds[thing] != REST && kinds[thing] != FEAST;
        }
    }

    /** The letters that have come, and how they become a land. */
    private static final class Text {
        private final int[] letters = new int[MOST_LETTERS];
        int size = 0;
        private int at = 0;
        private int head = 0;
        private final int[] numbers = new int[MOST_THINGS];
        /** The statements are tried here, since with a fault nothing of them may come. */
        private final Told trial = new Told();

        boolean isFull() {
            return size >= letters.length;
        }

        int append(int c) {
            if (!isFull()) {
                letters[size] = c;
                size++;
            }
            return size;
        }

        /** How many statements came, or the fault. */
        int becomeLand(Told told) {
            int answer = isWellFormed() ? tryStatements(told) : -1000 - at;
            if (answer >= 0) {
                told.copyFrom(trial);
            }
            size = 0;
            return answer;
        }

        /** If not, the place is left on the first letter that can't stand there. */
        private boolean isWellFormed() {
            at = 0;
            boolean fits = size > 0;
            for (int turn = 0; turn < MOST_LETTERS && fits && at < size; turn++) {
                fits = readStatement();
            }
            return fits;
        }

        private int tryStatements(Told told) {
            trial.copyFrom(told);
            at = 0;
            int statements = 0;
            for (int turn = 0; turn < MOST_LETTERS && at < size; turn++) {
                int first = at;
                if (!readStatement() || !tryStatement()) {
                    return -2000 - first;
                }
                statements++;
            }
            return statements;
        }

        private boolean readStatement() {
            head = letterHere();
            switch (head) {
                case 't':
                    at++;
                    return readKind() && readDigit(1) && readDigit(2) && readDigit(3) && readSign(';');
                case 'y':
                    at++;
                    return readNumber(0) && readSign(';');
                case 'd':
                case 'b':
                    at++;
                    return readNumber(0) && readSign(',') && readDigit(1) && readSign(';');
                case 'c':
                case 'l':
                    at++;
                    return readDigit(0) && readSign(';');
                default:
                    return false;
            }
        }

        private boolean tryStatement() {
            switch (head) {
                case 't':
                    return trial.addThing(numbers[0], numbers[1], numbers[2], numbers[3]);
                case 'y':
                    return trial.beginYear(numbers[0]);
                case 'd':
                    return tryDone(numbers[0], numbers[1]);
                case 'b':
                    return tryBound(numbers[0], numbers[1]);
                case 'c':
                    trial.change = numbers[0];
                    return true;
                default:
                    return tryLaw(numbers[0]);
            }
        }

        private boolean tryDone(int day, int thing) {
            if (!trial.hasDay(day) || !trial.hasThing(thing) || trial.isBoundElse(day, thing)) {
                return false;
            }
            trial.done[day] = thing;
            return true;
        }

        private boolean tryBound(int day, int thing) {
            if (!trial.hasDay(day)) {
                return false;
            }
            if (thing == UNKNOWN) {
                trial.unbindDay(day);
                return true;
            }
            if (!trial.hasThing(thing)) {
                return false;
            }
            trial.bindDay(day, thing);
            return true;
        }

        private boolean tryLaw(int law) {
            if (!isLaw(law)) {
                return false;
            }
            trial.law = law;
            return true;
        }

        private int letterHere() {
            return at >= 0 && at < size ? letters[at] : -1;
        }

        private boolean readSign(int sign) {
            if (letterHere() != sign) {
                return false;
            }
            at++;
            return true;
        }

        private boolean readKind() {
            int letter = letterHere();
            int kind = letter < 0 ? -1 : KIND_LETTERS.indexOf((char) letter);
            if (kind < 0) {
                return false;
            }
            numbers[0] = kind;
            at++;
            return true;
        }

        private boolean readDigit(int slot) {
            int letter = letterHere();
            if (letter < '0' || letter > '9') {
                return false;
            }
            numbers[slot] = letter - '0';
            at++;
            return true;
        }

        private boolean readNumber(int slot) {
            if (!readDigit(slot)) {
                return false;
            }
            int tens = 10 * numbers[slot];
            if (readDigit(slot)) {
                numbers[slot] += tens;
            }
            return true;
        }
    }

    /** A year looked at as a whole: what it earns, and what each law takes of it. */
    private static final class Look {
        /** MORE looks at one day behind the last. */
        final int[] done = new int[MOST_DAYS + 1];
        int days = 0;
        int earnings = 0;
        int changes = 0;
        int counted = 0;
        int longest = 0;
        private int second = 0;
        private int shortest = 0;
        private int squares = 0;

        void copyYear(Told told) {
            days = told.days;
            System.arraycopy(told.done, 0, done, 0, MOST_DAYS);
        }

        void addDay(int thing) {
            if (days < done.length) {
                done[days] = thing;
                days++;
            }
        }

        /** Draws a year with a seed, and answers the seed behind it. */
        int drawYear(Told told, int seed) {
            int z = seed;
            days = told.days;
            for (int day = 0; day < days; day++) {
                if (told.bound[day] != NONE) {
                    done[day] = told.bound[day];
                } else if (told.things > 0) {
                    z = z * 1664525 + 1013904223;
                    done[day] = (z & WITHOUT_SIGN) / 256 % told.things;
                }
            }
            return z;
        }

        void tally(Told told) {
            clear();
            int place = 0;
            for (int day = 0; day < days; day++) {
                if (day > 0 && done[day] != done[day - 1]) {
                    endStretch(told, done[day - 1], place);
                    changes++;
                    place = 0;
                }
                place++;
                earnings += told.valueOf(done[day], place);
            }
            if (days > 0) {
                endStretch(told, done[days - 1], place);
            }
            earnings -= changes * told.change;
        }

        private void clear() {
            earnings = 0;
            changes = 0;
            counted = 0;
            longest = 0;
            second = 0;
            shortest = 0;
            squares = 0;
        }

        private void endStretch(Told told, int thing, int length) {
            if (!told.isTaxed(thing)) {
                return;
            }
            shortest = counted == 0 ? length : Math.min(shortest, length);
            counted++;
            squares += length * length;
            if (length > longest) {
                second = longest;
                longest = length;
            } else if (length > second) {
                second = length;
            }
        }

        int taxBy(int law) {
            switch (law) {
                case SECOND:
                    return second * second;
                case ALL:
                    return squares;
                case CHANGES:
                    return 9 * changes;
                case SHORTEST:
                    return shortest * shortest;
                case FLAT:
                    return days;
                default:
                    return longest * longest;
            }
        }

        int leftBy(int law) {
            return earnings - taxBy(law);
        }
    }

    /**
     * The years that earn most. A year is taken as stretches, from its end to
     * its beginning, so that a limit on stretches is a limit on one loop.
     */
    private static final class Plan {
        /** What a stretch is worth, by thing and length. */
        private final int[][] sums = new int[MOST_THINGS][MOST_DAYS + 1];
        /** The most from a day on, if a stretch of the thing begins on it; NO_YEAR. */
        private final int[][] starts = new int[MOST_THINGS][MOST_DAYS + 1];
        /** The most from a day on, if a stretch of the thing ended ahead of it; NO_YEAR. */
        private final int[][] rests = new int[MOST_THINGS][MOST_DAYS + 1];
        final int[] year = new int[MOST_DAYS];
        int bestLeft = NO_YEAR;
        int bestLimit = NONE;

        void begin(Told told) {
            for (int thing = 0; thing < told.things; thing++) {
                for (int length = 1; length <= told.days; length++) {
                    sums[thing][length] = sums[thing][length - 1] + told.valueOf(thing, length);
                }
            }
        }

        /** The most that a year earns whose counted stretches keep to the limit. */
        int mostWithin(Told told, int limit) {
            for (int thing = 0; thing < told.things; thing++) {
                rests[thing][told.days] = 0;
            }
            for (int day = told.days - 1; day >= 0; day--) {
                for (int thing = 0; thing < told.things; thing++) {
                    starts[thing][day] = mostOfStretch(told, thing, day, limit);
                }
                for (int thing = 0; thing < told.things; thing++) {
                    rests[thing][day] = mostOfOthers(told, thing, day);
                }
            }
            int most = NO_YEAR;
            for (int thing = 0; thing < told.things; thing++) {
                most = Math.max(most, starts[thing][0]);
            }
            return most;
        }

        private int mostOfStretch(Told told, int thing, int day, int limit) {
            int end = lastEnd(told, thing, day, limit);
            int most = NO_YEAR;
            for (int next = day + 1; next <= end; next++) {
                if (rests[thing][next] != NO_YEAR) {
                    most = Math.max(most, sums[thing][next - day] + rests[thing][next]);
                }
            }
            return most;
        }

        /** The day behind the longest stretch of a thing that may begin on a day. */
        private int lastEnd(Told told, int thing, int day, int limit) {
            int bar = told.isTaxed(thing) ? Math.min(told.days, day + limit) : told.days;
            int end = day;
            while (end < bar && !told.isBoundElse(end, thing)) {
                end++;
            }
            return end;
        }

        private int mostOfOthers(Told told, int thing, int day) {
            int most = NO_YEAR;
            for (int other = 0; other < told.things; other++) {
                if (other != thing && starts[other][day] != NO_YEAR) {
                    most = Math.max(most, starts[other][day] - told.change);
                }
            }
            return most;
        }

        void findBest(Told told) {
            begin(told);
            bestLeft = NO_YEAR;
            bestLimit = NONE;
            // No limit allows more than this one, so the search ends where even this, less the tax, is no better.
            int ceiling = mostWithin(told, told.days);
            for (int limit = 1; limit <= told.days && ceiling - limit * limit > bestLeft; limit++) {
                int most = mostWithin(told, limit);
                if (most != NO_YEAR && most - limit * limit > bestLeft) {
                    bestLeft = most - limit * limit;
                    bestLimit = limit;
                }
            }
        }

        /** The first, by things day by day, of the years that earn most within the best limit. */
        void findFirstYear(Told told) {
            int most = mostWithin(told, bestLimit);
            int first = 0;
            year[0] = firstStart(told, most);
            for (int day = 1; day < told.days; day++) {
                year[day] = nextThing(told, first, day);
                if (year[day] != year[first]) {
                    first = day;
                }
            }
        }

        private int firstStart(Told told, int most) {
            for (int thing = 0; thing < told.things; thing++) {
                if (starts[thing][0] == most) {
                    return thing;
                }
            }
            return 0;
        }

        /** The least thing of a day with which the stretch that began on the first day still comes to its most. */
        private int nextThing(Told told, int first, int day) {
            int thing = year[first];
            int due = starts[thing][first] - sums[thing][day - first];
            for (int next = 0; next < told.things; next++) {
                if (next == thing ? goesOn(told, first, day) : turnsTo(told, next, day, due)) {
                    return next;
                }
            }
            return thing;
        }

        /** Whether the stretch comes to its most with the day in it, too. */
        private boolean goesOn(Told told, int first, int day) {
            int thing = year[first];
            int end = lastEnd(told, thing, first, bestLimit);
            for (int next = day + 1; next <= end; next++) {
                if (rests[thing][next] != NO_YEAR
                        && sums[thing][next - first] + rests[thing][next] == starts[thing][first]) {
                    return true;
                }
            }
            return false;
        }

        /** Whether a stretch of another thing, begun on the day, brings what is still due. */
        private boolean turnsTo(Told told, int next, int day, int due) {
            return starts[next][day] != NO_YEAR && starts[next][day] - told.change == due;
        }
    }

    /** How many years there are that fit what is known of them, taken as stretches from their end. */
    private static final class Counting {
        private final int[] known = new int[MOST_DAYS];
        private final boolean[] isTaxed = new boolean[MOST_THINGS];
        /** How many ways there are from a day on, if a stretch of the thing begins on it. */
        private final long[][] starts = new long[MOST_THINGS][MOST_DAYS + 1];
        /** How many ways there are from a day on, if a stretch of the thing ended ahead of it. */
        private final long[][] rests = new long[MOST_THINGS][MOST_DAYS + 1];
        private int days = 0;
        private int things = 0;

        void beginUnknown(int n, int m) {
            days = Math.min(n, MOST_DAYS);
            things = Math.min(m, MOST_THINGS);
            Arrays.fill(known, UNKNOWN);
            for (int thing = 0; thing < things; thing++) {
                isTaxed[thing] = true;
            }
        }

        void beginSeen(Told told, int[] seen, int size) {
            days = Math.min(size, MOST_DAYS);
            things = told.things;
            System.arraycopy(seen, 0, known, 0, MOST_DAYS);
            for (int thing = 0; thing < things; thing++) {
                isTaxed[thing] = told.isTaxed(thing);
            }
        }

        long thatPay(int sum) {
            for (int longest = 0; longest <= MOST_DAYS; longest++) {
                if (longest * longest == sum) {
                    return withLongest(longest);
                }
            }
            return 0;
        }

        /** Only the years with the thing on the day; from here on the day is known to be so. */
        long thatPayWith(int sum, int day, int thing) {
            if (day < 0 || day >= days || !isPossible(day, thing)) {
                return 0;
            }
            known[day] = thing;
            return thatPay(sum);
        }

        long withLongest(int longest) {
            return longest == 0 ? within(0) : within(longest) - within(longest - 1);
        }

        /** The years whose counted stretches keep to the limit. */
        private long within(int limit) {
            for (int thing = 0; thing < things; thing++) {
                rests[thing][days] = 1;
            }
            long ways = 0;
            for (int day = days - 1; day >= 0; day--) {
                ways = 0;
                for (int thing = 0; thing < things; thing++) {
                    starts[thing][day] = waysOfStretch(thing, day, limit);
                    ways += starts[thing][day];
                }
                for (int thing = 0; thing < things; thing++) {
                    rests[thing][day] = ways - starts[thing][day];
                }
            }
            return ways;
        }

        private long waysOfStretch(int thing, int day, int limit) {
            int bar = isTaxed[thing] ? Math.min(days, day + limit) : days;
            long ways = 0;
            for (int end = day; end < bar && isPossible(end, thing); end++) {
                ways += rests[thing][end + 1];
            }
            return ways;
        }

        private boolean isPossible(int day, int thing) {
            return known[day] == UNKNOWN || known[day] == thing;
        }
    }
}
