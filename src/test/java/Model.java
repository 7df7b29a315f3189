import java.util.ArrayList;
import java.util.Arrays;
import java.util.HashMap;
import java.util.List;
import java.util.Map;
import java.util.function.IntUnaryOperator;
import java.util.regex.Matcher;
import java.util.regex.Pattern;

/**
 * The document read a second time, slowly: every year is walked day by day,
 * where the program takes it stretch by stretch. The names are the face's.
 */
public final class Model {
    private static final String STATEMENT = "t[wrsidf]\\d\\d\\d;|y\\d\\d?;|[db]\\d\\d?,\\d;|[cl]\\d;";
    private static final Pattern LAND = Pattern.compile("(?:" + STATEMENT + ")+");
    private static final Pattern ONE = Pattern.compile(STATEMENT);

    record Thing(char kind, int worth, int habit, int weary) {
        boolean counts() {
            return kind != 'r' && kind != 'f';
        }

        int value(int k) {
            int value = worth;
            switch (kind) {
                case 'w' -> value += (k > 3 ? habit : 0) - (k > 6 ? weary : 0);
                case 's' -> value += (k > 1 ? habit : 0) - (k > 6 ? weary : 0);
                case 'i' -> value += (k > 3 ? habit : 0) - (k > 3 ? weary : 0);
                case 'd' -> value = 2 * (worth + (k > 1 ? habit : 0) - (k > 6 ? weary : 0));
                case 'f' -> value = k > 1 ? 0 : worth;
                default -> value = 0;
            }
            return value;
        }
    }

    static final class State {
        List<Thing> things = new ArrayList<>();
        int[] done = new int[10];
        Integer[] bound = new Integer[10];
        int change = 1;
        int law = 0;

        State copy() {
            State s = new State();
            s.things = new ArrayList<>(things);
            s.done = done.clone();
            s.bound = bound.clone();
            s.change = change;
            s.law = law;
            return s;
        }
    }

    private State now = new State();
    private State image = null;
    private final StringBuilder text = new StringBuilder();
    private List<Integer> row = new ArrayList<>();
    private final int[] refusals = new int[7];

    public int letter(int c) {
        if (c < 0) return refused(-4);
        if (c > 255 || text.length() == 80) return refused(-6);
        text.append((char) c);
        return text.length();
    }

    public int land() {
        String told = text.toString();
        text.setLength(0);
        if (!LAND.matcher(told).matches()) return -1000 - firstBadPlace(told);
        State trial = now.copy();
        Matcher m = ONE.matcher(told);
        int statements = 0;
        while (m.find()) {
            if (!apply(trial, m.group())) return -2000 - m.start();
            statements++;
        }
        now = trial;
        return statements;
    }

    private static int firstBadPlace(String told) {
        for (int end = 1; end <= told.length(); end++) {
            Matcher m = LAND.matcher(told.substring(0, end));
            if (!m.matches() && !m.hitEnd()) return end - 1;
        }
        return told.length();
    }

    private static boolean apply(State s, String statement) {
        String body = statement.substring(1, statement.length() - 1);
        switch (statement.charAt(0)) {
            case 't':
                Thing thing = new Thing(body.charAt(0), body.charAt(1) - '0', body.charAt(2) - '0', body.charAt(3) - '0');
                if (s.things.size() == 4 || thing.habit > 3 || thing.weary > 3) return false;
                s.things.add(thing);
                return true;
            case 'y':
                int days = Integer.parseInt(body);
                if (days < 1 || days > 20) return false;
                s.done = new int[days];
                s.bound = new Integer[days];
                return true;
            case 'c':
                s.change = Integer.parseInt(body);
                return true;
            case 'l':
                if (Integer.parseInt(body) > 5) return false;
                s.law = Integer.parseInt(body);
                return true;
            default:
                String[] parts = body.split(",");
                return applyDay(s, statement.charAt(0), Integer.parseInt(parts[0]), Integer.parseInt(parts[1]));
        }
    }

    private static boolean applyDay(State s, char head, int day, int thing) {
        if (day >= s.done.length) return false;
        if (head == 'b' && thing == 9) {
            s.bound[day] = null;
            return true;
        }
        if (thing >= s.things.size()) return false;
        if (head == 'd' && s.bound[day] != null && s.bound[day] != thing) return false;
        if (head == 'b') s.bound[day] = thing;
        s.done[day] = thing;
        return true;
    }

    public int thing(int thing, int what) {
        if (noThing(thing)) return refused(-1);
        Thing t = now.things.get(thing);
        return switch (what) {
            case 0 -> "wrsidf".indexOf(t.kind);
            case 1 -> t.worth;
            case 2 -> t.habit;
            case 3 -> t.weary;
            default -> refused(-2);
        };
    }

    public int does(int day, int thing) {
        if (noDay(day) || noThing(thing)) return refused(-1);
        if (now.bound[day] != null && now.bound[day] != thing) return refused(-3);
        int was = now.done[day];
        now.done[day] = thing;
        return was;
    }

    public int bind(int day, int thing) {
        if (noDay(day) || thing != -1 && noThing(thing)) return refused(-1);
        int was = now.bound[day] == null ? -9 : now.bound[day];
        now.bound[day] = thing == -1 ? null : Integer.valueOf(thing);
        if (thing != -1) now.done[day] = thing;
        return was;
    }

    public int done(int day) {
        return noDay(day) ? refused(-1) : now.done[day];
    }

    public int change(int v) {
        if (v < 0) return refused(-4);
        if (v > 9) return refused(-6);
        int was = now.change;
        now.change = v;
        return was;
    }

    public int law(int v) {
        if (v < 0 || v > 5) return refused(-2);
        int was = now.law;
        now.law = v;
        return was;
    }

    public int longest() {
        return countedOf(now.done).stream().mapToInt(v -> v).max().orElse(0);
    }

    public int stretches() {
        return countedOf(now.done).size();
    }

    public int stretch(int day, int what) {
        if (noDay(day)) return refused(-1);
        if (what != 0 && what != 1) return refused(-2);
        int from = day;
        while (from > 0 && now.done[from - 1] == now.done[day]) from--;
        int to = day;
        while (to < now.done.length && now.done[to] == now.done[day]) to++;
        return what == 0 ? to - from : day - from + 1;
    }

    public int worth(int day) {
        if (noDay(day)) return amount(-1);
        if (now.things.isEmpty()) return amount(-3);
        return valuesOf(now.done)[day];
    }

    public int earned() {
        return now.things.isEmpty() ? amount(-3) : earnedOf(now.done);
    }

    public int pays() {
        return now.things.isEmpty() ? refused(-3) : taxOf(now.done, now.law);
    }

    public int left() {
        return now.things.isEmpty() ? amount(-3) : leftOf(now.done);
    }

    public int allow(int l) {
        if (l < 1) return amount(-4);
        if (l > 20) return amount(-6);
        if (now.things.isEmpty()) return amount(-3);
        Integer most = mostWithin(l, new int[0]);
        return most == null ? -999 : most;
    }

    public int best(int what) {
        if (what != 0 && what != 1) return amount(-2);
        if (now.things.isEmpty()) return amount(-3);
        int[] best = bestOf();
        return best[what];
    }

    public int bestDay(int day) {
        if (noDay(day)) return refused(-1);
        if (now.things.isEmpty()) return refused(-3);
        int[] best = bestOf();
        int due = best[0] + best[1] * best[1];
        int[] year = new int[0];
        while (year.length <= day) {
            year = Arrays.copyOf(year, year.length + 1);
            Integer most = mostWithin(best[1], year);
            while (most == null || most != due) {
                year[year.length - 1]++;
                most = mostWithin(best[1], year);
            }
        }
        return year[day];
    }

    private int[] bestOf() {
        int[] best = {-999, -9};
        for (int l = 1; l <= 20; l++) {
            Integer most = mostWithin(l, new int[0]);
            if (most != null && most - l * l > best[0]) best = new int[] {most - l * l, l};
        }
        return best;
    }

    public int breaking() {
        if (now.things.isEmpty()) return refused(-3);
        int most = leftOf(now.done);
        int found = -9;
        for (int code = 0; code < 200; code++) {
            int day = code / 10;
            if (noDay(day) || noThing(code % 10) || now.bound[day] != null) continue;
            int[] year = now.done.clone();
            year[day] = code % 10;
            if (leftOf(year) > most) {
                most = leftOf(year);
                found = code;
            }
        }
        return found;
    }

    public int more(int thing) {
        if (noThing(thing)) return amount(-1);
        int[] year = Arrays.copyOf(now.done, now.done.length + 1);
        year[now.done.length] = thing;
        return leftOf(year) - leftOf(now.done);
    }

    public int brought(int thing) {
        if (noThing(thing)) return amount(-1);
        int sum = 0;
        for (int day = 0; day < now.done.length; day++) {
            if (now.done[day] == thing) sum += valuesOf(now.done)[day];
        }
        return sum;
    }

    public int byLaw(int law) {
        if (law < 0 || law > 5) return refused(-2);
        return now.things.isEmpty() ? refused(-3) : taxOf(now.done, law);
    }

    public long years(int n, int m, int l) {
        if (n < 1 || m < 1 || l < 1) return refusedLong(-4);
        if (n > 20 || m > 4 || l > 20) return refusedLong(-6);
        List<Thing> all = new ArrayList<>();
        for (int i = 0; i < m; i++) all.add(new Thing('w', 0, 0, 0));
        return countYears(all, n, day -> 9, l, new HashMap<>(), 0, 0, 0, 0);
    }

    public int row(int v) {
        if (v < 0) return refused(-4);
        if (v > 9 || row.size() == 20) return refused(-6);
        row.add(v);
        return row.size();
    }

    public long fitting(int sum) {
        if (sum < 0) return refusedLong(-4);
        if (sum > 400) return refusedLong(-6);
        if (now.things.isEmpty() || row.isEmpty()) return refusedLong(-3);
        return fittingRow(sum, row);
    }

    public long likely(int sum, int day, int thing, int part) {
        if (day < 0 || day >= row.size() || noThing(thing)) return refusedLong(-1);
        if (sum < 0) return refusedLong(-4);
        if (sum > 400) return refusedLong(-6);
        if (part != 0 && part != 1) return refusedLong(-2);
        long all = fittingRow(sum, row);
        if (all == 0) return part;
        List<Integer> sharper = new ArrayList<>(row);
        sharper.set(day, thing);
        long such = row.get(day) == 9 || row.get(day) == thing ? fittingRow(sum, sharper) : 0;
        long gcd = java.math.BigInteger.valueOf(all).gcd(java.math.BigInteger.valueOf(such)).longValue();
        return (part == 0 ? such : all) / gcd;
    }

    private long fittingRow(int sum, List<Integer> seen) {
        int root = (int) Math.round(Math.sqrt(sum));
        if (root * root != sum) return 0;
        return countYears(now.things, seen.size(), seen::get, root, new HashMap<>(), 0, 0, 0, 0);
    }

    /** Years from a day on, last and run being what the days ahead end with, longest their longest that counts. */
    private static long countYears(List<Thing> things, int days, IntUnaryOperator seen, int due,
            Map<List<Integer>, Long> known, int day, int last, int run, int longest) {
        if (day == days) return longest == due ? 1 : 0;
        List<Integer> key = List.of(day, last, run, longest);
        Long before = known.get(key);
        if (before != null) return before;
        long sum = 0;
        for (int t = 0; t < things.size(); t++) {
            if (seen.applyAsInt(day) != 9 && seen.applyAsInt(day) != t) continue;
            int nextRun = run > 0 && t == last ? run + 1 : 1;
            int nextLongest = things.get(t).counts() ? Math.max(longest, nextRun) : longest;
            sum += countYears(things, days, seen, due, known, day + 1, t, nextRun, nextLongest);
        }
        known.put(key, sum);
        return sum;
    }

    public int judge() {
        List<Integer> seen = row;
        row = new ArrayList<>();
        for (int day = 0; ; day++) {
            boolean seenEnds = day == seen.size();
            boolean yearEnds = day == now.done.length;
            if (seenEnds && yearEnds) return -9;
            if (seenEnds || yearEnds) return day;
            if (seen.get(day) != 9 && seen.get(day) != now.done[day]) return day;
        }
    }

    public int seeds(int n, int z) {
        if (n < 1) return amount(-4);
        if (n > 20) return amount(-6);
        if (now.things.isEmpty()) return amount(-3);
        int sum = 0;
        int seed = z;
        for (int i = 0; i < n; i++) {
            int[] year = new int[now.done.length];
            for (int day = 0; day < year.length; day++) {
                if (now.bound[day] != null) {
                    year[day] = now.bound[day];
                    continue;
                }
                seed = (int) (seed * 1664525L + 1013904223L);
                year[day] = ((seed << 1) >>> 1) / 256 % now.things.size();
            }
            sum += leftOf(year);
        }
        return sum;
    }

    public int image() {
        image = now.copy();
        return now.done.length;
    }

    public int on() {
        if (image == null) return refused(-3);
        now = image.copy();
        return now.done.length;
    }

    public int count(int what) {
        return switch (what) {
            case 0 -> now.things.size();
            case 1 -> now.done.length;
            case 2 -> now.change;
            case 3 -> now.law;
            case 4 -> changesOf(now.done);
            case 5 -> (int) Arrays.stream(now.bound).filter(b -> b != null).count();
            case 6 -> row.size();
            case 7 -> text.length();
            case 11, 12, 13, 14, 15, 16 -> refusals[what - 10];
            default -> -9;
        };
    }

    private boolean noThing(int thing) {
        return thing < 0 || thing >= now.things.size();
    }

    private boolean noDay(int day) {
        return day < 0 || day >= now.done.length;
    }

    private int refused(int number) {
        refusals[-number]++;
        return number;
    }

    private int amount(int number) {
        return 1000000000 - refused(number);
    }

    private long refusedLong(int number) {
        return 4000000000000000000L - refused(number);
    }

    private int[] placesOf(int[] year) {
        int[] places = new int[year.length];
        for (int day = 0; day < year.length; day++) {
            places[day] = day > 0 && year[day] == year[day - 1] ? places[day - 1] + 1 : 1;
        }
        return places;
    }

    private int[] valuesOf(int[] year) {
        int[] places = placesOf(year);
        int[] values = new int[year.length];
        for (int day = 0; day < year.length; day++) {
            values[day] = now.things.get(year[day]).value(places[day]);
        }
        return values;
    }

    private static int changesOf(int[] year) {
        int changes = 0;
        for (int day = 1; day < year.length; day++) {
            if (year[day] != year[day - 1]) changes++;
        }
        return changes;
    }

    private List<Integer> countedOf(int[] year) {
        List<Integer> lengths = new ArrayList<>();
        int[] places = placesOf(year);
        for (int day = 0; day < year.length && !now.things.isEmpty(); day++) {
            boolean isLast = day + 1 == year.length || year[day + 1] != year[day];
            if (isLast && now.things.get(year[day]).counts()) lengths.add(places[day]);
        }
        return lengths;
    }

    int earnedOf(int[] year) {
        return Arrays.stream(valuesOf(year)).sum() - now.change * changesOf(year);
    }

    private int taxOf(int[] year, int law) {
        List<Integer> lengths = countedOf(year);
        lengths.sort(null);
        int n = lengths.size();
        return switch (law) {
            case 0 -> n < 1 ? 0 : lengths.get(n - 1) * lengths.get(n - 1);
            case 1 -> n < 2 ? 0 : lengths.get(n - 2) * lengths.get(n - 2);
            case 2 -> lengths.stream().mapToInt(v -> v * v).sum();
            case 3 -> 9 * changesOf(year);
            case 4 -> n < 1 ? 0 : lengths.get(0) * lengths.get(0);
            default -> year.length;
        };
    }

    private int leftOf(int[] year) {
        return earnedOf(year) - taxOf(year, now.law);
    }

    /** The most that a year earns that begins as told and keeps to the limit; null there is none. */
    private Integer mostWithin(int limit, int[] beginning) {
        return mostFrom(limit, beginning, 0, -1, 0, new HashMap<>());
    }

    private Integer mostFrom(int limit, int[] beginning, int day, int last, int run, Map<List<Integer>, Integer> known) {
        if (day == now.done.length) return 0;
        List<Integer> key = List.of(day, last, run);
        if (known.containsKey(key)) return known.get(key);
        Integer most = null;
        for (int t = 0; t < now.things.size(); t++) {
            if (now.bound[day] != null && now.bound[day] != t) continue;
            if (day < beginning.length && beginning[day] != t) continue;
            int k = t == last ? run + 1 : 1;
            if (now.things.get(t).counts() && k > limit) continue;
            Integer behind = mostFrom(limit, beginning, day + 1, t, k, known);
            if (behind == null) continue;
            int sum = behind + now.things.get(t).value(k) - (day > 0 && t != last ? now.change : 0);
            if (most == null || sum > most) most = sum;
        }
        known.put(key, most);
        return most;
    }

    /** ALLOW by looking at every year there is; for short years. */
    int allowByAllYears(int limit) {
        int most = -999;
        for (int[] year : allYears()) {
            if (isWithin(year, limit)) most = Math.max(most, earnedOf(year));
        }
        return most;
    }

    /** The year of BEST by looking at every year there is; for short years. */
    int[] bestYearByAllYears() {
        int best = -999;
        int limit = -9;
        for (int l = 1; l <= 20; l++) {
            int most = allowByAllYears(l);
            if (most != -999 && most - l * l > best) {
                best = most - l * l;
                limit = l;
            }
        }
        for (int[] year : allYears()) {
            if (isWithin(year, limit) && earnedOf(year) == best + limit * limit) return year;
        }
        return new int[0];
    }

    private boolean isWithin(int[] year, int limit) {
        for (int length : countedOf(year)) {
            if (length > limit) return false;
        }
        return true;
    }

    /** In their order, by things day by day. */
    private List<int[]> allYears() {
        List<int[]> years = new ArrayList<>();
        years.add(new int[0]);
        for (int day = 0; day < now.done.length; day++) {
            List<int[]> longer = new ArrayList<>();
            for (int[] year : years) {
                for (int t = 0; t < now.things.size(); t++) {
                    if (now.bound[day] != null && now.bound[day] != t) continue;
                    int[] next = Arrays.copyOf(year, day + 1);
                    next[day] = t;
                    longer.add(next);
                }
            }
            years = longer;
        }
        return years;
    }
}
