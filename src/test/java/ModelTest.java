import java.lang.reflect.Method;
import java.util.Map;
import java.util.Random;

/** Runs of calls drawn by seeds: the program against the model, answer by answer. */
public final class ModelTest {
    private static final int RUNS = 400;
    private static final int CALLS = 512;
    private static final Map<String, Method> FACE = Run.faceOf(TaxedByLongest.class);
    private static final Map<String, Method> SLOW = Run.faceOf(Model.class);
    private static final String[] NAMES = {
        "thing", "does", "does", "does", "bind", "bind", "done", "change", "law", "longest", "stretches", "stretch",
        "worth", "earned", "pays", "left", "allow", "best", "bestDay", "breaking", "more", "brought", "byLaw",
        "years", "row", "row", "row", "fitting", "likely", "likely", "judge", "seeds", "image", "on", "count", "count"
    };

    public static void main(String[] args) throws Exception {
        for (int run = 0; run < RUNS && Check.isFaultless(); run++) {
            oneRun(run);
        }
        for (int run = 0; run < 150; run++) {
            allYearsRun(run);
        }
        Check.end();
    }

    private static void oneRun(int run) throws Exception {
        Random random = new Random(run);
        Object[] both = {new TaxedByLongest(), new Model()};
        int calls = 0;
        // Some runs never have things, the others get some at once.
        if (run % 10 != 0) {
            calls = tell(run, both, land(random, true), calls);
        }
        while (calls < CALLS) {
            if (random.nextInt(25) == 0) {
                calls = tell(run, both, land(random, random.nextInt(3) > 0), calls);
            } else {
                String name = NAMES[random.nextInt(NAMES.length)];
                call(run, both, name, arguments(name, random));
                calls++;
            }
        }
    }

    private static int tell(int run, Object[] both, String text, int calls) throws Exception {
        int made = calls;
        for (int i = 0; i < text.length() && made < CALLS; i++, made++) {
            call(run, both, "letter", (int) text.charAt(i));
        }
        if (made < CALLS) {
            call(run, both, "land");
            made++;
        }
        return made;
    }

    private static void call(int run, Object[] both, String name, Object... args) throws Exception {
        long got = ((Number) FACE.get(name).invoke(both[0], args)).longValue();
        long want = ((Number) SLOW.get(name).invoke(both[1], args)).longValue();
        Check.due("run " + run + ": " + name + java.util.Arrays.toString(args), got, want);
    }

    private static Object[] arguments(String name, Random random) {
        Object[] args = new Object[FACE.get(name).getParameterCount()];
        for (int i = 0; i < args.length; i++) {
            args[i] = argument(name, i, random);
        }
        return args;
    }

    private static int argument(String name, int place, Random random) {
        if (random.nextInt(40) == 0) {
            int[] odd = {-1, -2, Integer.MIN_VALUE, Integer.MAX_VALUE, 401, 21, 20, 10, 6};
            return odd[random.nextInt(odd.length)];
        }
        boolean isDay = name.matches("stretch|worth|done|bestDay|does|bind") && place == 0 || name.equals("likely") && place == 1;
        boolean isThing = name.matches("thing|more|brought") && place == 0
                || name.matches("does|bind") && place == 1 || name.equals("likely") && place == 2;
        if (isDay) {
            return random.nextInt(random.nextBoolean() ? 6 : 21);
        }
        if (isThing) {
            return random.nextInt(5) - (name.equals("bind") && random.nextInt(3) == 0 ? 1 : 0);
        }
        if (name.matches("fitting|likely") && place == 0) {
            int root = random.nextInt(random.nextBoolean() ? 5 : 21);
            return root * root + (random.nextInt(8) == 0 ? 1 : 0);
        }
        if (name.equals("row")) {
            return random.nextInt(3) == 0 ? random.nextInt(10) : random.nextInt(2) == 0 ? 9 : random.nextInt(3);
        }
        if (name.equals("seeds") && place == 1) {
            return random.nextInt();
        }
        return switch (name) {
            case "count" -> random.nextInt(19) - 1;
            case "allow", "years", "seeds" -> name.equals("years") && place == 1 ? random.nextInt(6) : random.nextInt(22);
            case "law", "byLaw" -> random.nextInt(7);
            case "change" -> random.nextInt(11);
            case "thing" -> random.nextInt(5);
            default -> random.nextInt(3) - (random.nextInt(10) == 0 ? 1 : 0);
        };
    }

    /** A text that mostly is a land; in half of the wild ones a letter is wrong. */
    private static String land(Random random, boolean isTame) {
        StringBuilder text = new StringBuilder();
        int statements = 1 + random.nextInt(9);
        for (int i = 0; i < statements && text.length() < 74; i++) {
            text.append(statement(random, isTame));
        }
        if (!isTame && random.nextBoolean()) {
            int place = random.nextInt(text.length());
            int how = random.nextInt(3);
            String wild = "tybdclwrsif0123456789;, " + (char) 233;
            if (how == 0) text.setCharAt(place, wild.charAt(random.nextInt(wild.length())));
            if (how == 1) text.deleteCharAt(place);
            if (how == 2) text.setLength(place);
        }
        return text.toString();
    }

    private static String statement(Random random, boolean isTame) {
        int more = isTame ? 0 : 1;
        switch ("tttydddbbcl".charAt(random.nextInt(11))) {
            case 't':
                return "t" + "wrsidf".charAt(random.nextInt(6)) + random.nextInt(10) + random.nextInt(4 + more) + random.nextInt(4 + more) + ";";
            case 'y':
                return "y" + number(random, 1 - more + random.nextInt(20 + 3 * more)) + ";";
            case 'd':
                return "d" + number(random, random.nextInt(3 + 9 * more)) + "," + random.nextInt(1 + 2 * more) + ";";
            case 'b':
                return "b" + number(random, random.nextInt(3 + 9 * more)) + "," + (random.nextInt(4) == 0 ? 9 : random.nextInt(1 + 2 * more)) + ";";
            case 'c':
                return "c" + random.nextInt(10) + ";";
            default:
                return "l" + random.nextInt(6 + more) + ";";
        }
    }

    private static String number(Random random, int v) {
        return v < 10 && random.nextInt(3) == 0 ? "0" + v : "" + v;
    }

    /** Short years, of which every one can be looked at. */
    private static void allYearsRun(int run) {
        Random random = new Random(1000 + run);
        int things = 1 + random.nextInt(4);
        int days = 1 + random.nextInt(things > 2 ? 5 : 9);
        StringBuilder text = new StringBuilder("y" + days + ";c" + random.nextInt(4) + ";");
        for (int t = 0; t < things; t++) {
            // Few worths, so that many years are as good as the best.
            text.append('t').append("wrsidf".charAt(random.nextInt(6))).append(random.nextInt(4))
                    .append(random.nextInt(3)).append(random.nextInt(4)).append(';');
        }
        for (int i = 0; i < random.nextInt(3); i++) {
            text.append('b').append(random.nextInt(days)).append(',').append(random.nextInt(things)).append(';');
        }
        Run x = Run.of(text.toString());
        Model model = new Model();
        text.chars().forEach(model::letter);
        model.land();
        for (int l = 1; l <= days + 1; l++) {
            Check.due(text + " allow(" + l + ")", x.ask("allow(" + l + ")"), (long) model.allowByAllYears(l));
        }
        int[] year = model.bestYearByAllYears();
        for (int day = 0; day < days; day++) {
            Check.due(text + " bestDay(" + day + ")", x.ask("bestDay(" + day + ")"), (long) year[day]);
        }
    }
}
