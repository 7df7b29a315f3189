import java.math.BigInteger;

/** Terms II, from YEARS to SEEDS. */
public final class TermsCountingTest {
    private static final String ALL_20 = "9".repeat(20);

    public static void main(String[] args) throws Exception {
        Check.run(TermsCountingTest.class);
    }

    /** How many years of as many days as the row, all looked at one by one, have just such a longest counted stretch. */
    private static long lookedAt(String row, String counted, int longest) {
        int things = counted.length();
        long all = Math.round(Math.pow(things, row.length()));
        long found = 0;
        for (long code = 0; code < all; code++) {
            StringBuilder year = new StringBuilder();
            long rest = code;
            for (int day = 0; day < row.length(); day++) {
                year.append(rest % things);
                rest /= things;
            }
            if (year.toString().matches(row.replace('9', '.')) && longestOf(year, counted) == longest) {
                found++;
            }
        }
        return found;
    }

    /** Which things are counted is told by a letter each, y or n. */
    private static int longestOf(CharSequence year, String counted) {
        int longest = 0;
        int length = 0;
        for (int day = 0; day < year.length(); day++) {
            length = day > 0 && year.charAt(day) == year.charAt(day - 1) ? length + 1 : 1;
            if (counted.charAt(year.charAt(day) - '0') == 'y') {
                longest = Math.max(longest, length);
            }
        }
        return longest;
    }

    // Years.

    @Says(promise = 24, words = {"YEARS: of n DAYS (1 .. 20) of m THINGS (1 .. 4, all counted) those whose longest STRETCH is just l"
        + " (1 .. 20): how many."})
    static void allShortYears() {
        Run x = new Run();
        for (int n = 1; n <= 6; n++) {
            for (int m = 1; m <= 4; m++) {
                for (int l = 1; l <= 7; l++) {
                    x.due("years(" + n + ", " + m + ", " + l + ")", lookedAt("9".repeat(n), "y".repeat(m), l));
                }
            }
        }
    }

    @Says(promise = 24, words = {"YEARS: of n DAYS (1 .. 20) of m THINGS (1 .. 4, all counted) those whose longest STRETCH is just l"
        + " (1 .. 20): how many."})
    static void theLeastAndTheGreatest() {
        Run x = new Run().due("years(1, 1, 1)", 1).due("years(1, 4, 1)", 4).due("years(1, 1, 20)", 0).due("years(20, 1, 20)", 1);
        x.due("years(20, 4, 20)", 4).due("years(20, 4, 19)", 2 * 4 * 3).due("years(20, 4, 1)", 4 * 1162261467L).due("years(20, 2, 1)", 2);
    }

    @Says(promise = 24, words = {"those whose longest STRETCH is just l (1 .. 20): how many."})
    static void aStretchLongerThanTheYearIsNone() {
        Run x = new Run();
        for (int n = 1; n < 20; n++) {
            x.due("years(" + n + ", 3, " + (n + 1) + ")", 0).due("years(" + n + ", 3, " + n + ")", 3).due("years(" + n + ", 1, 20)", 0);
        }
    }

    @Says(promise = 24, words = {"those whose longest STRETCH is just l (1 .. 20): how many."})
    static void oneThingHasOneYear() {
        Run x = new Run();
        for (int l = 1; l <= 20; l++) {
            x.due("years(12, 1, " + l + ")", l == 12 ? 1 : 0);
        }
    }

    @Says(promise = 24, words = {"those whose longest STRETCH is just l (1 .. 20): how many."})
    static void togetherTheyAreAllYears() {
        for (int m = 1; m <= 4; m++) {
            Run x = new Run();
            BigInteger sum = BigInteger.ZERO;
            for (int l = 1; l <= 20; l++) {
                sum = sum.add(BigInteger.valueOf(x.ask("years(20, " + m + ", " + l + ")")));
            }
            Check.due("all years of 20 days of " + m, sum, BigInteger.valueOf(m).pow(20));
        }
    }

    @Says(promise = 24, words = {"(1 .. 4, all counted)"})
    static void theThingsThatAreToldDoNotMatter() {
        Run.of("tr000;tf000;y3;b0,1;").row("0").due("years(4, 2, 4)", 2).due("years(2, 4, 2)", 4);
        new Run().due("years(2, 2, 2)", 2);
    }

    // The row and what fits it.

    @Says(promise = 25, words = {"FITTING: a ROW is told (0 .. 3; 9 not known; 20 at most):"})
    static void aRowOf20Numbers() {
        Run x = Run.of("tw100;").row(ALL_20).due("count(6)", 20).due("row(9)", -6).due("count(6)", 20).due("fitting(400)", 1);
    }

    @Says(promise = 26, words = {"FITTING: a ROW is told (0 .. 3; 9 not known; 20 at most):"})
    static void eachThingMayBeKnown() {
        Run x = Run.of("tw100;tr000;ts100;tr000;").row("0123").due("fitting(1)", 1).due("fitting(4)", 0).due("fitting(0)", 0);
        x.due("judge()", 1).row("1331").due("fitting(0)", 1).due("fitting(1)", 0);
    }

    @Says(promise = 26, words = {"FITTING: a ROW is told (0 .. 3; 9 not known; 20 at most):"})
    static void aNumberThatIsNoThingFitsNoYear() {
        Run x = Run.of("tw100;tr000;").row("929").due("fitting(0)", 0).due("fitting(1)", 0).due("fitting(4)", 0);
        for (int v = 4; v <= 8; v++) {
            Run.of("tw100;tr000;tr000;tr000;").row(v + "9").due("fitting(0)", 0).due("fitting(1)", 0).due("likely(1, 1, 0, 1)", 1);
        }
    }

    @Says(promise = 26, words = {"of how many years of as many DAYS, of all THINGS there are, DONE so where known, LAW 0 takes a told sum"
        + " (0 .. 400): how many;"})
    static void allYearsOfShortRows() {
        String[] rows = {"9", "0", "99", "09", "90", "1", "19", "999", "909", "090", "919", "9999", "0990", "9009", "999999", "910919"};
        String[] lands = {"tw100;", "tr100;", "tw100;tr000;", "tf100;ti000;", "td100;tw100;tr000;", "tr000;tw100;tf100;ts100;"};
        String[] counted = {"y", "n", "yn", "ny", "yyn", "nyny"};
        for (int i = 0; i < lands.length; i++) {
            for (String row : rows) {
                Run x = Run.of(lands[i]).row(row);
                for (int longest = 0; longest <= row.length() + 1; longest++) {
                    x.due("fitting(" + longest * longest + ")", lookedAt(row, counted[i], longest));
                }
            }
        }
    }

    @Says(promise = 26, words = {"of how many years of as many DAYS, of all THINGS there are,"})
    static void ofAsManyDaysAsTheRowNotAsTheYear() {
        Run.of("tw100;y3;").row("99999").due("fitting(25)", 1).due("fitting(9)", 0);
        Run.of("tw100;y20;").row("9").due("fitting(1)", 1).due("fitting(400)", 0);
    }

    @Says(promise = 26, words = {"DONE so where known,"})
    static void whatIsDoneAndBoundDoesNotMatter() {
        Run.of("tw100;tr000;b0,1;b1,1;").row("99").due("fitting(4)", 1).due("fitting(1)", 2).due("fitting(0)", 1);
        Run.of("tw100;tr000;y2;").year("11").row("99").due("fitting(4)", 1).due("fitting(0)", 1);
    }

    @Says(promise = 26, words = {"LAW 0 takes a told sum (0 .. 400): how many;"})
    static void law0WhateverTheLaw() {
        for (int law = 0; law <= 5; law++) {
            Run.of("tw100;tr000;l" + law + ";").row("99").due("fitting(4)", 1).due("fitting(1)", 2).due("fitting(0)", 1);
        }
    }

    @Says(promise = 26, words = {"LAW 0 takes a told sum (0 .. 400): how many;"})
    static void theLeastAndTheGreatestSum() {
        Run x = Run.of("tw100;tr000;").row(ALL_20).due("fitting(0)", 1).due("fitting(400)", 1).due("fitting(361)", 2);
        Run.of("tw100;tw100;tw100;tw100;").row(ALL_20).due("fitting(0)", 0).due("fitting(400)", 4).due("fitting(1)", 4 * 1162261467L);
        Run.of("tr000;tr000;tr000;tf000;").row(ALL_20).due("fitting(0)", 1L << 40).due("fitting(1)", 0).due("fitting(400)", 0);
    }

    @Says(promise = 26, words = {"LAW 0 takes a told sum (0 .. 400): how many;"})
    static void aSumThatIsNoSquareIsNeverTaken() {
        Run x = Run.of("tw100;tr000;").row(ALL_20);
        for (int sum = 0; sum <= 400; sum++) {
            int root = (int) Math.round(Math.sqrt(sum));
            if (root * root != sum) {
                x.due("fitting(" + sum + ")", 0);
            }
        }
    }

    // How likely.

    private static void dueLikely(Run x, String sumDayThing, long above, long below) {
        x.due("likely(" + sumDayThing + ", 0)", above).due("likely(" + sumDayThing + ", 1)", below);
    }

    @Says(promise = 27, words = {"how likely a told THING was DONE on a told DAY of it (a fraction in least terms; 0 by 1, if there are none)."})
    static void aFractionInLeastTerms() {
        // 010, 011, 101, 110 pay 1.
        Run x = Run.of("tw100;tr000;").row("999");
        dueLikely(x, "1, 0, 0", 1, 2);
        dueLikely(x, "1, 1, 0", 1, 4);
        dueLikely(x, "1, 1, 1", 3, 4);
        dueLikely(x, "1, 2, 0", 1, 2);
    }

    @Says(promise = 27, words = {"(a fraction in least terms;"})
    static void aThingThatIsSureIs1By1() {
        dueLikely(Run.of("tw100;tr000;").row("999"), "9, 2, 0", 1, 1);
        dueLikely(Run.of("tw100;tr000;").row("099"), "1, 0, 0", 1, 1);
        dueLikely(Run.of("tr000;").row(ALL_20), "0, 19, 0", 1, 1);
    }

    @Says(promise = 27, words = {"(a fraction in least terms;"})
    static void aThingThatCanNotBeIs0By1() {
        dueLikely(Run.of("tw100;tr000;").row("999"), "9, 2, 1", 0, 1);
        dueLikely(Run.of("tw100;tr000;").row("099"), "1, 0, 1", 0, 1);
    }

    @Says(promise = 27, words = {"0 by 1, if there are none)."})
    static void withoutYearsIs0By1() {
        dueLikely(Run.of("tw100;tr000;").row("999"), "2, 0, 0", 0, 1);
        dueLikely(Run.of("tw100;tr000;").row("099"), "0, 2, 0", 0, 1);
        dueLikely(Run.of("tw100;tr000;").row("999"), "400, 0, 1", 0, 1);
        dueLikely(Run.of("tw100;tr000;").row("299"), "1, 0, 0", 0, 1);
        dueLikely(Run.of("tw100;tr000;").row("299"), "1, 1, 0", 0, 1);
    }

    @Says(promise = 27, words = {"(a fraction in least terms;"})
    static void ofAsManyYearsAsThereAre() {
        // All things are alike, so each is done in a quarter of the years.
        dueLikely(Run.of("tr000;tr000;tr000;tr000;").row(ALL_20), "0, 19, 3", 1, 4);
        dueLikely(Run.of("tw100;tw100;tw100;").row(ALL_20), "1, 0, 2", 1, 3);
        // No work beside a work: 17711 years less the one of rests alone; 6765 of them end with a work. Both by 55.
        dueLikely(Run.of("tw100;tr000;").row(ALL_20), "1, 19, 0", 123, 322);
    }

    @Says(promise = 27, words = {"how likely a told THING was DONE on a told DAY of it"})
    static void shortRowsLookedAtOneByOne() {
        String row = "90999";
        String land = "tw100;tr000;ts100;";
        for (int longest = 1; longest <= 5; longest++) {
            Run x = Run.of(land).row(row);
            long all = lookedAt(row, "yny", longest);
            for (int day = 0; day < row.length(); day++) {
                for (int thing = 0; thing < 3; thing++) {
                    boolean canBe = row.charAt(day) == '9' || row.charAt(day) == '0' + thing;
                    long such = canBe ? lookedAt(row.substring(0, day) + thing + row.substring(day + 1), "yny", longest) : 0;
                    long divisor = BigInteger.valueOf(such).gcd(BigInteger.valueOf(all)).longValue();
                    dueLikely(x, longest * longest + ", " + day + ", " + thing, such / divisor, all / divisor);
                }
            }
        }
    }

    // Judged.

    private static void dueJudged(String row, long verdict) {
        Run.of("tw100;tw100;y3;d1,1;").row(row).due("judge()", verdict);
    }

    @Says(promise = 28, words = {"JUDGED: the ROW against what is DONE: the first that is not so (9 always is);"})
    static void theFirstThatIsNotSo() {
        dueJudged("110", 0);
        dueJudged("101", 0);
        dueJudged("000", 1);
        dueJudged("001", 1);
        dueJudged("011", 2);
        dueJudged("018", 2);
        dueJudged("912", 2);
    }

    @Says(promise = 28, words = {"the first that is not so (9 always is);"})
    static void notKnownAlwaysIsSo() {
        dueJudged("999", -9);
        dueJudged("919", -9);
        dueJudged("990", -9);
        dueJudged("99", 2);
        dueJudged("9999", 3);
    }

    @Says(promise = 28, words = {"where it ends, if too short;"})
    static void aRowThatIsTooShort() {
        dueJudged("", 0);
        dueJudged("0", 1);
        dueJudged("01", 2);
        dueJudged("1", 0);
        dueJudged("00", 1);
        Run.of("y20;").row("0".repeat(19)).due("judge()", 19);
        new Run().due("judge()", 0);
    }

    @Says(promise = 28, words = {"how many DAYS, if too long;"})
    static void aRowThatIsTooLong() {
        dueJudged("0100", 3);
        dueJudged("0101".repeat(5), 3);
        dueJudged("0200", 1);
        Run.of("y1;").row("00").due("judge()", 1);
        Run.of("y19;").row("0".repeat(20)).due("judge()", 19);
    }

    @Says(promise = 28, words = {"else -9. SEEDS"})
    static void aRowThatIsSo() {
        dueJudged("010", -9);
        Run.of("y1;").row("0").due("judge()", -9);
        Run.of("y20;").row("0".repeat(20)).due("judge()", -9);
        new Run().row("0000000000").due("judge()", -9);
    }

    // Seeds.

    private static final BigInteger INTS = BigInteger.ONE.shiftLeft(32);

    /** The seed behind one draw, reckoned without an int's own wrap-around. */
    private static int seedBehind(int z) {
        return BigInteger.valueOf(z).multiply(BigInteger.valueOf(1664525)).add(BigInteger.valueOf(1013904223)).mod(INTS).intValue();
    }

    private static int drawBelow(int m, int seed) {
        long withoutSign = seed >= 0 ? seed : seed + (1L << 31);
        return (int) (withoutSign / 256 % m);
    }

    /** The sum of the draws, one a year; each thing is worth its number, and a year of one day pays 1. */
    private static void dueDraws(int m, int z) {
        Run x = Run.of("tw000;tw100;tw200;tw300;".substring(0, 6 * m) + "y1;c0;l5;");
        int seed = z;
        long sum = 0;
        for (int n = 1; n <= 20; n++) {
            seed = seedBehind(seed);
            sum += drawBelow(m, seed) - 1;
            x.due("seeds(" + n + ", " + z + ")", sum);
        }
    }

    @Says(promise = 29, words = {"SEEDS with a seed z: n years (1 .. 20), DONE on each DAY a DRAW below THINGS"})
    static void from1To20Years() {
        dueDraws(1, 0);
        dueDraws(2, 0);
        dueDraws(3, 1);
        dueDraws(4, -5);
    }

    @Says(promise = 29, words = {"A DRAW below m: z becomes z times 1664525 and 1013904223 (an int);"})
    static void seedsThatWrapAround() {
        int[] seeds = {0, 1, -1, 7, Run.GREATEST, Run.LEAST, Run.GREATEST - 1, Run.LEAST + 1, 1291, -1291, 1 << 30, -(1 << 30), 1013904223};
        for (int seed : seeds) {
            dueDraws(2, seed);
            dueDraws(3, seed);
            dueDraws(4, seed);
        }
    }

    @Says(promise = 29, words = {"(z without its sign's bit by 256, cut) modulo m."})
    static void aSeedBelow0DrawsWithoutItsSign() {
        // 1664525 times 683 and 1013904223 is 2147483648 and 3291150; that by 256, cut, is 12856.
        Run.of("tw000;tw100;tw200;y1;l5;").due("seeds(1, 683)", 12856 % 3 - 1);
        Run.of("tw000;tw100;tw200;tw300;y1;l5;").due("seeds(1, 683)", 12856 % 4 - 1);
    }

    @Says(promise = 29, words = {"(z without its sign's bit by 256, cut) modulo m."})
    static void aSeedFrom0DrawsAsItIs() {
        // 1664525 times 2 and 1013904223 is 1017233273; that by 256, cut, is 3973567.
        Run.of("tw000;tw100;tw200;y1;l5;").due("seeds(1, 2)", 3973567 % 3 - 1);
        Run.of("tw000;tw100;tw200;tw300;y1;l5;").due("seeds(1, 2)", 3973567 % 4 - 1);
    }

    @Says(promise = 29, words = {"(BOUND ones so, without a DRAW):"})
    static void aBoundDayTakesNoDraw() {
        // The other day has the draws that a year of one day would have.
        for (int bound = 0; bound < 2; bound++) {
            Run x = Run.of("tw000;tw900;y2;c0;l5;b" + bound + ",1;");
            int seed = 12345;
            long sum = 0;
            for (int n = 1; n <= 20; n++) {
                seed = seedBehind(seed);
                sum += 9 + 9 * drawBelow(2, seed) - 2;
                x.due("seeds(" + n + ", 12345)", sum);
            }
        }
        Run.of("tw200;tw300;y2;l5;b0,0;b1,1;").due("seeds(20, 1)", 20 * (5 - 1 - 2)).due("seeds(20, -99)", 20 * (5 - 1 - 2));
    }

    @Says(promise = 29, words = {"what is LEFT in all of them together."})
    static void whatIsLeftByTheLaw() {
        // From seed 0 below 2 the draws are 1 1 0 1, which earn 10 less 2 for changes.
        long[] pays = {4, 1, 6, 18, 1, 4};
        for (int law = 0; law <= 5; law++) {
            Run.of("tw100;tw300;y4;c1;l" + law + ";").due("seeds(1, 0)", 8 - pays[law]);
        }
    }

    @Says(promise = 29, words = {"what is LEFT in all of them together."})
    static void theSeedGoesOnFromYearToYear() {
        // From seed 0 below 2 the draws are 1 1 0 1 1 0 0 1; a year that began anew would be 1 1 0 again.
        Run x = Run.of("tr000;tw900;y3;c0;l5;").due("seeds(1, 0)", 18 - 3).due("seeds(2, 0)", 36 - 6);
        x.tell("y2;").due("seeds(1, 0)", 18 - 2).due("seeds(2, 0)", 18 + 9 - 4).due("seeds(3, 0)", 18 + 9 + 9 - 6).due("seeds(4, 0)", 45 - 8);
    }

    @Says(promise = 29, words = {"DONE on each DAY a DRAW below THINGS"})
    static void onlyThingsThatThereAreNowAreDrawn() {
        Run x = Run.of("tw500;y2;c0;l5;").due("image()", 2).tell("tw900;b0,1;b1,1;").due("seeds(1, 0)", 18 - 2).due("left()", 18 - 2);
        x.due("on()", 2).due("seeds(1, 0)", 10 - 2).due("seeds(20, 0)", 200 - 40);
    }

    @Says(promise = 29, words = {"SEEDS with a seed z: n years (1 .. 20)"})
    static void seedsLeaveAllAsItWas() {
        Run x = Run.of("tw100;tr000;y5;d3,1;b2,1;");
        String before = x.state();
        x.due("seeds(20, 99)", x.ask("seeds(20, 99)"));
        Check.due("state", x.state(), before);
    }
}
