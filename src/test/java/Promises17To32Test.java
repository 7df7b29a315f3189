/** The promises' own sentences and refusals, 17 to 32. */
public final class Promises17To32Test {
    private static final String TWO = "tw100;tr000;";

    public static void main(String[] args) throws Exception {
        Check.run(Promises17To32Test.class);
    }

    @Says(promise = 17, words = {"ALLOW; -999."})
    static void allow() {
        Run.of("tw900;tr000;y3;").due("allow(1)", 16).due("allow(2)", 17).due("allow(3)", 27);
        Run.of("tw100;y2;").due("allow(1)", -999);
    }

    @Says(promise = 17, words = {"Refused as told: -4;"})
    static void allowBelow1() {
        Run.of(TWO).due("allow(0)", Run.AMOUNT + 4).due("allow(-1)", Run.AMOUNT + 4).due("count(14)", 2).due("allow(1)", 0);
        new Run().due("allow(0)", Run.AMOUNT + 4);
    }

    @Says(promise = 17, words = {"-6 20;"})
    static void allowAbove20() {
        Run.of(TWO).due("allow(20)", 10).due("allow(21)", Run.AMOUNT + 6).due("count(16)", 1);
        new Run().due("allow(21)", Run.AMOUNT + 6);
    }

    @Says(promise = 17, words = {"-3."})
    static void allowWithoutThings() {
        new Run().due("allow(1)", Run.AMOUNT + 3).due("allow(20)", Run.AMOUNT + 3).due("count(13)", 2);
    }

    @Says(promise = 18, words = {"BEST: how much (what 0; -999), l (1; -9)."})
    static void howMuchAndL() {
        // -999 and -9 can't come about: a limit of as many days always leaves a year.
        Run.of("tw900;tr000;y3;").due("best(0)", 18).due("best(1)", 3);
        Run.of("tw100;y2;").due("best(0)", 2 - 4).due("best(1)", 2);
    }

    @Says(promise = 18, words = {"Refused as told: -2;"})
    static void noSuchWhatOfBest() {
        Run.of(TWO).due("best(2)", Run.AMOUNT + 2).due("best(-1)", Run.AMOUNT + 2).due("count(12)", 2);
        new Run().due("best(2)", Run.AMOUNT + 2);
    }

    @Says(promise = 18, words = {"-3."})
    static void bestWithoutThings() {
        new Run().due("best(0)", Run.AMOUNT + 3).due("best(1)", Run.AMOUNT + 3).due("count(13)", 2);
    }

    @Says(promise = 19, words = {"The THING of a DAY in it; -9."})
    static void theThingOfADay() {
        // -9 can't come about, as for best().
        Run.of("tw900;tr000;y3;b1,1;").dueEach("bestDay", 0, 1, 0).due("done(0)", 0);
        Run.of("tw100;y2;").dueEach("bestDay", 0, 0);
    }

    @Says(promise = 19, words = {"-1;"})
    static void bestDayOfNoSuchDay() {
        Run.of("tw100;y3;").due("bestDay(2)", 0).due("bestDay(3)", -1).due("bestDay(-1)", -1).due("count(11)", 2);
        new Run().due("bestDay(10)", -1);
    }

    @Says(promise = 19, words = {"-3."})
    static void bestDayWithoutThings() {
        new Run().due("bestDay(0)", -3).due("bestDay(9)", -3).due("count(13)", 2);
    }

    @Says(promise = 20, words = {"BREAK; -9."})
    static void breaking() {
        Run.of("tw100;tr000;y3;").due("breaking()", 11);
        Run.of("tw900;tr000;y1;").due("breaking()", -9);
    }

    @Says(promise = 20, words = {"-3."})
    static void breakingWithoutThings() {
        new Run().due("breaking()", -3).due("count(13)", 1);
    }

    @Says(promise = 21, words = {"MORE."})
    static void more() {
        Run.of("tw100;tr000;y20;").dueEach("more", -40, -1);
    }

    @Says(promise = 21, words = {"Refused as told: -1."})
    static void moreOfNoSuchThing() {
        Run.of(TWO).due("more(2)", Run.AMOUNT + 1).due("more(-1)", Run.AMOUNT + 1).due("count(11)", 2).due("more(1)", -1);
        new Run().due("more(0)", Run.AMOUNT + 1).due("count(13)", 0);
    }

    @Says(promise = 22, words = {"BROUGHT."})
    static void brought() {
        Run.of("tw521;tf700;y6;c9;").year("000011").dueEach("brought", 22, 7);
    }

    @Says(promise = 22, words = {"Refused as told: -1."})
    static void broughtByNoSuchThing() {
        Run.of(TWO).due("brought(2)", Run.AMOUNT + 1).due("brought(-1)", Run.AMOUNT + 1).due("count(11)", 2).due("brought(1)", 0);
        new Run().due("brought(0)", Run.AMOUNT + 1).due("count(13)", 0);
    }

    @Says(promise = 23, words = {"BY LAW."})
    static void byLaw() {
        Run.of("tw100;l3;").dueEach("byLaw", 100, 0, 100, 0, 100, 10).due("count(3)", 3);
    }

    @Says(promise = 23, words = {"-2;"})
    static void byNoSuchLaw() {
        Run.of("tw100;").due("byLaw(6)", -2).due("byLaw(-1)", -2).due("count(12)", 2);
        new Run().due("byLaw(6)", -2);
    }

    @Says(promise = 23, words = {"-3."})
    static void byLawWithoutThings() {
        new Run().due("byLaw(0)", -3).due("byLaw(5)", -3).due("count(13)", 2);
    }

    @Says(promise = 24, words = {"YEARS."})
    static void years() {
        new Run().due("years(3, 2, 1)", 2).due("years(3, 2, 2)", 4).due("years(3, 2, 3)", 2).due("years(3, 2, 4)", 0);
    }

    @Says(promise = 24, words = {"Refused as told: -4;"})
    static void yearsBelow1() {
        Run x = new Run().due("years(0, 1, 1)", Run.LONG + 4).due("years(1, 0, 1)", Run.LONG + 4).due("years(1, 1, 0)", Run.LONG + 4);
        x.due("years(-1, -1, -1)", Run.LONG + 4).due("count(14)", 4);
    }

    @Says(promise = 24, words = {"-6 (20; 4; 20)."})
    static void yearsAbove() {
        Run x = new Run().due("years(20, 4, 20)", 4);
        x.due("years(21, 1, 1)", Run.LONG + 6).due("years(1, 5, 1)", Run.LONG + 6).due("years(1, 1, 21)", Run.LONG + 6).due("count(16)", 3);
    }

    @Says(promise = 24, words = {"-4; -6 (20; 4; 20)."})
    static void yearsBelowOneAndAboveAnother() {
        Run x = new Run().due("years(21, 1, 0)", Run.LONG + 4).due("years(0, 5, 1)", Run.LONG + 4).due("years(1, 0, 21)", Run.LONG + 4);
        x.due("count(14)", 3).due("count(16)", 0);
    }

    @Says(promise = 25, words = {"A number more of the ROW (0 .. 9): how many."})
    static void row() {
        Run x = new Run();
        for (int i = 1; i <= 20; i++) {
            x.due("row(" + i % 10 + ")", i);
        }
        x.due("count(6)", 20);
    }

    @Says(promise = 25, words = {"-4;"})
    static void rowBelow0() {
        new Run().due("row(-1)", -4).due("count(6)", 0).due("count(14)", 1).due("row(0)", 1);
    }

    @Says(promise = 25, words = {"-6 (9;"})
    static void rowAbove9() {
        new Run().due("row(10)", -6).due("count(6)", 0).due("count(16)", 1).due("row(9)", 1);
    }

    @Says(promise = 25, words = {"20, too)."})
    static void a21stNumberOfTheRow() {
        Run x = new Run().row("9".repeat(19)).due("row(0)", 20).due("row(0)", -6).due("count(6)", 20).due("row(-1)", -4);
        x.due("count(16)", 1).due("judge()", 10).due("row(0)", 1);
    }

    @Says(promise = 26, words = {"FITTING (the ROW stays): how many."})
    static void theRowStaysBehindFitting() {
        Run x = Run.of(TWO).row("99").due("fitting(4)", 1).due("fitting(1)", 2).due("fitting(4)", 1).due("count(6)", 2);
        x.row("0").due("fitting(9)", 1).due("fitting(-1)", Run.LONG + 4).due("count(6)", 3).due("judge()", 3);
    }

    @Says(promise = 26, words = {"Refused as told: -4;"})
    static void fittingBelow0() {
        Run.of(TWO).row("9").due("fitting(-1)", Run.LONG + 4).due("count(14)", 1).due("fitting(0)", 1);
        new Run().due("fitting(-1)", Run.LONG + 4);
    }

    @Says(promise = 26, words = {"-6 400;"})
    static void fittingAbove400() {
        Run.of(TWO).row("9").due("fitting(401)", Run.LONG + 6).due("count(16)", 1).due("fitting(400)", 0);
        new Run().due("fitting(401)", Run.LONG + 6);
    }

    @Says(promise = 26, words = {"-3 (the ROW has none, too)."})
    static void fittingWithoutThingsOrRow() {
        new Run().due("fitting(1)", Run.LONG + 3).row("9").due("fitting(1)", Run.LONG + 3).due("count(13)", 2);
        Run.of(TWO).due("fitting(1)", Run.LONG + 3).row("9").due("fitting(1)", 1).due("judge()", 1).due("fitting(1)", Run.LONG + 3);
    }

    @Says(promise = 27, words = {"How likely, part 0 above, 1 below the line"})
    static void partsOfTheLine() {
        Run.of(TWO).row("999").due("likely(1, 1, 1, 0)", 3).due("likely(1, 1, 1, 1)", 4);
    }

    @Says(promise = 27, words = {"(the ROW stays)."})
    static void theRowStaysBehindLikely() {
        Run x = Run.of(TWO).row("99").due("likely(4, 0, 0, 0)", 1).due("likely(4, 0, 1, 0)", 0).due("likely(1, 0, 1, 1)", 2);
        x.due("fitting(1)", 2).due("fitting(4)", 1).due("count(6)", 2).due("judge()", 2);
    }

    @Says(promise = 27, words = {"Refused as told: -1 (no such place of the ROW, THING);"})
    static void noSuchPlaceOrThing() {
        Run x = Run.of(TWO + "y20;").row("999").due("likely(1, 3, 0, 0)", Run.LONG + 1).due("likely(1, -1, 0, 0)", Run.LONG + 1);
        x.due("likely(1, 0, 2, 0)", Run.LONG + 1).due("likely(1, 0, -1, 0)", Run.LONG + 1).due("likely(1, 2, 1, 0)", 1).due("count(11)", 4);
        x.due("judge()", 3).due("likely(1, 0, 0, 0)", Run.LONG + 1);
        Run.of(TWO + "y1;").row("999").due("likely(9, 2, 0, 0)", 1);
        new Run().row("9").due("likely(1, 0, 0, 0)", Run.LONG + 1).due("count(13)", 0);
    }

    @Says(promise = 27, words = {"-4;"})
    static void likelyBelow0() {
        Run x = Run.of(TWO).row("9").due("likely(-1, 0, 0, 0)", Run.LONG + 4).due("likely(-1, 0, 0, 2)", Run.LONG + 4);
        x.due("likely(-1, 1, 0, 0)", Run.LONG + 1).due("count(14)", 2).due("likely(0, 0, 1, 0)", 1);
    }

    @Says(promise = 27, words = {"-6 400;"})
    static void likelyAbove400() {
        Run x = Run.of(TWO).row("9").due("likely(401, 0, 0, 0)", Run.LONG + 6).due("likely(401, 0, 0, -1)", Run.LONG + 6);
        x.due("likely(401, 0, 2, 0)", Run.LONG + 1).due("count(16)", 2).due("likely(400, 0, 0, 1)", 1);
    }

    @Says(promise = 27, words = {"-2."})
    static void noSuchPart() {
        Run x = Run.of(TWO).row("9").due("likely(1, 0, 0, 2)", Run.LONG + 2).due("likely(1, 0, 0, -1)", Run.LONG + 2);
        x.due("likely(2, 0, 0, 2)", Run.LONG + 2).due("count(12)", 3);
    }

    @Says(promise = 28, words = {"JUDGED; -9"})
    static void judge() {
        Run.of(TWO + "y3;").row("000").due("judge()", -9);
        Run.of(TWO + "y3;").row("010").due("judge()", 1);
    }

    @Says(promise = 28, words = {"(whichever it answers, the ROW has none then)."})
    static void theRowHasNoneThen() {
        for (String row : new String[] {"", "0", "1", "000", "999", "010", "0000", "9".repeat(20)}) {
            Run x = Run.of(TWO + "y3;").row(row);
            x.ask("judge()");
            x.due("count(6)", 0).due("judge()", 0).due("row(0)", 1).due("judge()", 1);
        }
    }

    @Says(promise = 29, words = {"SEEDS."})
    static void seeds() {
        // From seed 0 below 2 the draws are 1 1 0.
        Run.of("tw000;tw900;y1;").due("seeds(1, 0)", 9 - 1).due("seeds(2, 0)", 18 - 2).due("seeds(3, 0)", 18 - 3);
    }

    @Says(promise = 29, words = {"Refused as told: -4;"})
    static void seedsBelow1() {
        Run.of("tw100;").due("seeds(0, 0)", Run.AMOUNT + 4).due("seeds(-1, 0)", Run.AMOUNT + 4).due("count(14)", 2).due("seeds(1, 0)", -90);
        new Run().due("seeds(0, 0)", Run.AMOUNT + 4);
    }

    @Says(promise = 29, words = {"-6 20;"})
    static void seedsAbove20() {
        Run.of("tw100;").due("seeds(20, 0)", 20 * -90).due("seeds(21, 0)", Run.AMOUNT + 6).due("count(16)", 1);
        new Run().due("seeds(21, 0)", Run.AMOUNT + 6);
    }

    @Says(promise = 29, words = {"-3."})
    static void seedsWithoutThings() {
        new Run().due("seeds(1, 0)", Run.AMOUNT + 3).due("seeds(20, -1)", Run.AMOUNT + 3).due("count(13)", 2);
    }

    @Says(promise = 30, words = {"THE IMAGE is taken: how many DAYS."})
    static void anImageOfHowManyDays() {
        for (int days = 1; days <= 20; days++) {
            Run.of("y" + days + ";").due("image()", days);
        }
        new Run().due("image()", 10);
    }

    @Says(promise = 31, words = {"ON from it: how many DAYS."})
    static void onWithHowManyDays() {
        Run.of("y1;").due("image()", 1).tell("y20;").due("on()", 1).due("count(1)", 1);
        Run.of("y20;").due("image()", 20).tell("y1;").due("on()", 20).due("count(1)", 20);
    }

    @Says(promise = 31, words = {"-3 there is none."})
    static void onWithoutAnImage() {
        new Run().due("on()", -3).due("count(13)", 1).due("image()", 10).due("on()", 10).due("count(13)", 1);
    }

    @Says(promise = 32, words = {"0 THINGS, 1 DAYS, 2 CHANGE, 3 LAW, 4 changes, 5 BOUND DAYS, 6 in the ROW, 7 letters,"})
    static void whatIsCounted() {
        Run x = Run.of(TWO + "y4;c3;l2;b3,1;b2,0;").due("does(0, 1)", 0).row("9").letters("yy").dueEach("count", 2, 4, 3, 2, 2, 2, 1, 2);
        x.due("does(1, 1)", 0).due("count(4)", 2).due("does(2, 0)", 0).due("bind(2, -1)", 0).dueEach("count", 2, 4, 3, 2, 2, 1, 1, 2);
    }

    @Says(promise = 32, words = {"0 THINGS, 1 DAYS, 2 CHANGE, 3 LAW, 4 changes, 5 BOUND DAYS, 6 in the ROW, 7 letters,"})
    static void theLeastAndTheMostThatIsCounted() {
        new Run().dueEach("count", 0, 10, 1, 0, 0, 0, 0, 0);
        Run x = Run.of("tw100;tw100;tw100;tw100;y20;c9;l5;").row("9".repeat(20)).letters("c".repeat(80));
        for (int day = 0; day < 20; day++) {
            x.ask("bind(" + day + ", " + day % 4 + ")");
        }
        x.dueEach("count", 4, 20, 9, 5, 19, 20, 20, 80);
    }

    @Says(promise = 32, words = {"11 .. 16 REFUSALS -1 .. -6."})
    static void refusalsByNumber() {
        Run x = new Run();
        String[] calls = {"done(-1)", "law(6)", "pays()", "change(-1)", "change(10)"};
        int[] whats = {11, 12, 13, 14, 16};
        for (int i = 0; i < calls.length; i++) {
            for (int times = 0; times <= i; times++) {
                x.due("count(" + whats[i] + ")", times);
                x.ask(calls[i]);
            }
        }
        x.dueEach("count", 0, 10, 1, 0, 0, 0, 0, 0, -9, -9, -9, 1, 2, 3, 4, 0, 5);
    }

    @Says(promise = 32, words = {"-9 for another what."})
    static void anotherWhat() {
        Run x = new Run();
        for (int what : new int[] {-1, 8, 9, 10, 17, -11, -16, Run.LEAST, Run.GREATEST}) {
            x.due("count(" + what + ")", -9);
        }
        Check.due("refusals", x.refusals(), "0 0 0 0 0 0");
    }
}
