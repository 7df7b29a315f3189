/** The promises' own sentences and refusals, 1 to 16; those of letter() and land() are in TermsLandTest. */
public final class Promises1To16Test {
    public static void main(String[] args) throws Exception {
        Check.run(Promises1To16Test.class);
    }

    @Says(promise = 1, words = {"Ten DAYS, no THINGS."})
    static void aNewObject() {
        Run x = new Run().dueEach("count", 0, 10, 1, 0, 0, 0, 0, 0).due("thing(0, 0)", -1).due("done(9)", 0).due("on()", -3);
        Check.due("refusals", x.refusals(), "1 0 1 0 0 0");
        Check.due("refusals", new Run().refusals(), "0 0 0 0 0 0");
    }

    @Says(promise = 4, words = {"Of a THING: 0 KIND (0 w, 1 r, 2 s, 3 i, 4 d, 5 f), 1 WORTH, 2 HABIT, 3 WEARY."})
    static void eachKindAndItsNumbers() {
        String letters = "wrsidf";
        for (int kind = 0; kind < 6; kind++) {
            Run x = Run.of("tw010;t" + letters.charAt(kind) + "923;");
            x.due("thing(1, 0)", kind).due("thing(1, 1)", 9).due("thing(1, 2)", 2).due("thing(1, 3)", 3);
            x.due("thing(0, 0)", 0).due("thing(0, 1)", 0).due("thing(0, 2)", 1).due("thing(0, 3)", 0);
        }
    }

    @Says(promise = 4, words = {"-1;"})
    static void noSuchThing() {
        for (int things = 0; things <= 4; things++) {
            Run x = Run.of("tw100;".repeat(things));
            x.due("thing(-1, 0)", -1).due("thing(" + things + ", 0)", -1).due("thing(4, 0)", -1).due("count(11)", 3);
            if (things > 0) {
                x.due("thing(" + (things - 1) + ", 1)", 1);
            }
        }
    }

    @Says(promise = 4, words = {"-2."})
    static void noSuchWhatOfAThing() {
        Run x = Run.of("tw100;").due("thing(0, -1)", -2).due("thing(0, 4)", -2).due("count(12)", 2);
        x.due("thing(1, 4)", -1).due("thing(-1, -1)", -1).due("count(12)", 2);
    }

    @Says(promise = 5, words = {"A THING is DONE on a DAY: which was."})
    static void whichWasDone() {
        Run x = Run.of("tw100;tw100;tw100;tw100;y20;").due("does(0, 3)", 0).due("does(0, 1)", 3).due("does(0, 1)", 1).due("done(0)", 1);
        x.due("does(19, 3)", 0).due("done(19)", 3).due("done(18)", 0).due("done(1)", 0).due("count(4)", 2);
    }

    @Says(promise = 5, words = {"-1 either;"})
    static void doesOfNoSuchDayOrThing() {
        Run x = Run.of("tw100;tw100;y3;").due("does(3, 0)", -1).due("does(-1, 0)", -1).due("does(0, 2)", -1).due("does(0, -1)", -1);
        x.due("does(3, 2)", -1).due("count(11)", 5).dueEach("done", 0, 0, 0);
        new Run().due("does(0, 0)", -1);
    }

    @Says(promise = 5, words = {"-3 the DAY is BOUND to another one."})
    static void doesOnABoundDay() {
        Run x = Run.of("tw100;tw100;b3,1;").due("does(3, 0)", -3).due("done(3)", 1).due("does(3, 1)", 1).due("count(13)", 1);
        x.due("bind(3, 0)", 1).due("does(3, 1)", -3).due("does(3, 0)", 0).due("does(3, 2)", -1).due("does(2, 1)", 0);
        x.due("bind(3, -1)", 0).due("does(3, 1)", 0).due("count(13)", 2).due("count(11)", 1);
    }

    @Says(promise = 6, words = {"A DAY is BOUND to a THING, which is DONE then"})
    static void boundAndDone() {
        Run x = Run.of("tw100;tw100;").due("bind(3, 1)", -9).due("done(3)", 1).due("count(5)", 1).due("does(3, 0)", -3);
        x.due("bind(9, 0)", -9).due("done(9)", 0).due("count(5)", 2).due("bind(0, 1)", -9).due("done(0)", 1).due("count(5)", 3);
    }

    @Says(promise = 6, words = {"(-1: not BOUND):"})
    static void notBoundAnyMore() {
        Run x = Run.of("tw100;tw100;b3,1;").due("bind(3, -1)", 1).due("count(5)", 0).due("done(3)", 1).due("does(3, 0)", 1);
        x.due("bind(3, -1)", -9).due("done(3)", 0);
        new Run().due("bind(0, -1)", -9).due("bind(9, -1)", -9).due("count(11)", 0);
    }

    @Says(promise = 6, words = {"to which it was (-9 none)."})
    static void toWhichItWasBound() {
        Run x = Run.of("tw100;tw100;tw100;tw100;").due("bind(0, 3)", -9).due("bind(0, 0)", 3).due("bind(0, 2)", 0).due("bind(0, 2)", 2);
        x.due("bind(0, -1)", 2).due("bind(0, -1)", -9).due("bind(0, 1)", -9).due("count(5)", 1);
    }

    @Says(promise = 6, words = {"-1 either."})
    static void bindOfNoSuchDayOrThing() {
        Run x = Run.of("tw100;tw100;y3;").due("bind(3, 0)", -1).due("bind(-1, 0)", -1).due("bind(3, -1)", -1).due("bind(-1, -1)", -1);
        x.due("bind(0, 2)", -1).due("bind(0, -2)", -1).due("bind(0, -9)", -1).due("bind(0, 9)", -1).due("count(11)", 8);
        x.due("count(5)", 0).dueEach("done", 0, 0, 0);
        new Run().due("bind(0, 0)", -1);
    }

    @Says(promise = 7, words = {"What is DONE on a DAY."})
    static void whatIsDone() {
        Run.of("tw100;tw100;tw100;y4;d2,2;b3,1;").dueEach("done", 0, 0, 2, 1);
    }

    @Says(promise = 7, words = {"-1."})
    static void doneOfNoSuchDay() {
        Run.of("y4;").due("done(3)", 0).due("done(4)", -1).due("done(-1)", -1).due("count(11)", 2);
        Run.of("y20;").due("done(19)", 0).due("done(20)", -1);
    }

    @Says(promise = 8, words = {"CHANGE: what it was."})
    static void whatChangeWas() {
        new Run().due("change(0)", 1).due("change(9)", 0).due("change(4)", 9).due("change(4)", 4).due("count(2)", 4);
    }

    @Says(promise = 8, words = {"-4;"})
    static void changeBelow0() {
        new Run().due("change(-1)", -4).due("count(2)", 1).due("count(14)", 1).due("change(0)", 1);
    }

    @Says(promise = 8, words = {"-6 9."})
    static void changeAbove9() {
        new Run().due("change(9)", 1).due("change(10)", -6).due("count(2)", 9).due("count(16)", 1);
    }

    @Says(promise = 9, words = {"LAW: what it was."})
    static void whatLawWas() {
        new Run().due("law(5)", 0).due("law(1)", 5).due("law(2)", 1).due("law(3)", 2).due("law(4)", 3).due("law(0)", 4).due("law(0)", 0);
    }

    @Says(promise = 9, words = {"-2."})
    static void noSuchLaw() {
        new Run().due("law(5)", 0).due("law(6)", -2).due("law(-1)", -2).due("count(3)", 5).due("count(12)", 2);
    }

    @Says(promise = 10, words = {"LONGEST; 0."})
    static void longestOr0() {
        Run x = Run.of("tw100;tr000;y5;").due("longest()", 5).year("11111").due("longest()", 0).year("10101").due("longest()", 1);
        x.year("10001").due("longest()", 3);
        new Run().due("longest()", 0);
    }

    @Says(promise = 11, words = {"How many STRETCHES are counted."})
    static void howManyStretches() {
        Run x = Run.of("tw100;tr000;ts100;y5;").due("stretches()", 1).year("11111").due("stretches()", 0).year("01010").due("stretches()", 3);
        x.year("02020").due("stretches()", 5).year("00221").due("stretches()", 2);
        new Run().due("stretches()", 0);
    }

    @Says(promise = 12, words = {"STRETCH of a DAY: how long (what 0), which DAY of it (1)."})
    static void howLongAndWhichDay() {
        Run x = Run.of("tw100;tr000;y3;").year("011").due("stretch(0, 0)", 1).due("stretch(0, 1)", 1);
        x.due("stretch(1, 0)", 2).due("stretch(1, 1)", 1).due("stretch(2, 0)", 2).due("stretch(2, 1)", 2);
    }

    @Says(promise = 12, words = {"-1;"})
    static void stretchOfNoSuchDay() {
        Run.of("y3;").due("stretch(2, 0)", 3).due("stretch(3, 0)", -1).due("stretch(-1, 1)", -1).due("count(11)", 2);
    }

    @Says(promise = 12, words = {"-2."})
    static void noSuchWhatOfAStretch() {
        new Run().due("stretch(0, 2)", -2).due("stretch(0, -1)", -2).due("stretch(10, 2)", -1).due("count(12)", 2);
    }

    @Says(promise = 13, words = {"What a DAY is worth."})
    static void whatADayIsWorth() {
        Run.of("tw521;tf700;y6;").year("000011").dueEach("worth", 5, 5, 5, 7, 7, 0);
    }

    @Says(promise = 13, words = {"Refused as told: -1;"})
    static void worthOfNoSuchDay() {
        Run.of("tw100;y3;").due("worth(2)", 1).due("worth(3)", Run.AMOUNT + 1).due("worth(-1)", Run.AMOUNT + 1).due("count(11)", 2);
        new Run().due("worth(10)", Run.AMOUNT + 1);
    }

    @Says(promise = 13, words = {"-3."})
    static void worthWithoutThings() {
        new Run().due("worth(0)", Run.AMOUNT + 3).due("worth(9)", Run.AMOUNT + 3).due("count(13)", 2);
    }

    @Says(promise = 14, words = {"EARNED."})
    static void earned() {
        Run.of("tw521;tf700;y6;c3;").year("000011").due("earned()", 26);
    }

    @Says(promise = 14, words = {"Refused as told: -3."})
    static void earnedWithoutThings() {
        new Run().due("earned()", Run.AMOUNT + 3).due("count(13)", 1);
        Run.of("tw000;").due("earned()", 0);
    }

    @Says(promise = 15, words = {"What one pays."})
    static void whatOnePays() {
        Run x = Run.of("tw100;y7;").due("pays()", 49);
        x.ask("law(5)");
        x.due("pays()", 7);
    }

    @Says(promise = 15, words = {"-3."})
    static void paysWithoutThings() {
        Run.of("l5;").due("pays()", -3).due("count(13)", 1);
    }

    @Says(promise = 16, words = {"LEFT."})
    static void left() {
        Run.of("tw500;tr000;y5;c2;").year("00100").due("left()", 20 - 4 - 4);
    }

    @Says(promise = 16, words = {"Refused as told: -3."})
    static void leftWithoutThings() {
        new Run().due("left()", Run.AMOUNT + 3).due("count(13)", 1);
    }
}
