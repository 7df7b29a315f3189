/** "What it is": one run through all of it, and an object's 512 calls. */
public final class UseTest {
    private static final String DEAR = "tw331;tf900;ts212;td103;y20;c2;";

    public static void main(String[] args) throws Exception {
        Check.run(UseTest.class);
    }

    @Says(promise = 1, words = {
        "Taxed by one's longest stretch of the same: a year of days on each of which one thing is done, things of kinds"
        + " told in letters that are worth more by habit and less by weariness, changes that cost, days that are bound;"
        + " stretches, the longest, what one pays by laws of kinds, what is left, the best year by the longest stretch"
        + " allowed, day by day, the best day to break, a day more in December, what each thing brings, how many years"
        + " have such a longest stretch, years that fit what was paid and what was seen, how likely a thing was done on"
        + " a day, other laws, years by seeds, told years looked at, an image."})
    static void aRunThroughAllOfIt() {
        Run x = Run.of("tw200;tr000;y3;c1;");
        x.due("stretches()", 1).due("longest()", 3).due("earned()", 6).due("pays()", 9).due("left()", -3);
        x.due("best(0)", 1).due("best(1)", 1).dueEach("bestDay", 0, 1, 0);
        x.due("breaking()", 11).dueEach("more", -5, -1).dueEach("brought", 6, 0);
        x.due("years(3, 2, 1)", 2).row("999").due("fitting(1)", 4);
        x.due("likely(1, 0, 0, 0)", 1).due("likely(1, 0, 0, 1)", 2);
        x.dueEach("byLaw", 9, 0, 9, 0, 9, 3).due("seeds(1, 0)", 0).due("judge()", -9);
        x.due("image()", 3).due("on()", 3);
    }

    @Says(promise = 32, words = {
        "An object is used for at most 512 calls after it has been made; what later calls answer is free."})
    static void the512thCallIsAnswered() {
        Run x = new Run();
        for (int i = 1; i < 512; i++) {
            x.ask("done(-1)");
        }
        x.due("count(11)", 511);
    }

    @Says(promise = 8, words = {"An object is used for at most 512 calls"})
    static void a512thCallStillTells() {
        Run x = new Run().due("change(0)", 1);
        for (int i = 1; i < 512; i++) {
            x.due("change(" + i % 10 + ")", (i - 1) % 10);
        }
    }

    @Says(promise = 3, words = {"An object is used for at most 512 calls"})
    static void sixFullLandsWithinTheCalls() {
        Run x = new Run();
        for (int i = 0; i < 6; i++) {
            x.land("y20;".repeat(20), 20);
        }
        x.due("count(7)", 0).due("count(16)", 0);
    }

    @Says(promise = 17, words = {"An object is used for at most 512 calls"})
    static void theDearestCallsAnswerTheSameToTheLast() {
        String[] dear = {"allow(20)", "best(0)", "best(1)", "bestDay(19)", "breaking()", "more(3)", "years(20, 4, 10)",
            "fitting(25)", "likely(25, 19, 3, 1)", "seeds(20, 12345)", "image()", "on()"};
        for (String call : dear) {
            Run x = Run.of(DEAR).row("99999999999999999999");
            x.ask("image()");
            long first = x.ask(call);
            while (x.calls() < Run.MOST_CALLS) {
                x.due(call, first);
            }
        }
    }

    @Says(promise = 1, words = {"An object is used for at most 512 calls"})
    static void aNewObjectHasNothingOfAnother() {
        Run used = Run.of(DEAR + "l5;b3,2;").row("12").letters("abc");
        used.ask("image()");
        used.ask("done(-1)");
        Run x = new Run().dueEach("count", 0, 10, 1, 0, 0, 0, 0, 0).due("on()", -3);
        Check.due("refusals", x.refusals(), "0 0 1 0 0 0");
    }

    @Says(promise = 1, words = {"An object is used for at most 512 calls"})
    static void twoObjectsShareNothing() {
        Run one = Run.of("tw100;y3;c4;l1;").row("01");
        Run other = Run.of("ts200;tr300;y5;c7;l2;").row("999");
        one.due("image()", 3).due("done(-1)", -1);
        other.due("image()", 5).due("law(6)", -2);
        one.tell("tw900;y9;").due("on()", 3).due("count(2)", 4).due("thing(0, 1)", 1).due("count(6)", 2);
        other.tell("tw900;y9;").due("on()", 5).due("count(2)", 7).due("thing(0, 1)", 2).due("count(6)", 3);
        Check.due("refusals of one", one.refusals(), "1 0 0 0 0 0");
        Check.due("refusals of the other", other.refusals(), "0 1 0 0 0 0");
    }

    /** Calls that ask and tell nothing. */
    private static final String[] QUESTIONS = {
        "thing(3, 0)", "done(19)", "longest()", "stretches()", "stretch(4, 0)", "stretch(4, 1)", "worth(4)", "earned()", "pays()",
        "left()", "allow(1)", "allow(7)", "allow(20)", "best(0)", "best(1)", "bestDay(0)", "bestDay(19)", "breaking()", "more(0)",
        "more(3)", "brought(1)", "byLaw(0)", "byLaw(1)", "byLaw(2)", "byLaw(3)", "byLaw(4)", "byLaw(5)", "years(20, 4, 3)",
        "years(3, 2, 1)", "years(1, 1, 1)", "fitting(0)", "fitting(9)", "fitting(400)", "likely(9, 1, 0, 0)", "likely(9, 1, 0, 1)",
        "likely(4, 2, 3, 0)", "seeds(1, 5)", "seeds(20, -5)", "image()", "count(4)", "count(5)"};

    private static Run beforeQuestions() {
        return Run.of(DEAR + "l4;b3,2;d5,1;").row("9299").letters("c");
    }

    @Says(promise = 32, words = {"told years looked at, an image."})
    static void aQuestionChangesNoAnswerOfAnother() {
        for (String first : QUESTIONS) {
            Run x = beforeQuestions();
            x.ask(first);
            for (String question : QUESTIONS) {
                x.due(question, beforeQuestions().ask(question));
            }
        }
    }
}
