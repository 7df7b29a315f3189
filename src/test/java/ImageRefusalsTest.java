/** THE IMAGE and REFUSALS. */
public final class ImageRefusalsTest {
    /** What is told ahead of the calls that are refused: two things, five days, day 1 bound to thing 1. */
    private static final String LAND = "tw421;tr912;y5;c3;l2;b1,1;";

    public static void main(String[] args) throws Exception {
        Check.run(ImageRefusalsTest.class);
    }

    // The image.

    @Says(promise = 30, words = {"THE IMAGE: all that is told (not the ROW, letters, REFUSALS);"})
    static void allThatIsToldIsInIt() {
        Run x = Run.of("tw123;ts231;y5;c4;l2;d3,1;b1,1;").due("image()", 5);
        String then = x.state();
        x.tell("ti321;y7;c5;l3;d0,1;b2,1;").due("on()", 5);
        Check.due("state", x.state(), then);
    }

    @Says(promise = 30, words = {"THE IMAGE: all that is told (not the ROW, letters, REFUSALS);"})
    static void theRowIsNot() {
        Run x = new Run().row("99").due("image()", 10).due("row(0)", 3).due("on()", 10).due("count(6)", 3).due("judge()", 3);
        x.due("on()", 10).due("count(6)", 0).row("1").due("on()", 10).due("judge()", 0);
    }

    @Says(promise = 30, words = {"THE IMAGE: all that is told (not the ROW, letters, REFUSALS);"})
    static void lettersAreNot() {
        Run x = new Run().letters("c").due("image()", 10).letters("5").due("on()", 10).due("count(7)", 2);
        x.letters(";").due("land()", 1).due("count(2)", 5).due("on()", 10).due("count(2)", 1).due("count(7)", 0);
    }

    @Says(promise = 30, words = {"THE IMAGE: all that is told (not the ROW, letters, REFUSALS);"})
    static void refusalsAreNot() {
        Run x = new Run().due("done(-1)", -1).due("image()", 10).due("done(-1)", -1).due("law(6)", -2).due("on()", 10);
        Check.due("refusals", x.refusals(), "2 1 0 0 0 0");
    }

    @Says(promise = 31, words = {"ON from it all is as then."})
    static void thingsThatCameLaterAreNoMore() {
        Run x = Run.of("tw100;").due("image()", 10).tell("ti321;tf900;tr000;d5,3;b6,2;").due("on()", 10);
        x.due("count(0)", 1).due("thing(1, 0)", -1).due("done(5)", 0).due("count(5)", 0).due("does(6, 0)", 0);
        x.land("ts200;ts300;ts400;", 3).due("thing(1, 1)", 2);
    }

    @Says(promise = 31, words = {"ON from it all is as then."})
    static void withoutThingsAsThen() {
        Run x = new Run().due("image()", 10).tell("tw100;y3;").due("on()", 10).due("count(0)", 0).due("earned()", Run.AMOUNT + 3);
        x.due("longest()", 0);
    }

    @Says(promise = 31, words = {"ON from it all is as then."})
    static void moreDaysAndFewerDays() {
        Run x = Run.of("tw100;tw100;y20;d19,1;b18,1;").due("image()", 20).tell("y1;").due("on()", 20);
        x.due("done(19)", 1).due("bind(18, -1)", 1).due("bind(17, -1)", -9);
        x.tell("y1;").due("image()", 1).tell("y20;d1,1;b19,1;").due("on()", 1).due("done(1)", -1).due("count(5)", 0);
        x.due("longest()", 1).due("count(4)", 0).tell("y20;").due("done(1)", 0).due("done(19)", 0);
    }

    @Says(promise = 31, words = {"ON from it all is as then."})
    static void onceMore() {
        Run x = Run.of("tw100;tw100;c4;").due("image()", 10);
        for (int i = 0; i < 3; i++) {
            x.due("does(0, 1)", 0).due("bind(1, 1)", -9).due("change(9)", 4).due("law(5)", 0).due("on()", 10);
            x.due("done(0)", 0).due("count(5)", 0);
        }
    }

    @Says(promise = 30, words = {"THE IMAGE: all that is told"})
    static void takenAnew() {
        Run x = Run.of("tw100;y3;c7;").due("image()", 3).tell("y6;c8;").due("image()", 6).tell("y9;c9;").due("on()", 6).due("count(2)", 8);
    }

    // Refusals of arguments, each refused on a new object.

    /** Calls that are refused behind LAND, and the numbers. */
    private static final Object[][] REFUSED = {
        {"letter", -1, -4}, {"letter", 256, -6},
        {"thing", -1, 0, -1}, {"thing", 2, 0, -1}, {"thing", 0, -1, -2}, {"thing", 0, 4, -2}, {"thing", 2, 4, -1},
        {"does", -1, 0, -1}, {"does", 5, 0, -1}, {"does", 0, -1, -1}, {"does", 0, 2, -1}, {"does", 1, 0, -3}, {"does", 1, 2, -1},
        {"bind", -1, 0, -1}, {"bind", 5, 0, -1}, {"bind", 0, -2, -1}, {"bind", 0, 2, -1}, {"bind", -1, -1, -1}, {"bind", 5, -1, -1},
        {"done", -1, -1}, {"done", 5, -1}, {"change", -1, -4}, {"change", 10, -6}, {"law", -1, -2}, {"law", 6, -2},
        {"stretch", -1, 0, -1}, {"stretch", 5, 0, -1}, {"stretch", 0, -1, -2}, {"stretch", 0, 2, -2}, {"stretch", 5, 2, -1},
        {"worth", -1, -1}, {"worth", 5, -1}, {"allow", 0, -4}, {"allow", -1, -4}, {"allow", 21, -6},
        {"best", -1, -2}, {"best", 2, -2}, {"bestDay", -1, -1}, {"bestDay", 5, -1},
        {"more", -1, -1}, {"more", 2, -1}, {"brought", -1, -1}, {"brought", 2, -1}, {"byLaw", -1, -2}, {"byLaw", 6, -2},
        {"years", 0, 1, 1, -4}, {"years", 1, 0, 1, -4}, {"years", 1, 1, 0, -4}, {"years", 21, 1, 1, -6}, {"years", 1, 5, 1, -6},
        {"years", 1, 1, 21, -6}, {"years", 21, 0, 1, -4}, {"years", 0, 5, 1, -4}, {"years", 21, 5, 0, -4}, {"years", 1, 0, 21, -4},
        {"row", -1, -4}, {"row", 10, -6}, {"fitting", -1, -4}, {"fitting", 401, -6},
        {"likely", 1, -1, 0, 0, -1}, {"likely", 1, 2, 0, 0, -1}, {"likely", 1, 0, -1, 0, -1}, {"likely", 1, 0, 2, 0, -1},
        {"likely", -1, 0, 0, 0, -4}, {"likely", 401, 0, 0, 0, -6}, {"likely", 1, 0, 0, -1, -2}, {"likely", 1, 0, 0, 2, -2},
        {"likely", -1, 2, 0, 2, -1}, {"likely", 401, 0, 2, 2, -1}, {"likely", -1, 0, 0, 2, -4}, {"likely", 401, 0, 0, 2, -6},
        {"seeds", 0, 1, -4}, {"seeds", 21, 1, -6},
        {"thing", Run.LEAST, 0, -1}, {"thing", Run.GREATEST, 0, -1}, {"thing", 0, Run.LEAST, -2}, {"thing", 0, Run.GREATEST, -2},
        {"does", Run.GREATEST, 0, -1}, {"does", 0, Run.LEAST, -1}, {"bind", Run.LEAST, 0, -1}, {"bind", 0, Run.GREATEST, -1},
        {"bind", 0, Run.LEAST, -1}, {"done", Run.LEAST, -1}, {"done", Run.GREATEST, -1}, {"change", Run.LEAST, -4},
        {"change", Run.GREATEST, -6}, {"law", Run.LEAST, -2}, {"law", Run.GREATEST, -2}, {"stretch", Run.GREATEST, 0, -1},
        {"stretch", 0, Run.LEAST, -2}, {"worth", Run.LEAST, -1}, {"worth", Run.GREATEST, -1}, {"allow", Run.LEAST, -4},
        {"allow", Run.GREATEST, -6}, {"best", Run.LEAST, -2}, {"best", Run.GREATEST, -2}, {"bestDay", Run.LEAST, -1},
        {"bestDay", Run.GREATEST, -1}, {"more", Run.LEAST, -1}, {"more", Run.GREATEST, -1}, {"brought", Run.LEAST, -1},
        {"brought", Run.GREATEST, -1}, {"byLaw", Run.LEAST, -2}, {"byLaw", Run.GREATEST, -2}, {"years", Run.LEAST, 1, 1, -4},
        {"years", 1, Run.GREATEST, 1, -6}, {"years", Run.GREATEST, Run.GREATEST, Run.GREATEST, -6}, {"row", Run.LEAST, -4},
        {"row", Run.GREATEST, -6}, {"fitting", Run.LEAST, -4}, {"fitting", Run.GREATEST, -6}, {"likely", Run.LEAST, 0, 0, 0, -4},
        {"likely", Run.GREATEST, 0, 0, 0, -6}, {"likely", 0, Run.LEAST, 0, 0, -1}, {"likely", 0, 0, Run.GREATEST, 0, -1},
        {"likely", 0, 0, 0, Run.LEAST, -2}, {"seeds", Run.LEAST, 0, -4}, {"seeds", Run.GREATEST, 0, -6},
        {"letter", Run.LEAST, -4}, {"letter", Run.GREATEST, -6},
    };

    /** Calls that are refused as long as there are no things; the row is not empty. */
    private static final Object[][] REFUSED_WITHOUT_THINGS = {
        {"worth", 0, -3}, {"earned", -3}, {"pays", -3}, {"left", -3}, {"allow", 1, -3}, {"allow", 20, -3}, {"best", 0, -3}, {"best", 1, -3},
        {"bestDay", 0, -3}, {"breaking", -3}, {"byLaw", 0, -3}, {"byLaw", 5, -3}, {"fitting", 0, -3}, {"fitting", 400, -3},
        {"seeds", 1, 0, -3}, {"seeds", 20, 0, -3}, {"on", -3},
        {"worth", 10, -1}, {"worth", -1, -1}, {"allow", 0, -4}, {"allow", 21, -6}, {"best", -1, -2}, {"best", 2, -2}, {"bestDay", -1, -1},
        {"bestDay", 10, -1}, {"byLaw", -1, -2}, {"byLaw", 6, -2}, {"fitting", -1, -4}, {"fitting", 401, -6}, {"seeds", 0, 0, -4},
        {"seeds", 21, 0, -6}, {"thing", 0, 0, -1}, {"thing", 0, 4, -1}, {"does", 0, 0, -1}, {"bind", 0, 0, -1}, {"more", 0, -1},
        {"brought", 0, -1}, {"likely", 0, 0, 0, 0, -1}, {"likely", -1, 0, 0, 2, -1}, {"stretch", 0, 2, -2}, {"stretch", 10, 0, -1},
    };

    private static String callOf(Object[] refused) {
        StringBuilder call = new StringBuilder(refused[0] + "(");
        for (int i = 1; i < refused.length - 1; i++) {
            call.append(i > 1 ? ", " : "").append(refused[i]);
        }
        return call.append(')').toString();
    }

    private static int numberOf(Object[] refused) {
        return (Integer) refused[refused.length - 1];
    }

    private static long toldAs(Object[] refused) {
        int number = numberOf(refused);
        switch ((String) refused[0]) {
            case "worth": case "earned": case "left": case "allow": case "best": case "more": case "brought": case "seeds":
                return 1000000000L - number;
            case "years": case "fitting": case "likely":
                return 4000000000000000000L - number;
            default:
                return number;
        }
    }

    private static Run beforeRefusal(boolean hasThings) {
        return (hasThings ? Run.of(LAND) : new Run()).row("01").letters("c5");
    }

    @Says(promise = 32, words = {"REFUSALS (the call answers the number, the first that fits in the order in which it tells them;"})
    static void theCallAnswersTheNumber() {
        for (Object[] refused : REFUSED) {
            beforeRefusal(true).due(callOf(refused), toldAs(refused));
        }
        for (Object[] refused : REFUSED_WITHOUT_THINGS) {
            beforeRefusal(false).due(callOf(refused), toldAs(refused));
        }
    }

    @Says(promise = 32, words = {"nothing changes but how many there were):"})
    static void nothingChangesButHowManyThereWere() {
        for (Object[] refused : REFUSED) {
            dueNothingChanges(true, refused);
        }
        for (Object[] refused : REFUSED_WITHOUT_THINGS) {
            dueNothingChanges(false, refused);
        }
    }

    private static void dueNothingChanges(boolean hasThings, Object[] refused) {
        Run x = beforeRefusal(hasThings);
        String before = x.state();
        x.ask(callOf(refused));
        Check.due("state behind " + callOf(refused), x.state(), before);
        StringBuilder refusals = new StringBuilder();
        for (int number = -1; number >= -6; number--) {
            refusals.append(number == numberOf(refused) ? "1" : "0").append(number > -6 ? " " : "");
        }
        Check.due("refusals behind " + callOf(refused), x.refusals(), refusals.toString());
        // The row and the letters are as they were, too: 01, which is not so on day 1 without things, and c5.
        x.due("judge()", hasThings ? 2 : 1).letters(";").due("land()", 1).due("count(2)", 5);
    }

    @Says(promise = 32, words = {"nothing changes but how many there were):"})
    static void theImageDoesNotChange() {
        for (Object[] refused : REFUSED) {
            Run x = beforeRefusal(true).due("image()", 5);
            String then = x.state();
            x.ask("change(9)");
            x.ask(callOf(refused));
            x.due("on()", 5);
            Check.due("state of the image behind " + callOf(refused), x.state(), then);
        }
    }

    @Says(promise = 32, words = {"the first that fits in the order in which it tells them;"})
    static void noRoomIsLookedAtLast() {
        Run letters = new Run().letters("c".repeat(80)).due("letter(-1)", -4).due("letter(99)", -6).due("letter(256)", -6);
        Check.due("refusals", letters.refusals(), "0 0 0 1 0 2");
        Run row = new Run().row("9".repeat(20)).due("row(-1)", -4).due("row(0)", -6).due("row(10)", -6);
        Check.due("refusals", row.refusals(), "0 0 0 1 0 2");
    }

    @Says(promise = 32, words = {"the first that fits in the order in which it tells them;"})
    static void fittingWithoutARow() {
        Run x = Run.of("tw100;").due("fitting(-1)", Run.LONG + 4).due("fitting(401)", Run.LONG + 6).due("fitting(0)", Run.LONG + 3);
        x.due("likely(-1, 0, 0, 2)", Run.LONG + 1);
        Check.due("refusals", x.refusals(), "1 0 1 1 0 1");
    }

    @Says(promise = 32, words = {"-1 NOBODY: no such THING, DAY."})
    static void nobody() {
        Run x = Run.of("tw100;y2;").due("done(1)", 0).due("done(2)", -1).due("thing(0, 0)", 0).due("thing(1, 0)", -1);
        x.tell("tw100;y3;").due("done(2)", 0).due("done(3)", -1).due("thing(1, 0)", 0).due("thing(2, 0)", -1);
        x.tell("y1;").due("done(1)", -1).due("worth(1)", Run.AMOUNT + 1).due("bestDay(1)", -1).due("stretch(1, 0)", -1);
        x.due("does(1, 0)", -1).due("bind(1, -1)", -1);
    }

    @Says(promise = 32, words = {"-2 OTHER: what, LAW."})
    static void other() {
        Run x = Run.of("tw100;").due("thing(0, 3)", 0).due("thing(0, 4)", -2).due("law(5)", 0).due("law(6)", -2).due("byLaw(6)", -2);
        x.due("stretch(0, 1)", 1).due("stretch(0, 2)", -2).due("best(2)", Run.AMOUNT + 2);
    }

    @Says(promise = 32, words = {"-3 STATE: it is not as it must be (there are no THINGS)."})
    static void state() {
        Run x = new Run().due("pays()", -3).due("earned()", Run.AMOUNT + 3).due("on()", -3);
        x.tell("tw100;").due("pays()", 100).due("earned()", 10).due("on()", -3).due("image()", 10).due("on()", 10);
    }

    @Says(promise = 32, words = {"-4 BELOW: a number below the least."})
    static void below() {
        Run x = Run.of("tw100;").due("change(0)", 1).due("change(-1)", -4).due("letter(0)", 1).due("letter(-1)", -4);
        x.due("row(0)", 1).due("row(-1)", -4).due("allow(1)", -999).due("allow(0)", Run.AMOUNT + 4).due("fitting(0)", 0);
        x.due("fitting(-1)", Run.LONG + 4).due("years(1, 1, 1)", 1).due("years(1, 1, 0)", Run.LONG + 4);
    }

    @Says(promise = 32, words = {"-6 ROOM: a number above the greatest, no room."})
    static void room() {
        Run x = Run.of("tw100;").due("change(9)", 1).due("change(10)", -6).due("letter(255)", 1).due("letter(256)", -6);
        x.due("row(9)", 1).due("row(10)", -6).due("allow(20)", 10).due("allow(21)", Run.AMOUNT + 6).due("fitting(400)", 0);
        x.due("fitting(401)", Run.LONG + 6).due("years(20, 4, 20)", 4).due("years(20, 4, 21)", Run.LONG + 6);
    }

    @Says(promise = 32, words = {"Of worth(), earned(), left(), allow(), best(), more(), brought(), seeds() REFUSALS are 1000000000 less them"
        + " (-1 is told as 1000000001),"})
    static void refusalsOfAmounts() {
        Run x = new Run().due("worth(10)", 1000000001).due("worth(0)", 1000000003).due("earned()", 1000000003).due("left()", 1000000003);
        x.due("allow(0)", 1000000004).due("allow(21)", 1000000006).due("allow(1)", 1000000003).due("best(2)", 1000000002);
        x.due("best(0)", 1000000003).due("more(0)", 1000000001).due("brought(0)", 1000000001).due("seeds(0, 0)", 1000000004);
        x.due("seeds(21, 0)", 1000000006).due("seeds(1, 0)", 1000000003);
        Check.due("refusals", x.refusals(), "3 1 6 2 0 2");
    }

    @Says(promise = 32, words = {"of longs 4000000000000000000 less (-1 as 4000000000000000001)."})
    static void refusalsOfLongs() {
        Run x = new Run().due("years(0, 1, 1)", 4000000000000000004L).due("years(21, 1, 1)", 4000000000000000006L);
        x.due("fitting(-1)", 4000000000000000004L).due("fitting(401)", 4000000000000000006L).due("fitting(0)", 4000000000000000003L);
        x.due("likely(0, 0, 0, 0)", 4000000000000000001L).tell("tw100;").row("9").due("likely(0, 0, 0, 2)", 4000000000000000002L);
        x.due("likely(-1, 0, 0, 0)", 4000000000000000004L).due("likely(401, 0, 0, 0)", 4000000000000000006L);
        Check.due("refusals", x.refusals(), "1 1 1 3 0 3");
    }

    @Says(promise = 32, words = {"of longs 4000000000000000000 less (-1 as 4000000000000000001)."})
    static void refusalsOfAllElseAreTheNumbers() {
        Run x = new Run().due("pays()", -3).due("bestDay(10)", -1).due("bestDay(0)", -3).due("breaking()", -3).due("byLaw(6)", -2);
        x.due("byLaw(0)", -3).due("on()", -3).due("done(10)", -1).due("stretch(0, 2)", -2).due("law(6)", -2).due("change(10)", -6);
        x.due("row(10)", -6).due("letter(256)", -6);
        Check.due("refusals", x.refusals(), "2 3 5 0 0 3");
    }
}
