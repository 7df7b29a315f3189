/** Terms I, as far as THINGS, DAYS, CHANGE and LAW: their ranges and what they are at first. */
public final class TermsThingsTest {
    public static void main(String[] args) throws Exception {
        Check.run(TermsThingsTest.class);
    }

    @Says(promise = 4, words = {"THINGS 0 .. 3 as they come"})
    static void thingsAreNumberedAsTheyCome() {
        Run x = Run.of("tw100;ts200;").tell("ti300;").tell("td400;");
        for (int thing = 0; thing < 4; thing++) {
            x.due("thing(" + thing + ", 1)", thing + 1);
        }
        x.due("count(0)", 4);
    }

    @Says(promise = 3, words = {"(4 at most): KIND"})
    static void aFifthThingOfOneLandHasNoRoom() {
        new Run().land("tw100;tw100;tw100;tw100;", 4);
        new Run().land("tw100;tw100;tw100;tw100;tw100;", -2024).due("count(0)", 0);
    }

    @Says(promise = 3, words = {"(4 at most): KIND"})
    static void aFifthThingOfALaterLandHasNoRoom() {
        Run.of("tw100;tw100;tw100;").land("tw200;", 1).land("tw300;", -2000).due("count(0)", 4).due("thing(3, 1)", 2);
    }

    @Says(promise = 3, words = {"WORTH (0 .. 9)"})
    static void worthIsFrom0To9() {
        for (int worth = 0; worth <= 9; worth++) {
            new Run().land("tw" + worth + "00;", 1).due("thing(0, 1)", worth).due("worth(0)", worth);
        }
    }

    @Says(promise = 3, words = {"HABIT, WEARY (0 .. 3 each)"})
    static void habitIsFrom0To3() {
        for (int habit = 0; habit <= 9; habit++) {
            new Run().land("tw0" + habit + "0;", habit <= 3 ? 1 : -2000).due("thing(0, 2)", habit <= 3 ? habit : -1);
        }
    }

    @Says(promise = 3, words = {"HABIT, WEARY (0 .. 3 each)"})
    static void wearyIsFrom0To3() {
        for (int weary = 0; weary <= 9; weary++) {
            new Run().land("tw00" + weary + ";", weary <= 3 ? 1 : -2000).due("thing(0, 3)", weary <= 3 ? weary : -1);
        }
    }

    @Says(promise = 3, words = {"DAYS 0 .. of the YEAR (1 .. 20 of them"})
    static void aYearHas1To20Days() {
        for (int days = 0; days <= 99; days++) {
            boolean isYear = days >= 1 && days <= 20;
            new Run().land("y" + days + ";", isYear ? 1 : -2000).due("count(1)", isYear ? days : 10);
        }
    }

    @Says(promise = 7, words = {"DAYS 0 .. of the YEAR (1 .. 20 of them"})
    static void daysAreNumberedFrom0() {
        for (int days = 1; days <= 20; days++) {
            Run.of("y" + days + ";").due("done(0)", 0).due("done(" + (days - 1) + ")", 0).due("done(" + days + ")", -1);
        }
    }

    @Says(promise = 1, words = {": 10 at first), on each of which a THING"})
    static void tenDaysAtFirst() {
        new Run().due("count(1)", 10).due("done(9)", 0).due("done(10)", -1);
    }

    @Says(promise = 1, words = {"is DONE (0 at first)"})
    static void thing0IsDoneAtFirst() {
        new Run().dueEach("done", 0, 0, 0, 0, 0, 0, 0, 0, 0, 0);
        Run.of("tr100;tw100;").dueEach("done", 0, 0, 0, 0, 0, 0, 0, 0, 0, 0).due("count(4)", 0);
    }

    @Says(promise = 1, words = {"and may be BOUND to be one (none at first)."})
    static void noDayIsBoundAtFirst() {
        Run x = new Run().due("count(5)", 0);
        for (int day = 0; day < 10; day++) {
            x.due("bind(" + day + ", -1)", -9);
        }
        Run.of("tw100;tw100;").due("does(0, 1)", 0).due("does(9, 1)", 0);
    }

    @Says(promise = 6, words = {"and may be BOUND to be one (none at first)."})
    static void allDaysOf20MayBeBound() {
        Run x = Run.of("tw100;tw100;tw100;tw100;y20;");
        for (int day = 0; day < 20; day++) {
            x.due("count(5)", day).due("bind(" + day + ", " + day % 4 + ")", -9);
        }
        x.due("count(5)", 20).due("bind(19, -1)", 3).due("count(5)", 19);
    }

    @Says(promise = 8, words = {"CHANGE (0 .. 9: 1 at first)."})
    static void changeIs1AtFirst() {
        new Run().due("count(2)", 1);
        Run.of("tw500;tw500;").year("01").due("earned()", 50 - 2);
    }

    @Says(promise = 8, words = {"CHANGE (0 .. 9: 1 at first)."})
    static void changeIsFrom0To9() {
        for (int change = 0; change <= 9; change++) {
            Run.of("tw500;tw500;y2;c" + change + ";").year("01").due("count(2)", change).due("earned()", 10 - change);
        }
    }

    @Says(promise = 9, words = {"LAW (0 at first)."})
    static void lawIs0AtFirst() {
        new Run().due("count(3)", 0);
        Run.of("tw000;").due("pays()", 100);
    }
}
