/** Terms I, as far as STRETCHES, KINDS, LAWS, EARNED and LEFT. */
public final class TermsStretchTest {
    public static void main(String[] args) throws Exception {
        Check.run(TermsStretchTest.class);
    }

    // Stretches.

    @Says(promise = 12, words = {"A STRETCH: as many DAYS as the same THING is DONE one behind the other"})
    static void aStretchEndsWhereAnotherThingIsDone() {
        Run x = Run.of("tw100;tw100;y7;").year("0011101");
        long[] lengths = {2, 2, 3, 3, 3, 1, 1};
        long[] places = {1, 2, 1, 2, 3, 1, 1};
        for (int day = 0; day < 7; day++) {
            x.due("stretch(" + day + ", 0)", lengths[day]).due("stretch(" + day + ", 1)", places[day]);
        }
    }

    @Says(promise = 10, words = {"A STRETCH: as many DAYS as the same THING is DONE one behind the other"})
    static void twoThingsThatAreAlikeAreTwo() {
        Run.of("tw100;tw100;y6;").year("000111").due("longest()", 3).due("stretches()", 2).due("stretch(3, 1)", 1);
    }

    @Says(promise = 10, words = {"A STRETCH: as many DAYS as the same THING is DONE one behind the other"})
    static void aStretchOfOneDayAndOfAllDays() {
        Run.of("tw100;y1;").due("longest()", 1).due("stretches()", 1).due("stretch(0, 0)", 1).due("stretch(0, 1)", 1);
        Run.of("tw100;y20;").due("longest()", 20).due("stretches()", 1).due("stretch(19, 0)", 20).due("stretch(19, 1)", 20)
                .due("stretch(0, 0)", 20).due("stretch(0, 1)", 1);
        Run.of("tw100;tw100;y20;").year("01010101010101010101").due("longest()", 1).due("stretches()", 20);
    }

    @Says(promise = 10, words = {"(without THINGS none counts)."})
    static void withoutThingsNoStretchCounts() {
        new Run().due("longest()", 0).due("stretches()", 0);
        Run.of("y20;").due("longest()", 0).due("stretches()", 0);
    }

    @Says(promise = 12, words = {"(without THINGS none counts)."})
    static void withoutThingsThereIsAStretchAllTheSame() {
        new Run().due("stretch(0, 0)", 10).due("stretch(0, 1)", 1).due("stretch(9, 0)", 10).due("stretch(9, 1)", 10);
    }

    // Kinds.

    /** What each day of one stretch of all 20 days is worth. */
    private static void dueKind(String thing, long... days) {
        Run x = Run.of(thing + "y20;");
        for (int day = 0; day < 20; day++) {
            x.due("worth(" + day + ")", days[Math.min(day, days.length - 1)]);
        }
    }

    @Says(promise = 13, words = {"KINDS, what the k-th DAY (1, 2, ..) of a STRETCH is worth:"})
    static void eachStretchBeginsAnew() {
        Run x = Run.of("tw523;tf900;y20;").year("00000001000100000001");
        x.dueEach("worth", 5, 5, 5, 7, 7, 7, 4, 9, 5, 5, 5, 9, 5, 5, 5, 7, 7, 7, 4, 9);
        Run.of("tw523;tw523;y9;").year("000001111").dueEach("worth", 5, 5, 5, 7, 7, 5, 5, 5, 7);
    }

    @Says(promise = 13, words = {"w WORK: WORTH; HABIT more from the 4th on;"})
    static void aWorksHabitIsFromThe4th() {
        dueKind("tw520;", 5, 5, 5, 7);
        dueKind("tw930;", 9, 9, 9, 12);
        dueKind("tw000;", 0);
    }

    @Says(promise = 13, words = {"WEARY less from the 7th on."})
    static void aWorksWearyIsFromThe7th() {
        dueKind("tw503;", 5, 5, 5, 5, 5, 5, 2);
        dueKind("tw523;", 5, 5, 5, 7, 7, 7, 4);
    }

    @Says(promise = 13, words = {"r REST under WORK: 0;"})
    static void aRestIsWorth0() {
        dueKind("tr933;", 0);
    }

    @Says(promise = 11, words = {"its STRETCHES do not count for taxes."})
    static void restsDoNotCount() {
        Run x = Run.of("tw100;tr000;y9;").year("011111101").due("longest()", 1).due("stretches()", 2).due("pays()", 1);
        x.dueEach("byLaw", 1, 1, 2, 27, 1, 9).due("stretch(1, 0)", 6);
        Run.of("tr933;").due("longest()", 0).due("stretches()", 0).due("pays()", 0);
    }

    @Says(promise = 13, words = {"s STEADY under WORK: as a WORK, but HABIT is more from the 2nd on (not the 4th)."})
    static void aSteadysHabitIsFromThe2nd() {
        dueKind("ts520;", 5, 7);
        dueKind("ts523;", 5, 7, 7, 7, 7, 7, 4);
        dueKind("ts503;", 5, 5, 5, 5, 5, 5, 2);
    }

    @Says(promise = 13, words = {"i TIRING under WORK: as a WORK, but WEARY is less from the 4th on (not the 7th)."})
    static void aTiringsWearyIsFromThe4th() {
        dueKind("ti503;", 5, 5, 5, 2);
        dueKind("ti523;", 5, 5, 5, 4);
        dueKind("ti520;", 5, 5, 5, 7);
    }

    @Says(promise = 13, words = {"d DOUBLE under STEADY: twice a STEADY's."})
    static void aDoubleIsTwiceASteady() {
        dueKind("td520;", 10, 14);
        dueKind("td523;", 10, 14, 14, 14, 14, 14, 8);
        dueKind("td933;", 18, 24, 24, 24, 24, 24, 18);
    }

    @Says(promise = 13, words = {"f FEAST under REST: as a REST, but WORTH on the 1st."})
    static void aFeastIsWorthItsFirstDay() {
        dueKind("tf933;", 9, 0);
        dueKind("tf000;", 0);
    }

    @Says(promise = 11, words = {"f FEAST under REST: as a REST, but WORTH on the 1st."})
    static void feastsDoNotCount() {
        Run.of("tf900;").due("longest()", 0).due("stretches()", 0).due("pays()", 0).due("stretch(9, 0)", 10);
        Run.of("tw100;tf900;y5;").year("01110").due("longest()", 1).due("stretches()", 2);
    }

    @Says(promise = 11, words = {"KINDS, what the k-th DAY (1, 2, ..) of a STRETCH is worth:"})
    static void allOtherKindsCount() {
        for (String thing : new String[] {"tw000;", "ts000;", "ti000;", "td000;"}) {
            Run.of(thing).due("longest()", 10).due("stretches()", 1).due("pays()", 100);
        }
    }

    @Says(promise = 13, words = {"All may be below 0."})
    static void aDayMayBeWorthLessThan0() {
        dueKind("tw003;", 0, 0, 0, 0, 0, 0, -3);
        dueKind("ts003;", 0, 0, 0, 0, 0, 0, -3);
        dueKind("ti003;", 0, 0, 0, -3);
        dueKind("td003;", 0, 0, 0, 0, 0, 0, -6);
        dueKind("ti012;", 0, 0, 0, -1);
    }

    @Says(promise = 14, words = {"All may be below 0."})
    static void earnedMayBeBelow0() {
        Run.of("td003;y20;").due("earned()", -84).due("brought(0)", -84).due("left()", -484);
        Run.of("tr000;tr000;c9;y20;").year("01010101010101010101").due("earned()", -171).due("left()", -171).due("brought(0)", 0);
    }

    @Says(promise = 17, words = {"All may be below 0."})
    static void allowBestMoreAndSeedsMayBeBelow0() {
        Run.of("td003;y20;").due("allow(20)", -84).due("best(0)", -484).due("more(0)", -6 - 41).due("seeds(20, 0)", 20 * -484);
    }

    // Laws.

    private static void dueLaws(String year, long... sums) {
        Run x = Run.of("tw100;ts100;tr000;y" + year.length() + ";").year(year).dueEach("byLaw", sums);
        for (int law = 0; law < sums.length; law++) {
            x.due("law(" + law + ")", Math.max(0, law - 1)).due("pays()", sums[law]);
        }
    }

    @Says(promise = 15, words = {"LAWS by KINDS, what one pays by the counted STRETCHES:"})
    static void lawsOfSeveralStretches() {
        dueLaws("00012110000", 16, 9, 1 + 4 + 9 + 16, 36, 1, 11);
        dueLaws("01110000222", 16, 9, 1 + 9 + 16, 27, 1, 11);
        dueLaws("00011112200", 16, 9, 9 + 16 + 4, 27, 4, 11);
    }

    @Says(promise = 15, words = {"0 LONGEST under LAW: the longest by itself (0 there is none)."})
    static void law0IsTheLongestByItself() {
        dueLaws("0", 1, 0, 1, 0, 1, 1);
        dueLaws("00000000000000000000", 400, 0, 400, 0, 400, 20);
        dueLaws("00022", 9, 0, 9, 9, 9, 5);
    }

    @Says(promise = 15, words = {"0 LONGEST under LAW: the longest by itself (0 there is none)."})
    static void law0IsNothingWhereNoneCounts() {
        dueLaws("222", 0, 0, 0, 0, 0, 3);
        Run.of("tr000;tf000;y4;").year("0011").dueEach("byLaw", 0, 0, 0, 9, 0, 4);
    }

    @Says(promise = 15, words = {"1 SECOND under LONGEST: the second of them by length (may be as long as the longest; 0 there is none) by itself."})
    static void law1IsTheSecondByItself() {
        dueLaws("0001122", 9, 4, 13, 18, 4, 7);
        dueLaws("1100022", 9, 4, 13, 18, 4, 7);
        dueLaws("010001100000", 25, 9, 1 + 1 + 9 + 4 + 25, 36, 1, 12);
        dueLaws("000002100011", 25, 9, 25 + 1 + 9 + 4, 36, 1, 12);
    }

    @Says(promise = 15, words = {"1 SECOND under LONGEST: the second of them by length (may be as long as the longest; 0 there is none) by itself."})
    static void law1MayBeAsLongAsTheLongest() {
        dueLaws("000111", 9, 9, 18, 9, 9, 6);
        dueLaws("0002000", 9, 9, 18, 18, 9, 7);
        dueLaws("0100011101", 9, 9, 22, 45, 1, 10);
    }

    @Says(promise = 15, words = {"1 SECOND under LONGEST: the second of them by length (may be as long as the longest; 0 there is none) by itself."})
    static void law1IsNothingWhereThereIsNoSecond() {
        dueLaws("000", 9, 0, 9, 0, 9, 3);
        dueLaws("20002", 9, 0, 9, 18, 9, 5);
    }

    @Says(promise = 15, words = {"2 ALL under LAW: each by itself, together."})
    static void law2IsAllTogether() {
        dueLaws("01010", 1, 1, 5, 36, 1, 5);
        dueLaws("0011222000", 9, 4, 17, 27, 4, 10);
    }

    @Says(promise = 15, words = {"3 CHANGES under LAW: 9 times how many times on a DAY another THING is DONE than the DAY ahead."})
    static void law3IsNineForEachChange() {
        dueLaws("01010101010101010101", 1, 1, 20, 171, 1, 20);
        dueLaws("2", 0, 0, 0, 0, 0, 1);
        dueLaws("22222", 0, 0, 0, 0, 0, 5);
        dueLaws("20", 1, 0, 1, 9, 1, 2);
    }

    @Says(promise = 15, words = {"4 SHORTEST under LONGEST: the shortest by itself."})
    static void law4IsTheShortestByItself() {
        dueLaws("000111100", 16, 9, 29, 18, 4, 9);
        dueLaws("001111000", 16, 9, 29, 18, 4, 9);
        dueLaws("00001110111", 16, 9, 35, 27, 1, 11);
        dueLaws("000", 9, 0, 9, 0, 9, 3);
    }

    @Says(promise = 15, words = {"4 SHORTEST under LONGEST: the shortest by itself."})
    static void law4DoesNotLookAtRests() {
        dueLaws("0002111", 9, 9, 18, 18, 9, 7);
        dueLaws("2", 0, 0, 0, 0, 0, 1);
    }

    @Says(promise = 15, words = {"5 FLAT under LAW: how many DAYS."})
    static void law5IsHowManyDays() {
        for (int days = 1; days <= 20; days++) {
            Run.of("tr000;l5;y" + days + ";").due("pays()", days).due("byLaw(5)", days);
        }
    }

    @Says(promise = 15, words = {"LAWS by KINDS, what one pays by the counted STRETCHES:"})
    static void nothingOfAnEarlierYearIsPaid() {
        Run x = Run.of("tw100;ts100;tr000;y6;");
        String[] years = {"000111", "222222", "010101", "222222", "000000", "001112", "222222", "221222"};
        long[][] sums = {{9, 9, 18, 9, 9, 6}, {0, 0, 0, 0, 0, 6}, {1, 1, 6, 45, 1, 6}, {0, 0, 0, 0, 0, 6}, {36, 0, 36, 0, 36, 6},
            {9, 4, 13, 18, 4, 6}, {0, 0, 0, 0, 0, 6}, {1, 0, 1, 18, 1, 6}};
        for (int i = 0; i < years.length; i++) {
            x.year(years[i]).dueEach("byLaw", sums[i]);
        }
        x.tell("y2;").dueEach("byLaw", 4, 0, 4, 0, 4, 2);
    }

    // Earned and left.

    @Says(promise = 14, words = {"EARNED: all DAYS are worth, less CHANGE for each change."})
    static void earnedIsLessChangeForEachChange() {
        Run x = Run.of("tw521;tf700;y6;c3;").year("000011").due("earned()", 5 + 5 + 5 + 7 + 7 - 3);
        x.year("010101").due("earned()", 5 + 7 + 5 + 7 + 5 + 7 - 15).due("count(4)", 5);
        x.due("change(0)", 3).due("earned()", 36).due("change(9)", 0).due("earned()", 36 - 45);
    }

    @Says(promise = 14, words = {"EARNED: all DAYS are worth, less CHANGE for each change."})
    static void earnedWithoutAChange() {
        Run.of("tw500;c9;y1;").due("earned()", 5).due("count(4)", 0);
        Run.of("tw900;c9;y20;").due("earned()", 180);
        Run.of("td930;c9;y20;").due("earned()", 18 + 19 * 24);
    }

    @Says(promise = 16, words = {"LEFT: EARNED less what one pays."})
    static void leftIsEarnedLessWhatOnePays() {
        Run x = Run.of("tw500;tr000;y5;c2;").year("00100");
        long[] pays = {4, 4, 8, 18, 4, 5};
        for (int law = 0; law <= 5; law++) {
            x.ask("law(" + law + ")");
            x.due("earned()", 16).due("pays()", pays[law]).due("left()", 16 - pays[law]);
        }
    }
}
