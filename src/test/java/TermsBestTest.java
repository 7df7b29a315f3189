/** Terms II, from LONGEST to BY LAW. */
public final class TermsBestTest {
    public static void main(String[] args) throws Exception {
        Check.run(TermsBestTest.class);
    }

    @Says(promise = 10, words = {"LONGEST, how many STRETCHES are counted;"})
    static void theLongestOfTheCountedOnes() {
        Run x = Run.of("tw100;tr000;tf000;td100;y13;");
        x.year("0011112223333").due("longest()", 4).due("stretches()", 2);
        x.year("0001111112233").due("longest()", 3).due("stretches()", 2);
        x.year("1111111222222").due("longest()", 0).due("stretches()", 0);
        x.year("0101010101010").due("longest()", 1).due("stretches()", 7);
        x.year("0000000000003").due("longest()", 12).due("stretches()", 2);
        x.year("3000000000000").due("longest()", 12).due("stretches()", 2);
    }

    @Says(promise = 12, words = {"STRETCH of a DAY: how long that is of which it is, which DAY of it (1 first)."})
    static void howLongAndWhichDayOfIt() {
        Run x = Run.of("tw100;tr000;y7;").year("1100011");
        long[] lengths = {2, 2, 3, 3, 3, 2, 2};
        long[] places = {1, 2, 1, 2, 3, 1, 2};
        for (int day = 0; day < 7; day++) {
            x.due("stretch(" + day + ", 0)", lengths[day]).due("stretch(" + day + ", 1)", places[day]);
        }
    }

    @Says(promise = 12, words = {"STRETCH of a DAY: how long that is of which it is, which DAY of it (1 first)."})
    static void aStretchEndsWithTheYear() {
        Run.of("tw100;tw100;y20;").year("00000000000000000001").tell("y3;").due("stretch(2, 0)", 3).due("stretch(0, 0)", 3);
    }

    // Allow.

    @Says(promise = 17, words = {"ALLOW l (1 .. 20): the greatest EARNED of all years (as many DAYS; BOUND ones so)"
        + " whose counted STRETCHES are l at most;"})
    static void theGreatestEarned() {
        Run.of("tw900;tr000;y3;").due("allow(1)", 16).due("allow(2)", 17).due("allow(3)", 27);
        Run.of("tw900;tr000;y3;c0;").due("allow(1)", 18).due("allow(2)", 18).due("allow(3)", 27);
        Run.of("tw900;tr000;y3;c9;").due("allow(1)", 0).due("allow(2)", 9).due("allow(3)", 27);
        Run x = Run.of("tw203;tr000;y8;c0;").due("allow(1)", 8).due("allow(2)", 12).due("allow(3)", 12).due("allow(4)", 14);
        x.due("allow(7)", 14).due("allow(8)", 14);
    }

    @Says(promise = 17, words = {"ALLOW l (1 .. 20): the greatest EARNED of all years"})
    static void theLeastAndTheGreatestL() {
        Run.of("tw900;tr000;y1;").due("allow(1)", 9).due("allow(20)", 9);
        Run.of("tw900;tr000;y20;c0;").due("allow(1)", 90).due("allow(19)", 171).due("allow(20)", 180);
    }

    @Says(promise = 17, words = {"(as many DAYS; BOUND ones so)"})
    static void ofAsManyDays() {
        for (int days = 1; days <= 20; days++) {
            Run.of("tw900;y" + days + ";").due("allow(20)", 9 * days);
        }
    }

    @Says(promise = 17, words = {"(as many DAYS; BOUND ones so)"})
    static void ofAsManyDaysAsThereAreNow() {
        Run x = Run.of("tw100;tr000;tw900;c0;");
        for (int days : new int[] {20, 5, 1, 7, 20, 19, 2}) {
            x.tell("y" + days + ";").due("allow(20)", 9 * days).due("allow(1)", 9 * ((days + 1) / 2) + days / 2);
        }
    }

    @Says(promise = 17, words = {"(as many DAYS; BOUND ones so)"})
    static void boundDaysAreSo() {
        Run x = Run.of("tw900;tr000;y3;b1,1;").due("allow(1)", 16).due("allow(20)", 16);
        x.due("bind(0, 1)", -9).due("allow(20)", 8).due("bind(2, 1)", -9).due("allow(20)", 0);
        x.due("bind(1, -1)", 1).due("allow(1)", 7).due("bind(0, -1)", 1).due("bind(2, -1)", 1).due("allow(20)", 27);
    }

    @Says(promise = 17, words = {"(as many DAYS; BOUND ones so)"})
    static void whatIsDoneButNotBoundIsFree() {
        Run.of("tw900;tr000;y3;").year("111").due("allow(3)", 27).due("allow(1)", 16).dueEach("done", 1, 1, 1);
    }

    @Says(promise = 17, words = {"whose counted STRETCHES are l at most;"})
    static void aBoundStretchOfJustLIsAllowed() {
        Run x = Run.of("tw100;tr000;y5;c0;b1,0;b2,0;b3,0;");
        x.due("allow(2)", -999).due("allow(3)", 3).due("allow(4)", 4).due("allow(5)", 5).due("allow(6)", 5);
    }

    @Says(promise = 17, words = {"whose counted STRETCHES are l at most;"})
    static void restsAndFeastsMayBeLonger() {
        Run.of("tr000;y20;").due("allow(1)", 0);
        Run.of("tf900;y20;").due("allow(1)", 9);
        Run.of("tw100;tr000;y5;c9;").due("allow(1)", 0).due("allow(4)", 0).due("allow(5)", 5);
    }

    @Says(promise = 17, words = {"whose counted STRETCHES are l at most;"})
    static void twoThingsThatAreAlikeMayTakeTurns() {
        Run.of("tw100;tw100;y20;c0;").due("allow(1)", 20);
        Run.of("tw100;tw100;y2;").due("allow(1)", 1).due("allow(2)", 2);
    }

    @Says(promise = 17, words = {"-999 there is none. BEST"})
    static void noYearIsMinus999() {
        Run x = Run.of("tw100;y20;");
        for (int l = 1; l < 20; l++) {
            x.due("allow(" + l + ")", -999);
        }
        x.due("allow(20)", 20);
        Run.of("tw100;y2;").due("allow(1)", -999).due("allow(2)", 2);
        Run.of("tw100;tw100;y3;b0,1;b1,1;").due("allow(1)", -999).due("allow(2)", 2);
        Run.of("tw100;tw100;y20;b18,1;b19,1;").due("allow(1)", -999).due("allow(2)", 20 - 9);
    }

    // Best.

    private static void dueBest(Run x, long most, long limit, String year) {
        x.due("best(0)", most).due("best(1)", limit);
        for (int day = 0; day < year.length(); day++) {
            x.due("bestDay(" + day + ")", year.charAt(day) - '0');
        }
    }

    @Says(promise = 18, words = {"BEST: the greatest ALLOW l less l times l;"})
    static void theGreatestAllowLessLTimesL() {
        dueBest(Run.of("tw900;tr000;y3;"), 27 - 9, 3, "000");
        dueBest(Run.of("tw900;tr000;y3;b1,1;"), 16 - 1, 1, "010");
        dueBest(Run.of("tw500;y1;"), 4, 1, "0");
        dueBest(Run.of("tr000;y5;"), -1, 1, "00000");
        // 1, 2, 3, 5 and 6 at most leave 22, 30, 34, 19 and 18.
        dueBest(Run.of("tw900;tr000;y6;"), 45 - 2 - 9, 3, "000100");
    }

    @Says(promise = 18, words = {"BEST: the greatest ALLOW l less l times l;"})
    static void theGreatestL() {
        dueBest(Run.of("tw900;y20;"), 180 - 400, 20, "00000000000000000000");
    }

    @Says(promise = 19, words = {"BEST: the greatest ALLOW l less l times l;"})
    static void ofTheYearAsItIsNow() {
        Run x = Run.of("tw100;tr000;tw900;c0;");
        dueBest(x.tell("y20;"), 144 + 4 - 16, 4, "02222022220222202222");
        dueBest(x.tell("y3;"), 18 + 1 - 1, 1, "202");
        dueBest(x.tell("b0,1;"), 18 - 4, 2, "122");
        dueBest(x.tell("y1;"), 9 - 1, 1, "2");
        dueBest(x.tell("y20;"), 144 + 4 - 16, 4, "02222022220222202222");
    }

    @Says(promise = 18, words = {"the least such l;"})
    static void ofSeveralTheLeastL() {
        // One at most leaves -1 less 1, two at most leave 2 less 4.
        dueBest(Run.of("tw100;tw100;y2;c3;"), -2, 1, "01");
        // 3 less 1 and 6 less 4.
        dueBest(Run.of("tw300;tr000;y2;c0;"), 2, 1, "01");
        // 19 less 1, 22 less 4 and 27 less 9.
        dueBest(Run.of("tw921;ts712;y3;c3;"), 18, 1, "010");
        // 20 less 4 and 25 less 9; 1 at most leaves 15 less 1, 6 at most 27 less 36.
        dueBest(Run.of("tr732;ti523;y6;c0;"), 16, 2, "011011");
    }

    @Says(promise = 19, words = {"the THING of a DAY in the first (by THINGS, DAY by DAY from 0) of those years that have that ALLOW l."})
    static void theFirstOfSeveralYears() {
        dueBest(Run.of("tw100;tw100;y2;c0;"), 1, 1, "01");
        dueBest(Run.of("tw100;tw100;tw100;y5;c0;"), 4, 1, "01010");
        dueBest(Run.of("tr000;tf100;y4;c0;"), 1, 1, "0101");
        dueBest(Run.of("tf100;tr000;y4;c1;"), 0, 1, "0000");
        dueBest(Run.of("tr000;tr000;tr000;tr000;y3;c0;"), -1, 1, "000");
    }

    @Says(promise = 19, words = {"the THING of a DAY in the first (by THINGS, DAY by DAY from 0) of those years that have that ALLOW l."})
    static void theFirstOfThoseThatKeepWhatIsBound() {
        dueBest(Run.of("tw100;tw100;y2;c0;b0,1;"), 1, 1, "10");
        dueBest(Run.of("tw100;tw100;y4;c0;b3,0;"), 3, 1, "1010");
        dueBest(Run.of("tw100;tw100;tw100;y4;c0;b3,0;"), 3, 1, "0120");
        dueBest(Run.of("tw100;tw100;tw100;tw100;y3;c0;b0,3;b2,3;"), 2, 1, "303");
    }

    @Says(promise = 19, words = {"the THING of a DAY in the first (by THINGS, DAY by DAY from 0) of those years that have that ALLOW l."})
    static void onlyYearsOfThatAllowCount() {
        // A year of 0 alone is first, but earns less.
        dueBest(Run.of("tr000;tw900;y3;"), 18, 3, "111");
        dueBest(Run.of("tr000;tw200;y1;"), 1, 1, "1");
    }

    @Says(promise = 19, words = {"the THING of a DAY in the first"})
    static void theLastDayOf20() {
        // 3 at most: 15 nines and 5 threes less 9; 2 and 4 at most leave 140.
        dueBest(Run.of("tw100;tw200;tw300;tw900;y20;c0;"), 135 + 15 - 9, 3, "23332333233323332333");
    }

    @Says(promise = 18, words = {"of those years that have that ALLOW l. -999 there is none."})
    static void aLimitOfAsManyDaysAlwaysLeavesAYear() {
        // So -999 can't come about; these are the lands that leave least.
        Run.of("td003;y20;").due("best(0)", -84 - 400).due("best(1)", 20).due("bestDay(19)", 0);
        Run x = Run.of("tr000;tr000;y20;c9;");
        for (int day = 0; day < 20; day++) {
            x.ask("bind(" + day + ", " + day % 2 + ")");
        }
        x.due("best(0)", -171 - 1).due("best(1)", 1).due("bestDay(19)", 1);
    }

    // Break.

    @Says(promise = 20, words = {"BREAK: the DAY and THING that, DONE there else (not BOUND), leaves most by the LAW, more than now:"})
    static void theDayThatLeavesMost() {
        // Day 0 leaves 2 less 1 less 4, day 1 leaves 2 less 2 less 1.
        Run.of("tw100;tr000;y3;").due("breaking()", 11).dueEach("done", 0, 0, 0);
        Run.of("tw100;tw200;tw300;y1;").due("breaking()", 2);
    }

    @Says(promise = 20, words = {"BREAK: the DAY and THING that, DONE there else (not BOUND), leaves most by the LAW, more than now:"})
    static void boundDaysAreNotBroken() {
        Run x = Run.of("tw100;tr000;y3;b1,0;").due("breaking()", 1);
        x.due("bind(0, 0)", -9).due("breaking()", 21).due("bind(2, 0)", -9).due("breaking()", -9);
        x.due("bind(1, -1)", 0).due("breaking()", 11);
    }

    @Says(promise = 20, words = {"leaves most by the LAW, more than now:"})
    static void byTheLaw() {
        // By no law but 0, 2 and 4 does a rest leave more; it costs 1 and what the day was worth.
        dueBreaks("000", 11, -9, 11, -9, 11, -9);
        dueBreaks("010", -9, 10, 1, 10, -9, 10);
        // Of 00100 the third day is best done else by laws that do not look at the longest.
        dueBreaks("00100", -9, 20, 11, 20, 11, 20);
    }

    private static void dueBreaks(String year, long... breaks) {
        Run x = Run.of("tw100;tr000;y" + year.length() + ";").year(year);
        for (int law = 0; law <= 5; law++) {
            x.ask("law(" + law + ")");
            x.due("breaking()", breaks[law]);
        }
    }

    @Says(promise = 20, words = {"leaves most by the LAW, more than now:"})
    static void asMuchAsNowIsNotMore() {
        Run.of("tw100;tw100;y1;").due("breaking()", -9);
        Run.of("tw100;tw200;y1;").year("1").due("breaking()", -9);
        // 00 leaves 4 less 4, 01 leaves 2 less 1 and a change.
        Run.of("tw200;tr000;y2;").due("breaking()", -9).due("change(0)", 1).due("breaking()", 1);
    }

    @Says(promise = 20, words = {"10 times the DAY and the THING, of several the least; -9."})
    static void tenTimesTheDayAndTheThing() {
        Run x = Run.of("tr000;tr000;tr000;tw900;y20;c0;l5;").due("breaking()", 3);
        for (int day = 0; day < 19; day++) {
            x.due("bind(" + day + ", 0)", -9);
            x.due("breaking()", 10 * (day + 1) + 3);
        }
        x.due("bind(19, 0)", -9).due("breaking()", -9);
    }

    @Says(promise = 20, words = {"10 times the DAY and the THING, of several the least; -9."})
    static void ofSeveralTheLeastDayAndThing() {
        Run.of("tw100;tr000;tr000;y3;").due("breaking()", 11);
        Run.of("tw100;tr000;tr000;y3;b1,0;").due("breaking()", 1);
        Run.of("tr000;tw900;tw900;y2;c0;l5;").due("breaking()", 1).year("20").due("breaking()", 11);
    }

    @Says(promise = 20, words = {"10 times the DAY and the THING, of several the least; -9."})
    static void thing0OnDay0Is0() {
        Run x = Run.of("tw900;tr000;y2;c0;l5;").year("11").due("breaking()", 0).year("01").due("breaking()", 10);
        x.year("00").due("breaking()", -9);
    }

    @Says(promise = 20, words = {"10 times the DAY and the THING, of several the least; -9."})
    static void withOneThingThereIsNoBreak() {
        Run.of("tw100;y1;").due("breaking()", -9);
        Run.of("tw100;y20;").due("breaking()", -9);
    }

    // More, brought, by law.

    @Says(promise = 21, words = {"MORE: what is LEFT, were a told THING DONE on one DAY more behind all, less what is LEFT now."})
    static void oneDayMoreBehindAll() {
        Run x = Run.of("tw400;tr000;c2;y3;").year("010");
        // A work makes a stretch of 2: 4 more earned, 3 more paid; a rest costs a change.
        x.dueEach("more", 4 - 3, -2);
        x.year("011").dueEach("more", 4 - 2, 0).due("count(1)", 3).dueEach("done", 0, 1, 1, -1);
    }

    @Says(promise = 21, words = {"MORE: what is LEFT, were a told THING DONE on one DAY more behind all, less what is LEFT now."})
    static void a21stDay() {
        Run x = Run.of("tw100;tr000;y20;").dueEach("more", 1 - 41, -1);
        x.ask("law(5)");
        x.dueEach("more", 1 - 1, -1 - 1).due("count(1)", 20).due("done(20)", -1).due("earned()", 20).due("pays()", 20);
    }

    @Says(promise = 21, words = {"MORE: what is LEFT, were a told THING DONE on one DAY more behind all, less what is LEFT now."})
    static void byEachLaw() {
        Run x = Run.of("tw100;tr000;y3;").year("001");
        long[] work = {0, -1, -1, -9, 3, -1};
        long[] rest = {0, 0, 0, 0, 0, -1};
        for (int law = 0; law <= 5; law++) {
            x.ask("law(" + law + ")");
            x.due("more(0)", work[law]).due("more(1)", rest[law]);
        }
    }

    @Says(promise = 21, words = {"MORE: what is LEFT, were a told THING DONE on one DAY more behind all, less what is LEFT now."})
    static void habitAndWearinessBeginOnTheDayMore() {
        Run.of("tw130;y2;l3;").due("more(0)", 1);
        Run.of("tw130;y3;l3;").due("more(0)", 4);
        Run.of("tw102;y5;l3;").due("more(0)", 1);
        Run.of("tw102;y6;l3;").due("more(0)", -1);
        Run.of("tf900;y1;l3;").due("more(0)", 0);
        Run.of("tr000;tf900;y1;l3;c0;").due("more(1)", 9 - 9);
    }

    @Says(promise = 22, words = {"BROUGHT by a THING: what its DAYS are worth together."})
    static void itsDaysTogether() {
        Run x = Run.of("tw521;tf700;tr900;y6;c9;l5;").year("000011").dueEach("brought", 22, 7, 0);
        x.year("010010").dueEach("brought", 20, 14, 0).year("222222").dueEach("brought", 0, 0, 0);
        Run.of("td930;y20;").due("brought(0)", 18 + 19 * 24);
        Run.of("tw100;tw900;y20;").year("00000000000000000001").dueEach("brought", 19, 9).tell("y3;").dueEach("brought", 3, 0);
    }

    @Says(promise = 23, words = {"BY LAW: what one would pay by another LAW."})
    static void byAnotherLaw() {
        Run x = Run.of("tw100;tr000;y4;l3;").year("0010").dueEach("byLaw", 4, 1, 5, 18, 1, 4);
        x.due("count(3)", 3).due("pays()", 18);
    }
}
