/** Promise by promise: ordinary calls, the edges that the document names, and wrong ones. Promise 3 has LandTest. */
public final class PromisesTest {
    private static final Check CHECK = new Check();
    private static final int LEAST = Integer.MIN_VALUE;
    private static final int GREATEST = Integer.MAX_VALUE;
    private static final int AMOUNT = 1000000000;
    private static final long LONG = 4000000000000000000L;
    /** The first draws below 2 from seed 0, and below 4 from seed -5, reckoned apart from the program. */
    private static final int[] BELOW_TWO = {1, 1, 0, 1, 1, 0, 0, 1};
    private static final int[] BELOW_FOUR = {1, 1, 2, 1, 3, 0, 1, 3};

    public static void main(String[] args) {
        newObject();
        letters();
        thingsAsTold();
        doing();
        binding();
        doneOnDays();
        changing();
        laws();
        longestAndStretches();
        stretchOfDay();
        worths();
        earning();
        paying();
        leaving();
        allowing();
        bests();
        breakings();
        mores();
        broughts();
        byLaws();
        yearsCounted();
        rows();
        fittings();
        likelihoods();
        judging();
        seeding();
        images();
        counts();
        orderOfRefusals();
        withoutThings();
        CHECK.end();
    }

    private static void due(String what, long got, long want) {
        CHECK.due(what, got, want);
    }

    /** Promise 1. */
    private static void newObject() {
        TaxedByLongest x = new TaxedByLongest();
        int[] first = {0, 10, 1, 0, 0, 0, 0, 0};
        for (int what = 0; what < first.length; what++) {
            due("1: count(" + what + ") of a new object", x.count(what), first[what]);
        }
        for (int what = 11; what <= 16; what++) {
            due("1: count(" + what + ") of a new object", x.count(what), 0);
        }
        for (int day = 0; day < 10; day++) {
            due("1: done(" + day + ")", x.done(day), 0);
            due("1: bind(" + day + ", -1)", x.bind(day, -1), -9);
        }
    }

    /** Promise 2. */
    private static void letters() {
        TaxedByLongest x = new TaxedByLongest();
        due("2: the least letter", x.letter(0), 1);
        due("2: the greatest letter", x.letter(255), 2);
        due("2: below", x.letter(-1), -4);
        due("2: far below", x.letter(LEAST), -4);
        due("2: above", x.letter(256), -6);
        due("2: far above", x.letter(GREATEST), -6);
        for (int i = 3; i <= 80; i++) {
            due("2: letter " + i, x.letter('c'), i);
        }
        due("2: no room", x.letter('c'), -6);
        due("2: below comes ahead of no room", x.letter(-1), -4);
        due("2: letters", x.count(7), 80);
        due("2: refused -4", x.count(14), 3);
        due("2: refused -6", x.count(16), 3);
        x.land();
        due("2: letters behind a land", x.count(7), 0);
        due("2: the first again", x.letter('c'), 1);
    }

    /** Promise 4. */
    private static void thingsAsTold() {
        String letters = "wrsidf";
        for (int kind = 0; kind < letters.length(); kind++) {
            TaxedByLongest x = Check.landOf("tw000;t" + letters.charAt(kind) + "923;");
            due("4: kind " + kind, x.thing(1, 0), kind);
            due("4: worth", x.thing(1, 1), 9);
            due("4: habit", x.thing(1, 2), 2);
            due("4: weary", x.thing(1, 3), 3);
            due("4: worth of the other", x.thing(0, 1), 0);
            due("4: no such thing", x.thing(2, 0), -1);
            due("4: no thing below", x.thing(-1, 0), -1);
            due("4: no such what", x.thing(1, 4), -2);
            due("4: no what below", x.thing(1, -1), -2);
            due("4: thing ahead of what", x.thing(LEAST, GREATEST), -1);
        }
    }

    /** Promise 5. */
    private static void doing() {
        TaxedByLongest x = Check.landOf("tw100;tw200;");
        due("5: which was", x.does(0, 1), 0);
        due("5: which was then", x.does(0, 0), 1);
        due("5: the last day", x.does(9, 1), 0);
        due("5: no such day", x.does(10, 0), -1);
        due("5: no day below", x.does(-1, 0), -1);
        due("5: no such thing", x.does(0, 2), -1);
        due("5: no thing below", x.does(0, -1), -1);
        x.bind(3, 1);
        due("5: bound to another", x.does(3, 0), -3);
        due("5: it stays", x.done(3), 1);
        due("5: bound to the same", x.does(3, 1), 1);
        due("5: no thing ahead of bound", x.does(3, 2), -1);
        due("5: refused -1", x.count(11), 5);
        due("5: refused -3", x.count(13), 1);
    }

    /** Promise 6. */
    private static void binding() {
        TaxedByLongest x = Check.landOf("tw100;tw200;");
        due("6: none it was", x.bind(3, 1), -9);
        due("6: done then", x.done(3), 1);
        due("6: bound days", x.count(5), 1);
        due("6: to another", x.bind(3, 0), 1);
        due("6: done then", x.done(3), 0);
        due("6: to the same", x.bind(3, 0), 0);
        due("6: not any more", x.bind(3, -1), 0);
        due("6: bound days", x.count(5), 0);
        due("6: what is done stays", x.done(3), 0);
        due("6: free then", x.does(3, 1), 0);
        due("6: not bound at all", x.bind(3, -1), -9);
        due("6: what is done stays", x.done(3), 1);
        due("6: no such thing", x.bind(3, 2), -1);
        due("6: -9 is no thing", x.bind(3, -9), -1);
        due("6: 9 is no thing here", x.bind(3, 9), -1);
        due("6: no such day", x.bind(10, 0), -1);
        due("6: no such day to free", x.bind(10, -1), -1);
        due("6: no day below", x.bind(-1, -1), -1);
        due("6: still free", x.count(5), 0);
    }

    /** Promise 7. */
    private static void doneOnDays() {
        TaxedByLongest x = Check.landOf("tw100;tw100;tw100;y4;d2,2;b3,1;");
        due("7: day 0", x.done(0), 0);
        due("7: day 2", x.done(2), 2);
        due("7: day 3", x.done(3), 1);
        due("7: no such day", x.done(4), -1);
        due("7: no day below", x.done(-1), -1);
        due("7: far", x.done(LEAST), -1);
    }

    /** Promise 8. */
    private static void changing() {
        TaxedByLongest x = new TaxedByLongest();
        due("8: at first", x.change(0), 1);
        due("8: then", x.change(9), 0);
        due("8: above", x.change(10), -6);
        due("8: below", x.change(-1), -4);
        due("8: it stays", x.count(2), 9);
    }

    /** Promise 9. */
    private static void laws() {
        TaxedByLongest x = new TaxedByLongest();
        due("9: at first", x.law(5), 0);
        due("9: then", x.law(0), 5);
        due("9: above", x.law(6), -2);
        due("9: below", x.law(-1), -2);
        due("9: it stays", x.count(3), 0);
    }

    /** Promises 10 and 11. */
    private static void longestAndStretches() {
        TaxedByLongest x = Check.landOf("tw100;tr000;tf000;td100;y13;");
        Check.doAll(x, "0011112223333");
        due("10: by a double", x.longest(), 4);
        due("11: rests and feasts do not count", x.stretches(), 2);
        Check.doAll(x, "0001112223311");
        due("10: by a work", x.longest(), 3);
        Check.doAll(x, "1111111222222");
        due("10: none counts", x.longest(), 0);
        due("11: none counts", x.stretches(), 0);
        Check.doAll(x, "0101010101010");
        due("10: one by one", x.longest(), 1);
        due("11: one by one", x.stretches(), 7);
        due("10: without things", new TaxedByLongest().longest(), 0);
        due("11: without things", new TaxedByLongest().stretches(), 0);
        due("10: of steady", Check.landOf("ts000;y20;").longest(), 20);
        due("10: of tiring", Check.landOf("ti000;y1;").longest(), 1);
    }

    /** Promise 12. */
    private static void stretchOfDay() {
        TaxedByLongest x = Check.landOf("tw100;tr000;y7;");
        Check.doAll(x, "0011101");
        int[] lengths = {2, 2, 3, 3, 3, 1, 1};
        int[] places = {1, 2, 1, 2, 3, 1, 1};
        for (int day = 0; day < 7; day++) {
            due("12: how long, day " + day, x.stretch(day, 0), lengths[day]);
            due("12: which day of it, day " + day, x.stretch(day, 1), places[day]);
        }
        due("12: no such day", x.stretch(7, 0), -1);
        due("12: no day below", x.stretch(-1, 1), -1);
        due("12: no such what", x.stretch(0, 2), -2);
        due("12: no what below", x.stretch(0, -1), -2);
        due("12: day ahead of what", x.stretch(7, 2), -1);
    }

    /** Promise 13, and the kinds. */
    private static void worths() {
        String letters = "wrsidf";
        int[][] values = {
            {5, 5, 5, 7, 7, 7, 4, 4},
            {0, 0, 0, 0, 0, 0, 0, 0},
            {5, 7, 7, 7, 7, 7, 4, 4},
            {5, 5, 5, 4, 4, 4, 4, 4},
            {10, 14, 14, 14, 14, 14, 8, 8},
            {5, 0, 0, 0, 0, 0, 0, 0},
        };
        for (int kind = 0; kind < values.length; kind++) {
            TaxedByLongest x = Check.landOf("tw100;t" + letters.charAt(kind) + "523;y9;");
            Check.doAll(x, "011111111");
            for (int k = 0; k < 8; k++) {
                due("13: kind " + kind + ", its day " + (k + 1), x.worth(k + 1), values[kind][k]);
            }
        }
        TaxedByLongest low = Check.landOf("ti003;");
        due("13: below 0", low.worth(9), -3);
        due("13: below 0, doubled", Check.landOf("td003;").worth(9), -6);
        due("13: no such day", low.worth(10), AMOUNT + 1);
        due("13: no day below", low.worth(-1), AMOUNT + 1);
        due("13: refused", low.count(11), 2);
    }

    /** Promise 14. */
    private static void earning() {
        TaxedByLongest x = Check.landOf("tw521;tf700;y6;c3;");
        Check.doAll(x, "000011");
        due("14: 22 and 7 less 3", x.earned(), 26);
        Check.doAll(x, "010101");
        due("14: 36 less 15", x.earned(), 21);
        x.change(0);
        due("14: no cost", x.earned(), 36);
    }

    /** Promise 15, and the laws. */
    private static void paying() {
        TaxedByLongest x = Check.landOf("tw100;ts100;tr000;y11;");
        Check.doAll(x, "00012110000");
        duePays(x, 16, 9, 30, 36, 1, 11);
        Check.doAll(x, "00011122222");
        duePays(x, 9, 9, 18, 18, 9, 11);
        Check.doAll(x, "22222211111");
        duePays(x, 25, 0, 25, 9, 25, 11);
        Check.doAll(x, "22222222222");
        duePays(x, 0, 0, 0, 0, 0, 11);
        Check.doAll(x, "01110000222");
        duePays(x, 16, 9, 26, 27, 1, 11);
    }

    private static void duePays(TaxedByLongest x, int... sums) {
        for (int law = 0; law < sums.length; law++) {
            x.law(law);
            due("15: law " + law, x.pays(), sums[law]);
            due("23: law " + law, x.byLaw(law), sums[law]);
        }
        x.law(0);
    }

    /** Promise 16. */
    private static void leaving() {
        TaxedByLongest x = Check.landOf("tw500;tr000;y5;c2;");
        Check.doAll(x, "00100");
        due("16: 20 less 4 less 4", x.left(), 12);
        x.law(3);
        due("16: 20 less 4 less 18", x.left(), -2);
        x.law(5);
        due("16: 20 less 4 less 5", x.left(), 11);
    }

    /** Promise 17. */
    private static void allowing() {
        TaxedByLongest x = Check.landOf("tw900;tr000;y3;");
        due("17: one at most", x.allow(1), 16);
        due("17: two at most", x.allow(2), 17);
        due("17: three at most", x.allow(3), 27);
        due("17: more than there are", x.allow(20), 27);
        due("17: below", x.allow(0), AMOUNT + 4);
        due("17: far below", x.allow(LEAST), AMOUNT + 4);
        due("17: above", x.allow(21), AMOUNT + 6);
        x.bind(1, 1);
        due("17: a day is bound", x.allow(20), 16);
        x.bind(0, 1);
        due("17: another, too", x.allow(20), 8);
        TaxedByLongest one = Check.landOf("tw100;y2;");
        due("17: there is none", one.allow(1), -999);
        due("17: there is one", one.allow(2), 2);
        TaxedByLongest bound = Check.landOf("tw100;tw100;y3;b0,1;b1,1;");
        due("17: none by what is bound", bound.allow(1), -999);
        due("17: one by what is bound", bound.allow(2), 2);
        due("17: rests may be long", Check.landOf("tr000;y20;").allow(1), 0);
        due("17: feasts may be long", Check.landOf("tf900;y20;").allow(1), 9);
    }

    /** Promises 18 and 19. */
    private static void bests() {
        TaxedByLongest x = Check.landOf("tw900;tr000;y3;");
        dueBest(x, 18, 3, "000");
        x.bind(1, 1);
        dueBest(x, 15, 1, "010");
        due("18: no such what", x.best(2), AMOUNT + 2);
        due("18: no what below", x.best(-1), AMOUNT + 2);
        due("19: no such day", x.bestDay(3), -1);
        due("19: no day below", x.bestDay(-1), -1);
        due("18: refused", x.count(12), 2);
        TaxedByLongest same = Check.landOf("tw100;tw100;y2;c0;");
        dueBest(same, 1, 1, "01");
        same.bind(0, 1);
        dueBest(same, 1, 1, "10");
        // One at most leaves -1 less 1, two at most leave 2 less 4.
        dueBest(Check.landOf("tw100;tw100;y2;c3;"), -2, 1, "01");
        dueBest(Check.landOf("tw100;y2;"), -2, 2, "00");
        dueBest(Check.landOf("tr000;tf100;y4;c0;"), 1, 1, "0101");
        dueBest(Check.landOf("tf100;tr000;y4;c1;"), 0, 1, "0000");
    }

    private static void dueBest(TaxedByLongest x, int most, int limit, String year) {
        due("18: how much", x.best(0), most);
        due("18: l", x.best(1), limit);
        for (int day = 0; day < year.length(); day++) {
            due("19: day " + day + " of " + year, x.bestDay(day), year.charAt(day) - '0');
        }
    }

    /** Promise 20. */
    private static void breakings() {
        TaxedByLongest x = Check.landOf("tw100;tr000;y3;");
        due("20: in the middle", x.breaking(), 11);
        x.bind(1, 0);
        due("20: the least of two", x.breaking(), 1);
        x.bind(0, 0);
        due("20: the last", x.breaking(), 21);
        x.bind(2, 0);
        due("20: all are bound", x.breaking(), -9);
        due("20: nothing changes", x.done(1), 0);
        due("20: none leaves more", Check.landOf("tw900;tr000;y1;").breaking(), -9);
        due("20: one thing", Check.landOf("tw100;y9;").breaking(), -9);
        due("20: as much is not more", Check.landOf("tw100;tw100;y1;").breaking(), -9);
        due("20: by the law", Check.landOf("tw100;tr000;y3;l3;").breaking(), -9);
    }

    /** Promise 21. */
    private static void mores() {
        TaxedByLongest x = Check.landOf("tw100;tr000;y20;");
        due("21: a day more of the longest", x.more(0), -40);
        due("21: a rest", x.more(1), -1);
        x.law(5);
        due("21: a day more is taxed", x.more(0), 0);
        due("21: as many days as ahead", x.count(1), 20);
        due("21: no such thing", x.more(2), AMOUNT + 1);
        due("21: no thing below", x.more(-1), AMOUNT + 1);
        due("21: a habit begins", Check.landOf("tw130;y3;l3;").more(0), 4);
    }

    /** Promise 22. */
    private static void broughts() {
        TaxedByLongest x = Check.landOf("tw521;tf700;tr900;y6;c9;");
        Check.doAll(x, "000011");
        due("22: 5 5 5 7", x.brought(0), 22);
        due("22: a feast", x.brought(1), 7);
        due("22: never done", x.brought(2), 0);
        due("22: no such thing", x.brought(3), AMOUNT + 1);
        due("22: no thing below", x.brought(-1), AMOUNT + 1);
        Check.doAll(x, "010010");
        due("22: in parts", x.brought(0), 20);
        due("22: feasts", x.brought(1), 14);
    }

    /** Promise 23; its sums are looked at with promise 15. */
    private static void byLaws() {
        TaxedByLongest x = Check.landOf("tw100;l3;");
        due("23: another law", x.byLaw(0), 100);
        due("23: the law stays", x.count(3), 3);
        due("23: no such law", x.byLaw(6), -2);
        due("23: no law below", x.byLaw(-1), -2);
    }

    /** Promise 24. */
    private static void yearsCounted() {
        TaxedByLongest x = new TaxedByLongest();
        due("24: 010 and 101", x.years(3, 2, 1), 2);
        due("24: 001 and its like", x.years(3, 2, 2), 4);
        due("24: 000 and 111", x.years(3, 2, 3), 2);
        due("24: longer than the year", x.years(3, 2, 4), 0);
        due("24: one thing", x.years(4, 1, 4), 1);
        due("24: one thing, shorter", x.years(4, 1, 3), 0);
        long sum = 0;
        for (int l = 1; l <= 20; l++) {
            sum += x.years(20, 4, l);
        }
        due("24: all of them", sum, 1L << 40);
        due("24: the things that are told do not matter", Check.landOf("tr000;").years(2, 2, 2), 2);
        int[][] below = {{0, 1, 1}, {1, 0, 1}, {1, 1, 0}, {LEAST, 1, 1}, {21, 1, 0}, {0, 5, 1}};
        for (int[] v : below) {
            due("24: below", x.years(v[0], v[1], v[2]), LONG + 4);
        }
        int[][] above = {{21, 1, 1}, {1, 5, 1}, {1, 1, 21}, {GREATEST, GREATEST, GREATEST}};
        for (int[] v : above) {
            due("24: above", x.years(v[0], v[1], v[2]), LONG + 6);
        }
        due("24: refused -4", x.count(14), below.length);
        due("24: refused -6", x.count(16), above.length);
    }

    /** Promise 25. */
    private static void rows() {
        TaxedByLongest x = new TaxedByLongest();
        due("25: below", x.row(-1), -4);
        due("25: above", x.row(10), -6);
        for (int i = 1; i <= 20; i++) {
            due("25: number " + i, x.row(i % 10), i);
        }
        due("25: no room", x.row(0), -6);
        due("25: below comes ahead of no room", x.row(-1), -4);
        due("25: in the row", x.count(6), 20);
    }

    /** Promise 26. */
    private static void fittings() {
        TaxedByLongest x = Check.landOf("tw100;tr000;b0,1;");
        due("26: the row has none", x.fitting(1), LONG + 3);
        Check.row(x, "99");
        due("26: 00", x.fitting(4), 1);
        due("26: 01 and 10", x.fitting(1), 2);
        due("26: 11", x.fitting(0), 1);
        due("26: no law takes it", x.fitting(2), 0);
        due("26: too much", x.fitting(400), 0);
        due("26: below", x.fitting(-1), LONG + 4);
        due("26: above", x.fitting(401), LONG + 6);
        due("26: the row stays", x.count(6), 2);
        x.law(5);
        due("26: law 0 whatever the law", x.fitting(4), 1);
        x.judge();
        Check.row(x, "09");
        due("26: 00", x.fitting(4), 1);
        due("26: 01", x.fitting(1), 1);
        due("26: not 11", x.fitting(0), 0);
        x.judge();
        Check.row(x, "29");
        due("26: no such thing is known", x.fitting(1), 0);
        TaxedByLongest all = Check.landOf("tw100;tw100;tw100;tw100;");
        Check.row(all, "99999999999999999999");
        due("26: the longest there is", all.fitting(400), 4);
        due("26: as many as years of that kind", all.fitting(9), all.years(20, 4, 3));
    }

    /** Promise 27. */
    private static void likelihoods() {
        TaxedByLongest x = Check.landOf("tw100;tr000;");
        Check.row(x, "999");
        // 010, 011, 101, 110 pay 1.
        dueLikely(x, 1, 0, 0, 1, 2);
        dueLikely(x, 1, 1, 0, 1, 4);
        dueLikely(x, 1, 1, 1, 3, 4);
        dueLikely(x, 9, 2, 0, 1, 1);
        dueLikely(x, 9, 2, 1, 0, 1);
        dueLikely(x, 2, 0, 0, 0, 1);
        due("27: no such place", x.likely(1, 3, 0, 0), LONG + 1);
        due("27: no place below", x.likely(1, -1, 0, 0), LONG + 1);
        due("27: no such thing", x.likely(1, 0, 2, 0), LONG + 1);
        due("27: no thing below", x.likely(1, 0, -1, 0), LONG + 1);
        due("27: below", x.likely(-1, 0, 0, 0), LONG + 4);
        due("27: above", x.likely(401, 0, 0, 0), LONG + 6);
        due("27: no such part", x.likely(1, 0, 0, 2), LONG + 2);
        due("27: no part below", x.likely(1, 0, 0, -1), LONG + 2);
        due("27: the row stays", x.count(6), 3);
        x.judge();
        Check.row(x, "099");
        dueLikely(x, 1, 0, 0, 1, 1);
        dueLikely(x, 1, 0, 1, 0, 1);
        dueLikely(x, 1, 2, 0, 1, 2);
        dueLikely(x, 0, 2, 0, 0, 1);
    }

    private static void dueLikely(TaxedByLongest x, int sum, int day, int thing, long above, long below) {
        due("27: above the line, sum " + sum + " day " + day + " thing " + thing, x.likely(sum, day, thing, 0), above);
        due("27: below the line, sum " + sum + " day " + day + " thing " + thing, x.likely(sum, day, thing, 1), below);
    }

    /** Promise 28. */
    private static void judging() {
        TaxedByLongest x = Check.landOf("tw100;tw100;y3;d1,1;");
        dueJudged(x, "010", -9);
        dueJudged(x, "999", -9);
        dueJudged(x, "110", 0);
        dueJudged(x, "000", 1);
        dueJudged(x, "919", -9);
        dueJudged(x, "011", 2);
        dueJudged(x, "018", 2);
        dueJudged(x, "01", 2);
        dueJudged(x, "", 0);
        dueJudged(x, "0100", 3);
        dueJudged(x, "0200", 1);
        dueJudged(x, "1", 0);
    }

    private static void dueJudged(TaxedByLongest x, String row, int verdict) {
        Check.row(x, row);
        due("28: " + row, x.judge(), verdict);
        due("28: the row has none then", x.count(6), 0);
    }

    /** Promise 29. */
    private static void seeding() {
        // Each day of a year is worth its thing's worth; the tax is 1 for one day.
        TaxedByLongest x = Check.landOf("tw000;tw900;y1;");
        int sum = 0;
        for (int n = 1; n <= 8; n++) {
            sum += 9 * BELOW_TWO[n - 1] - 1;
            due("29: " + n + " years", x.seeds(n, 0), sum);
        }
        TaxedByLongest four = Check.landOf("tw000;tw100;tw200;tw300;y1;");
        sum = 0;
        for (int n = 1; n <= 8; n++) {
            sum += BELOW_FOUR[n - 1] - 1;
            due("29: " + n + " years of four things", four.seeds(n, -5), sum);
        }
        // A bound day takes no draw: the other day has them all.
        TaxedByLongest bound = Check.landOf("tw000;tw900;y2;b0,1;l5;c0;");
        sum = 0;
        for (int n = 1; n <= 8; n++) {
            sum += 9 + 9 * BELOW_TWO[n - 1] - 2;
            due("29: " + n + " years, a day bound", bound.seeds(n, 0), sum);
        }
        due("29: nothing changes", bound.done(1), 0);
        due("29: below", x.seeds(0, 0), AMOUNT + 4);
        due("29: above", x.seeds(21, 0), AMOUNT + 6);
        due("29: the most", Check.landOf("tr000;").seeds(20, GREATEST), 0);
    }

    /** Promises 30 and 31. */
    private static void images() {
        TaxedByLongest x = new TaxedByLongest();
        due("31: there is none", x.on(), -3);
        due("31: refused", x.count(13), 1);
        Check.tell(x, "tw123;y5;c4;l2;b1,0;");
        due("30: how many days", x.image(), 5);
        Check.tell(x, "ti321;y7;c5;l3;d0,1;b2,1;");
        x.letter('c');
        x.row(3);
        x.does(10, 0);
        due("31: how many days", x.on(), 5);
        int[] then = {1, 5, 4, 2, 0, 1, 1, 1};
        for (int what = 0; what < then.length; what++) {
            due("31: count(" + what + ")", x.count(what), then[what]);
        }
        due("31: refusals stay", x.count(11), 1);
        due("31: bound as then", x.bind(1, -1), 0);
        due("31: not bound as then", x.bind(2, -1), -9);
        due("31: kind", x.thing(0, 0), 0);
        due("31: worth", x.thing(0, 1), 1);
        due("31: habit", x.thing(0, 2), 2);
        due("31: weary", x.thing(0, 3), 3);
        due("31: once more", x.on(), 5);
        due("31: bound once more", x.bind(1, -1), 0);
        x.land();
        Check.tell(x, "c7;y6;tw000;d3,1;");
        due("30: taken anew", x.image(), 6);
        x.does(3, 0);
        x.change(0);
        due("31: the newer one", x.on(), 6);
        due("31: its change", x.count(2), 7);
        due("31: its day", x.done(3), 1);
    }

    /** Promise 32. */
    private static void counts() {
        TaxedByLongest x = Check.landOf("tw100;tr000;y4;c3;l2;b3,1;b2,0;");
        x.does(0, 1);
        x.row(9);
        x.letter('y');
        x.letter('y');
        int[] want = {2, 4, 3, 2, 2, 2, 1, 2};
        for (int what = 0; what < want.length; what++) {
            due("32: count(" + what + ")", x.count(what), want[what]);
        }
        x.done(9);
        x.law(9);
        x.law(9);
        x.does(3, 0);
        x.row(-1);
        x.allow(0);
        x.years(0, 0, 0);
        x.seeds(21, 0);
        x.fitting(401);
        int[] refused = {1, 2, 1, 3, 0, 2};
        for (int what = 11; what <= 16; what++) {
            due("32: count(" + what + ")", x.count(what), refused[what - 11]);
        }
        int[] others = {-1, 8, 9, 10, 17, LEAST, GREATEST};
        for (int what : others) {
            due("32: count(" + what + ")", x.count(what), -9);
        }
        due("32: another what is no refusal", x.count(12), 2);
    }

    /** The first that fits, in the order in which a method tells them. */
    private static void orderOfRefusals() {
        TaxedByLongest x = new TaxedByLongest();
        due("worth: -1 ahead of -3", x.worth(10), AMOUNT + 1);
        due("allow: -4 ahead of -3", x.allow(0), AMOUNT + 4);
        due("allow: -6 ahead of -3", x.allow(21), AMOUNT + 6);
        due("best: -2 ahead of -3", x.best(2), AMOUNT + 2);
        due("bestDay: -1 ahead of -3", x.bestDay(10), -1);
        due("byLaw: -2 ahead of -3", x.byLaw(6), -2);
        due("fitting: -4 ahead of -3", x.fitting(-1), LONG + 4);
        due("fitting: -6 ahead of -3", x.fitting(401), LONG + 6);
        due("likely: -1 ahead of -4", x.likely(-1, 0, 0, 2), LONG + 1);
        due("seeds: -4 ahead of -3", x.seeds(0, 0), AMOUNT + 4);
        due("seeds: -6 ahead of -3", x.seeds(21, 0), AMOUNT + 6);
        Check.tell(x, "tw100;");
        x.row(9);
        due("likely: -4 ahead of -2", x.likely(-1, 0, 0, 2), LONG + 4);
        due("likely: -6 ahead of -2", x.likely(401, 0, 0, 2), LONG + 6);
    }

    private static void withoutThings() {
        TaxedByLongest x = new TaxedByLongest();
        x.row(9);
        due("thing", x.thing(0, 0), -1);
        due("does", x.does(0, 0), -1);
        due("bind", x.bind(0, 0), -1);
        due("stretch", x.stretch(4, 0), 10);
        due("which day of it", x.stretch(4, 1), 5);
        due("worth", x.worth(0), AMOUNT + 3);
        due("earned", x.earned(), AMOUNT + 3);
        due("pays", x.pays(), -3);
        due("left", x.left(), AMOUNT + 3);
        due("allow", x.allow(1), AMOUNT + 3);
        due("best", x.best(0), AMOUNT + 3);
        due("bestDay", x.bestDay(0), -3);
        due("breaking", x.breaking(), -3);
        due("more", x.more(0), AMOUNT + 1);
        due("brought", x.brought(0), AMOUNT + 1);
        due("byLaw", x.byLaw(0), -3);
        due("fitting", x.fitting(1), LONG + 3);
        due("likely", x.likely(1, 0, 0, 0), LONG + 1);
        due("seeds", x.seeds(1, 1), AMOUNT + 3);
        due("judge", x.judge(), 1);
        due("refused -3", x.count(13), 11);
        due("refused -1", x.count(11), 6);
    }
}
