/** What the tests share: answers against those that are due, and letters told as a text. */
final class Check {
    private int looked = 0;
    private int wrong = 0;

    void due(String what, long got, long want) {
        looked++;
        if (got != want) {
            wrong++;
            if (wrong <= 40) {
                System.out.println(what + " answered " + got + ", due is " + want);
            }
        }
    }

    void holds(String what, boolean isSo) {
        due(what, isSo ? 1 : 0, 1);
    }

    boolean isFaultless() {
        return wrong == 0;
    }

    void end() {
        System.out.println(wrong == 0 ? looked + " answers are as due" : wrong + " of " + looked + " are not as due");
        if (wrong != 0 || looked == 0) {
            System.exit(1);
        }
    }

    /** Tells a text letter by letter, and lets it become a land. */
    static int tell(TaxedByLongest x, String text) {
        for (int i = 0; i < text.length(); i++) {
            x.letter(text.charAt(i));
        }
        return x.land();
    }

    static TaxedByLongest landOf(String text) {
        TaxedByLongest x = new TaxedByLongest();
        int answer = tell(x, text);
        if (answer < 1) {
            throw new IllegalStateException(text + " is no land: " + answer);
        }
        return x;
    }

    /** Tells a year as one digit a day; the days are there already. */
    static void doAll(TaxedByLongest x, String year) {
        for (int day = 0; day < year.length(); day++) {
            if (x.does(day, year.charAt(day) - '0') < 0) {
                throw new IllegalStateException("day " + day + " of " + year + " is refused");
            }
        }
    }

    static void row(TaxedByLongest x, String row) {
        for (int i = 0; i < row.length(); i++) {
            x.row(row.charAt(i) - '0');
        }
    }
}
