/** Terms I, as far as a LAND is told in letters, and its FAULTS; promises 2 and 3. */
public final class TermsLandTest {
    /** One statement of each kind, with each length that it may have. */
    private static final String[] STATEMENTS = {"tw933;", "tr000;", "y9;", "y10;", "d1,1;", "d02,0;", "b3,1;", "b04,9;", "c9;", "l5;"};
    private static final String FULL = "y20;".repeat(20);

    public static void main(String[] args) throws Exception {
        Check.run(TermsLandTest.class);
    }

    private static void due(String text, long want) {
        new Run().land(text, want);
    }

    // What a land is.

    @Says(promise = 3, words = {"A LAND is told in letters, one by one (80 at most):"})
    static void eightyLettersBecomeALand() {
        new Run().letters(FULL).due("count(7)", 80).due("land()", 20).due("count(1)", 20);
    }

    @Says(promise = 2, words = {"A LAND is told in letters, one by one (80 at most):"})
    static void the81stLetterIsNoLetterOfTheLand() {
        new Run().letters(FULL + "c").due("count(7)", 80).due("land()", 20);
    }

    @Says(promise = 3, words = {"A LAND is told in letters, one by one (80 at most):"})
    static void whatLacksBehind80LettersIsAFaultAtPlace80() {
        new Run().letters(FULL.substring(4) + "c1;c").due("count(7)", 80).due("land()", -1080);
        new Run().letters(FULL.substring(4) + "d20,0;").due("count(7)", 80).due("land()", -1080);
    }

    @Says(promise = 3, words = {"STATEMENTS, each with \";\" behind:"})
    static void eachStatementHasItsSemicolon() {
        for (String statement : STATEMENTS) {
            String bare = statement.substring(0, statement.length() - 1);
            Run.of("tw100;tw100;").land(bare, -1000 - bare.length()).land(statement, 1);
            Run.of("tw100;tw100;").land(statement + ";", -1000 - statement.length());
            Run.of("tw100;tw100;").land(";" + statement, -1000);
        }
        due("c1;c2;c3;", 3);
        due("c1;c2c3;", -1005);
        due("c1,c2;", -1002);
    }

    @Says(promise = 3, words = {"\"t\" a letter of a KIND, WORTH, HABIT, WEARY (a digit each): a THING more;"})
    static void tTellsAThingMore() {
        Run x = new Run().land("tf923;", 1).due("count(0)", 1);
        x.due("thing(0, 0)", 5).due("thing(0, 1)", 9).due("thing(0, 2)", 2).due("thing(0, 3)", 3);
        x.land("ti410;", 1).due("count(0)", 2).due("thing(1, 0)", 3).due("thing(1, 1)", 4).due("thing(0, 1)", 9);
    }

    @Says(promise = 3, words = {"\"t\" a letter of a KIND, WORTH, HABIT, WEARY (a digit each): a THING more;"})
    static void noOtherLetterIsAKind() {
        for (char letter = 0; letter <= 255; letter++) {
            due("t" + letter + "000;", "wrsidf".indexOf(letter) < 0 ? -1001 : 1);
        }
    }

    @Says(promise = 3, words = {"\"t\" a letter of a KIND, WORTH, HABIT, WEARY (a digit each): a THING more;"})
    static void aThingHasJustThreeDigits() {
        due("tw;", -1002);
        due("tw0;", -1003);
        due("tw00;", -1004);
        due("tw0000;", -1005);
    }

    @Says(promise = 3, words = {"\"y\" how many DAYS (1 or 2 digits): all DONE is 0 then, nothing BOUND;"})
    static void yHasOneOrTwoDigits() {
        due("y;", -1001);
        due("y7;", 1);
        due("y17;", 1);
        due("y017;", -1003);
        due("y123;", -1003);
    }

    @Says(promise = 3, words = {"\"y\" how many DAYS (1 or 2 digits): all DONE is 0 then, nothing BOUND;"})
    static void yDoesAndBindsAnew() {
        Run x = Run.of("tw100;tw100;y3;").year("111").due("bind(1, 1)", -9).due("bind(2, 0)", -9);
        x.land("y3;", 1).dueEach("done", 0, 0, 0, -1).due("count(5)", 0).due("does(1, 0)", 0).due("bind(2, -1)", -9);
    }

    @Says(promise = 3, words = {"\"y\" how many DAYS (1 or 2 digits): all DONE is 0 then, nothing BOUND;"})
    static void yLeavesNothingBehindItsLastDay() {
        Run x = Run.of("tw100;tw100;y20;").due("does(19, 1)", 0).due("bind(18, 1)", -9);
        x.tell("y1;").due("count(1)", 1).due("count(5)", 0).due("done(1)", -1).due("count(4)", 0);
        x.tell("y20;").due("done(19)", 0).due("done(18)", 0).due("count(5)", 0).due("longest()", 20);
    }

    @Says(promise = 3, words = {"\"y\" how many DAYS (1 or 2 digits): all DONE is 0 then, nothing BOUND;"})
    static void yLeavesAllElse() {
        Run x = Run.of("tw123;tr100;c7;l4;").row("12").tell("y5;");
        x.dueEach("count", 2, 5, 7, 4, 0, 0, 2, 0).due("thing(0, 3)", 3);
    }

    @Says(promise = 3, words = {"\"d\" a DAY (1 or 2 digits) \",\" a THING (a digit): DONE on it;"})
    static void dIsDone() {
        Run.of("tw100;tw100;tw100;tw100;y12;").land("d0,3;d11,1;d05,2;", 3).dueEach("done", 3, 0, 0, 0, 0, 2, 0, 0, 0, 0, 0, 1)
                .due("count(5)", 0).due("does(0, 1)", 3);
        Run.of("tw100;tw100;").land("d4,1;d4,0;", 2).due("done(4)", 0);
    }

    @Says(promise = 3, words = {"\"d\" a DAY (1 or 2 digits) \",\" a THING (a digit): DONE on it;"})
    static void dHasOneOrTwoDigitsAndOne() {
        due("tw100;d0,0;", 2);
        due("tw100;d00,0;", 2);
        due("tw100;d000,0;", -1009);
        due("tw100;d,0;", -1007);
        due("tw100;d0,;", -1009);
        due("tw100;d0,00;", -1010);
        due("tw100;d0;", -1008);
        due("tw100;d00;", -1009);
    }

    @Says(promise = 3, words = {"\"b\" a DAY \",\" a THING: BOUND to it, and DONE (9: not BOUND any more);"})
    static void bIsBoundAndDone() {
        Run x = Run.of("tw100;tw100;y12;").land("b11,1;b02,1;b0,0;", 3).due("count(5)", 3);
        x.due("done(11)", 1).due("done(2)", 1).due("done(0)", 0).due("does(11, 0)", -3).due("does(2, 0)", -3).due("does(0, 1)", -3);
    }

    @Says(promise = 3, words = {"\"b\" a DAY \",\" a THING: BOUND to it, and DONE (9: not BOUND any more);"})
    static void bBindsABoundDayToAnother() {
        Run.of("tw100;tw100;").land("b4,1;b4,0;", 2).due("count(5)", 1).due("done(4)", 0).due("bind(4, -1)", 0);
        Run.of("tw100;tw100;b4,1;").land("b4,0;", 1).due("bind(4, -1)", 0);
    }

    @Says(promise = 3, words = {"\"b\" a DAY \",\" a THING: BOUND to it, and DONE (9: not BOUND any more);"})
    static void b9IsNotBoundAnyMore() {
        Run.of("tw100;tw100;b4,1;").land("b4,9;", 1).due("count(5)", 0).due("done(4)", 1).due("does(4, 0)", 1);
    }

    @Says(promise = 3, words = {"\"b\" a DAY \",\" a THING: BOUND to it, and DONE (9: not BOUND any more);"})
    static void b9NeedsNoThingsAndNoBoundDay() {
        new Run().land("b9,9;", 1).due("count(5)", 0);
        Run.of("tw100;tw100;d3,1;").land("b3,9;", 1).due("count(5)", 0).due("done(3)", 1);
    }

    @Says(promise = 3, words = {"\"b\" a DAY \",\" a THING: BOUND to it, and DONE (9: not BOUND any more);"})
    static void bHasOneOrTwoDigitsAndOne() {
        due("b00,9;", 1);
        due("b000,9;", -1003);
        due("b,9;", -1001);
        due("b0,;", -1003);
        due("b0,99;", -1004);
        due("b0;", -1002);
        due("b0,-1;", -1003);
    }

    @Says(promise = 3, words = {"\"c\" CHANGE (a digit);"})
    static void cHasOneDigit() {
        for (int change = 0; change <= 9; change++) {
            new Run().land("c" + change + ";", 1).due("count(2)", change);
        }
        due("c;", -1001);
        due("c10;", -1002);
        due("c-1;", -1001);
    }

    @Says(promise = 3, words = {"\"l\" LAW (a digit, 0 .. 5)."})
    static void lHasOneDigitFrom0To5() {
        for (int law = 0; law <= 9; law++) {
            new Run().land("l" + law + ";", law <= 5 ? 1 : -2000).due("count(3)", law <= 5 ? law : 0);
        }
        due("l;", -1001);
        due("l05;", -1002);
    }

    @Says(promise = 3, words = {"Numbers may begin with 0."})
    static void numbersMayBeginWith0() {
        new Run().land("y01;", 1).due("count(1)", 1);
        new Run().land("y09;", 1).due("count(1)", 9);
        Run.of("tw100;tw100;").land("d00,1;d09,1;b08,1;", 3).due("done(0)", 1).due("done(9)", 1).due("bind(8, -1)", 1);
    }

    @Says(promise = 3, words = {"At least one STATEMENT."})
    static void noLettersAreNoLand() {
        new Run().due("land()", -1000);
        Run.of("c1;").due("land()", -1000);
        due(";", -1000);
    }

    // Faults of kind 1.

    @Says(promise = 3, words = {"FAULT: kind 1 the place of the first letter with which no LAND can go on"})
    static void noStatementBeginsWithAnotherLetter() {
        for (char letter = 0; letter <= 255; letter++) {
            boolean begins = "tydbcl".indexOf(letter) >= 0;
            due("" + letter, begins ? -1001 : -1000);
            due("c1;" + letter, begins ? -1004 : -1003);
        }
    }

    @Says(promise = 3, words = {"FAULT: kind 1 the place of the first letter with which no LAND can go on"})
    static void aWrongLetterIsToldWhereverItStands() {
        String text = String.join("", STATEMENTS);
        for (int place = 0; place < text.length(); place++) {
            for (char wrong : new char[] {'x', ' ', 'T', (char) 0, (char) 233, (char) 255}) {
                due(text.substring(0, place) + wrong + text.substring(place + 1), -1000 - place);
            }
        }
    }

    @Says(promise = 3, words = {"FAULT: kind 1 the place of the first letter with which no LAND can go on"})
    static void theSignsBesideTheDigitsAreNone() {
        String text = String.join("", STATEMENTS);
        for (int place = 0; place < text.length(); place++) {
            if (Character.isDigit(text.charAt(place))) {
                due(text.substring(0, place) + "/" + text.substring(place + 1), -1000 - place);
                due(text.substring(0, place) + ":" + text.substring(place + 1), -1000 - place);
            }
        }
    }

    @Says(promise = 3, words = {"FAULT: kind 1 the place of the first letter with which no LAND can go on"})
    static void theFirstOfTwoWrongLettersIsTold() {
        due("c1;cx;xx", -1004);
        due("qc1;q", -1000);
    }

    @Says(promise = 3, words = {"FAULT: kind 1 the place of the first letter with which no LAND can go on"})
    static void aWrongLetterAtTheLastPlace() {
        new Run().letters(FULL.substring(1)).due("land()", -1000);
        due(FULL.substring(0, 79) + "x", -1079);
        due(FULL.substring(0, 76) + "c1;x", -1079);
    }

    @Says(promise = 3, words = {"(the end, if something lacks): -1000 less the place;"})
    static void whatLacksIsToldAtTheEnd() {
        String text = String.join("", STATEMENTS);
        for (int end = 0; end <= text.length(); end++) {
            String cut = text.substring(0, end);
            boolean isWhole = cut.endsWith(";");
            Run.of("tw100;tw100;").land(cut, isWhole ? cut.split(";").length : -1000 - end);
        }
    }

    // Faults of kind 2.

    @Says(promise = 3, words = {"(a number out of range,"})
    static void aNumberOutOfRange() {
        due("y0;", -2000);
        due("y00;", -2000);
        due("y21;", -2000);
        due("y99;", -2000);
        due("l6;", -2000);
        due("l9;", -2000);
        due("tw040;", -2000);
        due("tw004;", -2000);
        due("tr990;", -2000);
        due("tf909;", -2000);
    }

    @Says(promise = 3, words = {"no such DAY, THING ahead of it,"})
    static void noSuchDay() {
        Run.of("tw100;").land("d9,0;", 1).land("d10,0;", -2000).land("b10,0;", -2000).land("b10,9;", -2000).land("d99,0;", -2000);
        Run.of("tw100;y1;").land("b0,0;", 1).land("b1,0;", -2000).land("d1,0;", -2000);
        Run.of("tw100;y20;").land("d19,0;b19,0;", 2).land("d20,0;", -2000).land("b20,0;", -2000).land("b20,9;", -2000);
    }

    @Says(promise = 3, words = {"no such DAY, THING ahead of it,"})
    static void noSuchThing() {
        due("d0,0;", -2000);
        due("b0,0;", -2000);
        Run.of("tw100;").land("d0,1;", -2000).land("b0,1;", -2000).land("d0,9;", -2000).land("b0,8;", -2000);
        Run.of("tw100;tw100;tw100;tw100;").land("d0,3;b0,3;", 2).land("d1,4;", -2000).land("b1,4;", -2000);
    }

    @Says(promise = 3, words = {"no such DAY, THING ahead of it,"})
    static void dayAndThingHaveToBeAheadInTheText() {
        due("d0,0;tw100;", -2000);
        due("tw100;d0,0;", 2);
        due("tw100;d10,0;y11;", -2006);
        due("tw100;y11;d10,0;", 3);
        due("tw100;y5;d5,0;", -2009);
        due("tw100;y5;y6;d5,0;", 4);
        due("tw100;b0,1;tw100;", -2006);
    }

    @Says(promise = 3, words = {"\"d\" of a DAY that is BOUND to another THING,"})
    static void dOfADayThatIsBoundToAnother() {
        due("tw100;tw100;b3,1;d3,0;", -2017);
        due("tw100;tw100;b3,0;d3,1;", -2017);
        Run.of("tw100;tw100;b3,1;").land("d3,0;", -2000).due("done(3)", 1);
        new Run().tell("tw100;tw100;").due("bind(3, 1)", -9).land("d3,0;", -2000);
    }

    @Says(promise = 3, words = {"\"d\" of a DAY that is BOUND to another THING,"})
    static void dOfADayThatIsBoundToTheSameOrNoMore() {
        due("tw100;tw100;b3,1;d3,1;", 4);
        due("tw100;tw100;b3,1;b3,9;d3,0;", 5);
        due("tw100;tw100;b3,1;y10;d3,0;", 5);
        due("tw100;tw100;b3,1;b3,0;d3,0;", 5);
        due("tw100;tw100;b3,1;d2,0;d4,0;", 5);
    }

    @Says(promise = 3, words = {"no room): -2000 less the place."})
    static void noRoomForAThing() {
        due("tw100;tr000;ts000;ti000;td000;", -2024);
        Run.of("tw100;tr000;ts000;").land("c1;ti000;td000;", -2009).due("count(0)", 3);
    }

    @Says(promise = 3, words = {"else kind 2 the place of the first letter of the first STATEMENT that, behind all ahead of it in the text,"
        + " is not as it must be"})
    static void theFirstOfTwoWrongStatementsIsTold() {
        due("l6;y0;", -2000);
        due("c1;y0;l6;", -2003);
        due("c1;l0;y5;d1,0;y0;", -2009);
        due("y20;".repeat(19) + "y21;", -2076);
    }

    @Says(promise = 3, words = {"else kind 2 the place of the first letter of the first STATEMENT that, behind all ahead of it in the text,"
        + " is not as it must be"})
    static void kind1GoesAheadOfKind2() {
        due("l6;x", -1003);
        due("l6;y", -1004);
        due("y0;c1;d0,0", -1010);
        due("y20;".repeat(18) + "c1;l6;l5", -1080);
        due("tw999", -1005);
        due("l6", -1002);
        due("y21", -1003);
    }

    @Says(promise = 3, words = {"Without FAULT all of it comes, with one nothing."})
    static void allOfItComes() {
        Run x = new Run().land("tw123;ts200;y12;c7;l4;d3,1;b11,1;b0,1;b0,9;", 9);
        Check.due("state", x.state(), "2 12 7 4 4 1 0 0; 0 1 2 3 2 2 0 0"
                + " 1/-9 0/-9 0/-9 1/-9 0/-9 0/-9 0/-9 0/-9 0/-9 0/-9 0/-9 1/1");
    }

    @Says(promise = 3, words = {"Without FAULT all of it comes, with one nothing."})
    static void withAFaultNothingComes() {
        String[] faults = {"tw100;y3;c5;l2;d1,2;", "tw100;y3;c5;l2;d1,1", "ts100;b4,0;d4,1;l6;", "c9;c", "tw100;b2,9;y0;", "b2,9;x",
            "d3,0;d10,0;", "y20;y21;", "l5;l6;", "tr000;tr000;tr000;tr000;"};
        for (String fault : faults) {
            Run x = Run.of("tw100;b2,0;").due("does(4, 0)", 0);
            String before = x.state();
            x.letters(fault);
            Check.holds(fault + " is a fault", x.ask("land()") <= -1000);
            Check.due("state behind " + fault, x.state(), before);
        }
    }

    // Promise 2.

    @Says(promise = 2, words = {"A letter (0 .. 255) comes: how many there are."})
    static void theFirstLetterIs1() {
        new Run().due("letter(99)", 1).due("letter(49)", 2).due("count(7)", 2);
    }

    @Says(promise = 2, words = {"A letter (0 .. 255) comes: how many there are."})
    static void allLettersFrom0To255Come() {
        Run x = new Run();
        for (int letter = 0; letter <= 255; letter++) {
            x.due("letter(" + letter + ")", letter % 64 + 1);
            if (letter % 64 == 63) {
                x.ask("land()");
            }
        }
    }

    @Says(promise = 2, words = {"-4;"})
    static void aLetterBelow0IsRefused() {
        Run x = new Run().due("letter(-1)", -4).due("letter(" + Run.LEAST + ")", -4).due("count(7)", 0);
        Check.due("refusals", x.refusals(), "0 0 0 2 0 0");
    }

    @Says(promise = 2, words = {"-6 (255;"})
    static void aLetterAbove255IsRefused() {
        Run x = new Run().due("letter(256)", -6).due("letter(" + Run.GREATEST + ")", -6).due("count(7)", 0);
        Check.due("refusals", x.refusals(), "0 0 0 0 0 2");
    }

    @Says(promise = 2, words = {"80, too)."})
    static void the81stLetterIsRefused() {
        Run x = new Run();
        for (int i = 1; i <= 80; i++) {
            x.due("letter(255)", i);
        }
        x.due("letter(255)", -6).due("letter(0)", -6).due("letter(256)", -6).due("count(7)", 80);
        Check.due("refusals", x.refusals(), "0 0 0 0 0 3");
    }

    @Says(promise = 2, words = {"-4; -6 (255; 80, too)."})
    static void belowComesAheadOfNoRoom() {
        new Run().letters(FULL).due("letter(-1)", -4).due("count(14)", 1).due("count(16)", 0);
    }

    @Says(promise = 2, words = {"-4; -6 (255; 80, too)."})
    static void aRefusedLetterDoesNotCome() {
        new Run().letters("c5").due("letter(-59)", -4).due("letter(315)", -6).letters(";").due("land()", 1).due("count(2)", 5);
    }

    // Promise 3.

    @Says(promise = 3, words = {"The letters become a LAND, and are no more"})
    static void lettersAreNoMoreBehindALand() {
        new Run().letters("c5;").due("land()", 1).due("count(7)", 0).due("land()", -1000).due("letter(121)", 1);
    }

    @Says(promise = 3, words = {"(with a FAULT neither): how many STATEMENTS;"})
    static void lettersAreNoMoreBehindAFault() {
        new Run().letters("c").due("land()", -1001).due("count(7)", 0).letters("5;").due("land()", -1000);
        new Run().letters("y0;").due("land()", -2000).due("count(7)", 0).letters("c5;").due("land()", 1);
        Run full = new Run().letters("c".repeat(80)).due("land()", -1001).letters(FULL).due("land()", 20);
        full.due("count(16)", 0);
    }

    @Says(promise = 3, words = {"(with a FAULT neither): how many STATEMENTS;"})
    static void howManyStatements() {
        due("c1;", 1);
        due("c1;".repeat(26), 26);
        due("c1;c1;tw100;y5;", 4);
    }

    @Says(promise = 3, words = {"the FAULT (nothing is counted)."})
    static void aFaultIsNoRefusal() {
        String[] faults = {"", "x", "c", "y0;", "d0,0;", "d10,0;", "b0,0;", "l6;", "tw040;"};
        for (String fault : faults) {
            Run x = new Run().letters(fault);
            x.ask("land()");
            Check.due("refusals behind " + fault, x.refusals(), "0 0 0 0 0 0");
        }
    }
}
