/** Promise 3: what letters become a land, and where the fault is if they don't. */
public final class LandTest {
    private static final Check CHECK = new Check();

    public static void main(String[] args) {
        lands();
        whatComes();
        firstKindOfFault();
        secondKindOfFault();
        firstKindComesFirst();
        withFaultNothingComes();
        manyLetters();
        CHECK.end();
    }

    private static void due(String text, long want) {
        CHECK.due("3: " + text, Check.tell(new TaxedByLongest(), text), want);
    }

    private static void lands() {
        due("tw000;", 1);
        due("tw933;tr933;ts933;ti933;", 4);
        due("td000;tf000;", 2);
        due("y1;", 1);
        due("y01;", 1);
        due("y20;", 1);
        due("c0;c9;", 2);
        due("l0;l5;", 2);
        due("tw000;d0,0;d09,0;", 3);
        due("tw000;b0,0;b0,9;b9,9;", 4);
        due("b0,9;", 1);
        due("tw000;tw000;b1,0;d1,0;b1,1;d1,1;b1,9;d1,0;", 8);
        due("tw000;y11;d10,0;", 3);
        due("y3;y12;tw000;d11,0;", 4);
    }

    private static void whatComes() {
        TaxedByLongest x = Check.landOf("tw100;ts200;y12;c7;l4;d3,1;b11,1;b0,1;b0,9;");
        int[] counts = {2, 12, 7, 4, 4, 1, 0, 0};
        for (int what = 0; what < counts.length; what++) {
            CHECK.due("3: count(" + what + ")", x.count(what), counts[what]);
        }
        CHECK.due("3: done", x.done(3), 1);
        CHECK.due("3: bound and done", x.done(11), 1);
        CHECK.due("3: not bound any more, but done", x.done(0), 1);
        CHECK.due("3: a second land goes on from the first", Check.tell(x, "ti300;d3,2;"), 2);
        CHECK.due("3: its thing is behind", x.thing(2, 1), 3);
        CHECK.due("3: what was bound is", Check.tell(x, "d11,0;"), -2000);
        CHECK.due("3: a new year", Check.tell(x, "y12;"), 1);
        CHECK.due("3: all done is 0", x.count(4) + x.done(3), 0);
        CHECK.due("3: nothing is bound", x.count(5), 0);
        CHECK.due("3: the rest stays", x.count(2), 7);
    }

    private static void firstKindOfFault() {
        due("", -1000);
        due("x", -1000);
        due(";", -1000);
        due("T", -1000);
        due(" tw000;", -1000);
        due("t", -1001);
        due("tq000;", -1001);
        due("tW000;", -1001);
        due("tw", -1002);
        due("tw;", -1002);
        due("tw0;", -1003);
        due("tw00;", -1004);
        due("tw000", -1005);
        due("tw0000;", -1005);
        due("tw000;;", -1006);
        due("tw000;q", -1006);
        due("y", -1001);
        due("y;", -1001);
        due("y1", -1002);
        due("y1,", -1002);
        due("y12", -1003);
        due("y123;", -1003);
        due("y-1;", -1001);
        due("d", -1001);
        due("d,", -1001);
        due("d1", -1002);
        due("d1;", -1002);
        due("d12", -1003);
        due("d123", -1003);
        due("d1,", -1003);
        due("d1,;", -1003);
        due("d12,", -1004);
        due("d1,0", -1004);
        due("d1,00;", -1004);
        due("b1,9", -1004);
        due("b1,-1;", -1003);
        due("c", -1001);
        due("c;", -1001);
        due("c1", -1002);
        due("c10;", -1002);
        due("l", -1001);
        due("l/;", -1001);
        due("l:;", -1001);
        due("l12;", -1002);
        due("c1;" + (char) 0, -1003);
        due("c1;" + (char) 255, -1003);
        due("t" + (char) 233 + "000;", -1001);
    }

    private static void secondKindOfFault() {
        due("tw040;", -2000);
        due("tw004;", -2000);
        due("tw000;tr090;", -2006);
        due("y0;", -2000);
        due("y00;", -2000);
        due("y21;", -2000);
        due("y99;", -2000);
        due("l6;", -2000);
        due("c1;l9;", -2003);
        due("d0,0;", -2000);
        due("b0,0;", -2000);
        due("d0,0;tw000;", -2000);
        due("tw000;d0,1;tw000;", -2006);
        due("tw000;d10,0;", -2006);
        due("tw000;b10,0;", -2006);
        due("b10,9;", -2000);
        due("tw000;d0,9;", -2006);
        due("tw000;b0,8;", -2006);
        due("tw000;y5;d5,0;", -2009);
        due("tw000;d10,0;y11;", -2006);
        due("tw000;tw000;b3,1;d3,0;", -2017);
        due("tw000;tw000;b3,1;y10;d3,0;", 5);
        due("tw000;tr000;ts000;ti000;td000;", -2024);
        due("l6;y0;", -2000);
    }

    private static void firstKindComesFirst() {
        due("l6;x", -1003);
        due("y0;y", -1004);
        due("tw999", -1005);
    }

    private static void withFaultNothingComes() {
        String[] faults = {"tw100;y3;c5;l2;d1,2;", "tw100;y3;c5;l2;d1,1", "ts100;b4,0;d4,1;l6;", "c9;c", "tw100;b2,9;y0;"};
        for (String fault : faults) {
            TaxedByLongest x = Check.landOf("tw100;b2,0;");
            CHECK.holds("3: a fault: " + fault, Check.tell(x, fault) <= -1000);
            int[] counts = {1, 10, 1, 0, 0, 1, 0, 0};
            for (int what = 0; what < counts.length; what++) {
                CHECK.due("3: count(" + what + ") behind " + fault, x.count(what), counts[what]);
            }
            for (int what = 11; what <= 16; what++) {
                CHECK.due("3: nothing is counted", x.count(what), 0);
            }
            CHECK.due("3: the letters are no more", x.land(), -1000);
        }
    }

    private static void manyLetters() {
        StringBuilder full = new StringBuilder();
        for (int i = 0; i < 26; i++) {
            full.append("c").append(i % 10).append(";");
        }
        due(full.toString(), 26);
        due(full + "c", -1079);
        due(full + "c1", -1080);
        due(full + "c1;", -1080);
        TaxedByLongest x = new TaxedByLongest();
        CHECK.due("3: 80 letters", Check.tell(x, "y10;y10;" + full.substring(0, 72)), 26);
        CHECK.due("3: none was refused", x.count(16), 0);
    }
}
