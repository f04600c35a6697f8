/** For each promise of the document ordinary calls, the edges that it names, and calls that are refused. */
public final class PromisesTest {
    private static final int NONE = ClothSchool.NONE;

    public static void main(String[] args) {
        newObject();
        body();
        cloth();
        colour();
        end();
        feed();
        styleNumbers();
        styleFaults();
        styleLimits();
        drapeAnswers();
        drapeBreaks();
        drapeOrderOfBreaks();
        drapeSteps();
        drapeReckoning();
        drapeRows();
        drapeIsKept();
        shows();
        layers();
        layer();
        look();
        hanging();
        strength();
        stretchAndPull();
        moves();
        movesKeepStretches();
        movesAndPins();
        after();
        fix();
        breaths();
        shortest();
        solve();
        read();
        readRefused();
        wrote();
        count();
        nothingDraped();
        Due.close();
    }

    /** A body of rings of one cell, one of rings 1 to 8, a cloth of 40 cells and one row, one of 60 and two. */
    private static ClothSchool school() {
        ClothSchool x = new ClothSchool();
        x.body(1, 1, 1, 1, 1, 1, 1, 1);
        x.body(1, 2, 3, 4, 5, 6, 7, 8);
        x.cloth(40, 1);
        x.cloth(60, 2);
        return x;
    }

    /** Drapes a text on body b with cloth c in a school that may have ten styles of its own. */
    private static int drape(ClothSchool x, String text, int b, int c, int z) {
        return x.drape(Due.style(x, text), b, c, z);
    }

    private static ClothSchool draped(String text, int b, int c) {
        ClothSchool x = school();
        drape(x, text, b, c, 0);
        return x;
    }

    private static int why(String text, int b, int c) {
        return drape(school(), text, b, c, 0);
    }

    private static void newObject() {
        Due.is("NONE", -1, ClothSchool.NONE);
        ClothSchool x = new ClothSchool();
        for (int what = 0; what < 4; what++) {
            Due.is("1: count " + what, 0, x.count(what));
        }
        Due.is("1: look", NONE, x.look(0));
        Due.is("1: wrote", NONE, x.wrote(0));
        Due.is("1: slipped", NONE, x.slipped(0));
        x.body(1, 1, 1, 1, 1, 1, 1, 1);
        Due.is("1: another object has its own bodies", 0, new ClothSchool().count(0));
    }

    private static void body() {
        ClothSchool x = new ClothSchool();
        int[] w = {1, 2, 3, 4, 5, 6, 7, 9};
        for (int r = 0; r < 8; r++) {
            for (int off : new int[] {0, 10, -1, Integer.MIN_VALUE, Integer.MAX_VALUE}) {
                int[] v = w.clone();
                v[r] = off;
                Due.is("2: width " + off, NONE, x.body(v[0], v[1], v[2], v[3], v[4], v[5], v[6], v[7]));
            }
        }
        Due.is("2: none there", 0, x.count(0));
        for (int b = 0; b < 6; b++) {
            Due.is("2: body " + b, b, x.body(b + 1, 2, 3, 4, 5, 6, 7, 9));
        }
        Due.is("2: seventh", NONE, x.body(9, 9, 9, 9, 9, 9, 9, 9));
        Due.is("2: six there", 6, x.count(0));
        Due.is("2: body 5 as it was", 6, x.count(50));
        Due.is("2: body 5 as it was", 9, x.count(57));
    }

    private static void cloth() {
        ClothSchool x = new ClothSchool();
        Due.is("3: length 9", NONE, x.cloth(9, 1));
        Due.is("3: length 401", NONE, x.cloth(401, 1));
        Due.is("3: height 0", NONE, x.cloth(10, 0));
        Due.is("3: height 5", NONE, x.cloth(10, 5));
        Due.is("3: none there", 0, x.count(1));
        Due.is("3: least", 0, x.cloth(10, 1));
        Due.is("3: most", 1, x.cloth(400, 4));
        for (int k = 2; k < 9; k++) {
            Due.is("3: 0 at first", 0, x.count(110 + k));
        }
        for (int c = 2; c < 6; c++) {
            Due.is("3: cloth " + c, c, x.cloth(20, 2));
        }
        Due.is("3: seventh", NONE, x.cloth(20, 2));
        Due.is("3: six there", 6, x.count(1));
    }

    private static void colour() {
        ClothSchool x = school();
        for (int row = 0; row < 6; row++) {
            Due.is("4: row " + row, true, x.colour(1, row, 7 - row));
        }
        Due.is("4: c 2", false, x.colour(2, 0, 1));
        Due.is("4: c -1", false, x.colour(-1, 0, 1));
        Due.is("4: row -1", false, x.colour(1, -1, 1));
        Due.is("4: row 6", false, x.colour(1, 6, 1));
        Due.is("4: n -1", false, x.colour(1, 0, -1));
        Due.is("4: n 8", false, x.colour(1, 0, 8));
        int[] want = {7, 6, 5, 4, 0, 3, 2};
        for (int k = 2; k < 9; k++) {
            Due.is("4: count " + k, want[k - 2], x.count(110 + k));
            Due.is("4: the other cloth", 0, x.count(100 + k));
        }
    }

    private static void end() {
        ClothSchool x = school();
        Due.is("5: all of it", true, x.end(0, 40));
        Due.is("5: told", 40, x.count(106));
        Due.is("5: above LENGTH", false, x.end(0, 41));
        Due.is("5: below 0", false, x.end(0, -1));
        Due.is("5: no cloth", false, x.end(2, 0));
        Due.is("5: no cloth", false, x.end(-1, 0));
        Due.is("5: as it was", 40, x.count(106));
        Due.is("5: none of it", true, x.end(0, 0));
        Due.is("5: told", 0, x.count(106));
    }

    private static void feed() {
        ClothSchool x = school();
        for (int n = 20; n <= 120; n += 20) {
            Due.is("6: fed", n, x.feed(0x743B743B, 0x743B743B, 0x743B743B, 0x743B743B, 0x743B743B));
            Due.is("6: count", n, x.count(3));
        }
        Due.is("6: more than 120", NONE, x.feed(0, 0, 0, 0, 0));
        Due.is("6: stays", 120, x.count(3));
        Due.is("6: the 120th byte is a ;", -5080, x.style(120));
        // w12;u3;d2
        Due.is("6: highest first", 20, x.feed(0x7731323B, 0x75333B64, 0x32000000, 0, 0xFF000000));
        Due.is("6: highest first", 0, x.style(9));
        Due.is("6: highest first", 3, x.drape(0, 0, 0, 0));
        Due.is("6: highest first", 40 - 12 - 3 - 2, x.look(0));
        Due.is("6: count", 0, x.count(3));
        Due.is("6: negative ints", 20, x.feed(-1, -1, -1, -1, -1));
        Due.is("6: 255 stands nowhere", -1000, x.style(1));
    }

    private static void styleNumbers() {
        ClothSchool x = school();
        Due.is("7: no tape", NONE, x.style(1));
        Due.feed(x, "w1;u1");
        Due.is("7: n 0", NONE, x.style(0));
        Due.is("7: n -1", NONE, x.style(-1));
        Due.is("7: n 21", NONE, x.style(21));
        Due.is("7: n 121", NONE, x.style(121));
        Due.is("7: tape stays", 20, x.count(3));
        Due.is("7: first", 0, x.style(2));
        Due.is("7: empty then", 0, x.count(3));
        Due.is("7: letters", 1, x.count(200));
        Due.is("7: a fault", -1001, Due.style(x, "w"));
        Due.is("7: empty then too", 0, x.count(3));
        Due.is("7: no style by a fault", 1, x.count(2));
        for (int s = 1; s < 10; s++) {
            Due.is("7: style " + s, s, Due.style(x, "r;f"));
        }
        Due.is("7: eleventh", NONE, Due.style(x, "r"));
        Due.is("7: tape stays", 20, x.count(3));
        Due.is("7: eleventh with a fault", NONE, x.style(20));
        Due.is("7: ten there", 10, x.count(2));
    }

    private static void fault(String text, int want) {
        Due.is("7: " + text, want, Due.style(new ClothSchool(), text));
    }

    private static void styleFaults() {
        fault("w1;u0;d0;r;f;t;s;h9;p1.2;x=1;y=x;z=y;[2:w1]", 0);
        fault("w(1+2)*x-y/z+l*g-k*i", 0);
        fault("[1:[2:[3:t;t];t];t];t", 0);
        fault("wxyz", -1002);
        fault("w007", 0);
        fault("a", -1000);
        fault("W1", -1000);
        fault(" w1", -1000);
        fault("w1 ", -1002);
        fault(";w1", -1000);
        fault("w1;", -1003);
        fault("w1;;w1", -1003);
        fault("t1", -1001);
        fault("rw1", -1001);
        fault("w-1", -1001);
        fault("w+1", -1001);
        fault("w1++1", -1003);
        fault("w1-", -1003);
        fault("w1*", -1003);
        fault("w()", -1002);
        fault("w(1", -1003);
        fault("w(1+2", -1005);
        fault("w(1;", -1003);
        fault("w1)", -1002);
        fault("w(1)(", -1004);
        fault("w2x", -1002);
        fault("wxx", -1002);
        fault("wx2", -1002);
        fault("ww", -1001);
        fault("p1", -1002);
        fault("p1.", -1003);
        fault("p.1", -1001);
        fault("p1.1.1", -1004);
        fault("p1:1", -1002);
        fault("w1.1", -1002);
        fault("x", -1001);
        fault("x1", -1001);
        fault("x=", -1002);
        fault("x==1", -1002);
        fault("l=1", -1000);
        fault("g=1", -1000);
        fault("[", -1001);
        fault("[1", -1002);
        fault("[1:", -1003);
        fault("[1:]", -1003);
        fault("[:t]", -1001);
        fault("[1:t", -1004);
        fault("[1:t;]", -1005);
        fault("[1:t]t", -1005);
        fault("[1;t]", -1002);
        fault("[1:w1]]", -1006);
        fault("[1:w(1]", -1006);
        fault("w1]", -1002);
        fault("]", -1000);
        fault("w1\u0000", -1002);
        fault("w\u00f8", -1001);
        fault("\u00f8=1", -1000);
    }

    private static void styleLimits() {
        fault("w999", 0);
        fault("w9999", -2004);
        fault("w1+1234", -2006);
        fault("p1234.1", -2004);
        fault("w0000", -2004);
        fault("[1:[1:[1:t]]]", 0);
        fault("[1:[1:[1:[", -3009);
        fault("[1:[1:t];[1:[1:t]]];[1:t]", 0);
        fault("w((((((((1))))))))", 0);
        fault("w(((((((((1)))))))))", -4009);
        fault("w((((((((1))))))))+((((((((1))))))))", 0);
        fault("w1*((1)+(((((((((", -4015);
        fault("p((((((((1)))))))).((((((((1))))))))", 0);
        fault("p(((((((((", -4009);
        fault("p1.(((((((((", -4011);
        fault("x=((((((((1))))))))", 0);
        fault("x=(((((((((", -4010);
        fault("[((((((((1)))))))):t]", 0);
        fault("[(((((((((", -4009);
        String forty = "t;".repeat(40);
        fault(forty.substring(0, 79), 0);
        fault(forty + "t", -5080);
        fault(forty + "q", -1080);
        fault(forty, -1080);
        fault("[1:" + "t;".repeat(38) + "t]", 0);
        fault("[1:" + "t;".repeat(39) + "t]", -5081);
        fault("x=x+y+z;" + "t;".repeat(39) + "t", -5086);
        fault("x=x+y+z;" + "t;".repeat(38) + "t", 0);
        // the fourth [ and the 41st letter at one place: the fault that is told first
        fault("[1:[1:[1:" + "t;".repeat(37) + "[1:t", -3083);
    }

    private static void drapeAnswers() {
        ClothSchool x = school();
        int s = Due.style(x, "w2;t;u1;r;f;p0.1;h0;x=1;[2:w0];d1");
        Due.is("8: acts are w p u d s h", 7, x.drape(s, 0, 0, 0));
        Due.is("8: z 60", 7, x.drape(s, 0, 0, 60));
        Due.is("8: z 61", NONE, x.drape(s, 0, 0, 61));
        Due.is("8: z -1", NONE, x.drape(s, 0, 0, -1));
        Due.is("8: s 1", NONE, x.drape(1, 0, 0, 0));
        Due.is("8: s -1", NONE, x.drape(-1, 0, 0, 0));
        Due.is("8: b 2", NONE, x.drape(s, 2, 0, 0));
        Due.is("8: b -1", NONE, x.drape(s, -1, 0, 0));
        Due.is("8: c 2", NONE, x.drape(s, 0, 2, 0));
        Due.is("8: c -1", NONE, x.drape(s, 0, -1, 0));
        Due.is("8: none is an act", 0, drape(x, "r;f;x=1;[3:r]", 0, 0, 0));
        Due.is("8: s is one", 2, drape(x, "u7;s", 0, 0, 0));
    }

    private static void drapeBreaks() {
        Due.is("8: w40", 1, why("w40", 0, 0));
        Due.is("8: w41", -11, why("w41", 0, 0));
        Due.is("8: p", 1, why("p4.5", 0, 0));
        Due.is("8: p", -11, why("p3.7", 0, 0));
        Due.is("8: u", -11, why("w40;u1", 0, 0));
        Due.is("8: d", -11, why("u1;w39;d1", 0, 0));
        Due.is("8: s", 3, why("u7;w31;s", 0, 0));
        Due.is("8: s", -11, why("u7;w32;s", 0, 0));
        Due.is("8: h", 2, why("w10;h30", 0, 0));
        Due.is("8: h", -11, why("w10;h31", 0, 0));
        Due.is("8: u7", 1, why("u7", 0, 0));
        Due.is("8: u8", -12, why("u8", 0, 0));
        Due.is("8: u7 with two rows", -12, why("u7", 0, 1));
        Due.is("8: u6 with two rows", 1, why("u6", 0, 1));
        Due.is("8: d1", -12, why("d1", 0, 0));
        Due.is("8: s low", -13, why("u6;s", 0, 0));
        Due.is("8: s with two rows", 2, why("u6;s", 0, 1));
        for (String bad : new String[] {"w0-1", "w201", "p0-1.1", "p201.1", "p1.0", "p1.201", "u0-1", "u201", "d0-1", "d201", "h0-1", "h201", "[0-1:t]", "[201:t]"}) {
            Due.is("8: " + bad, -14, why(bad, 0, 0));
        }
        Due.is("8: [200:r]", 0, why("[200:r]", 0, 0));
        Due.is("8: a name may be anything", 0, why("x=0-999;y=999*999", 0, 0));
        for (String bad : new String[] {"w1/0", "p1/0.1", "p1.1/x", "x=1/(2-2)", "[1/0:t]", "h0/k"}) {
            Due.is("8: " + bad, -15, why(bad, 0, 0));
        }
        Due.is("8: t first", -16, why("t", 0, 0));
        Due.is("8: t after an act without layers", -16, why("u1;w0;t", 0, 0));
    }

    private static void drapeOrderOfBreaks() {
        Due.is("8: 5 ahead of 4", -15, why("p(0-1).1/0", 0, 0));
        Due.is("8: 4 ahead of 2", -14, why("d201", 0, 0));
        Due.is("8: 4 ahead of 1", -14, why("w201", 0, 0));
        Due.is("8: 2 ahead of 1", -12, why("w40;u8", 0, 0));
        Due.is("8: 2 ahead of 1", -12, why("w40;d1", 0, 0));
        Due.is("8: 3 ahead of 1", -13, why("w40;s", 0, 0));
        Due.is("8: 2000 steps", 0, why("[199:[9:r]];[8:r]", 0, 0));
        ClothSchool x = draped("[199:[9:r]];[8:r];x=1/0", 0, 0);
        Due.is("8: the 2001st ahead of 5", 6, x.look(10));
        Due.is("8: the 2001st", 2000, x.look(11));
        x = draped("[199:[9:r]];[7:r];x=1/0", 0, 0);
        Due.is("8: the 2000th", 5, x.look(10));
        Due.is("8: the 2000th", 1999, x.look(11));
        x = school();
        x.cloth(400, 1);
        Due.is("8: 400 layers", 3, drape(x, "w200;w200;h0", 0, 2, 0));
        Due.is("8: 1 ahead of 6", -11, drape(x, "w200;w200;w1", 0, 2, 0));
    }

    /** Cloth 1 has two rows, so on body 1 a layer on ring i has i + 2 cells. */
    private static void drapeSteps() {
        ClothSchool x = draped("w2;u2;r;w2", 1, 1);
        int[][] want = {{0, 0, 0, 0, 2, 2, 0}, {0, 0, 1, 2, 2, 2, 0}, {2, 2, 2, 6, 4, 2, 0}, {2, 2, 1, 10, 4, 2, 0}};
        for (int i = 0; i < 4; i++) {
            for (int k = 0; k < 7; k++) {
                Due.is("8: w, layer " + i + " " + k, want[i][k], x.layer(i, k));
            }
        }
        Due.is("8: the sector after it", 0, x.look(5));
        x = draped("f;p2.3;w9", 1, 1);
        int[][] pleats = {{0, 0, 0, 0, 3, 2, 0}, {0, 0, 0, 3, 3, 2, 1}, {0, 0, 0, 6, 3, 2, 0}, {0, 0, 0, 9, 3, 2, 1}};
        for (int i = 0; i < 4; i++) {
            for (int k = 0; k < 7; k++) {
                Due.is("8: p, layer " + i + " " + k, pleats[i][k], x.layer(i, k));
            }
        }
        Due.is("8: round about", 0, x.layer(12, 2));
        Due.is("8: round about", 7, x.layer(11, 2));
        x = draped("r;w2", 1, 1);
        Due.is("8: round about the other way", 7, x.layer(1, 2));
        Due.is("8: the way", -1, x.look(6));
        x = draped("u6;w1;s", 1, 1);
        Due.is("8: s takes twice ring 7", 60 - 6 - 8 - 16, x.look(0));
        Due.is("8: s goes four on", 5, x.look(5));
        Due.is("8: s is not laid", 22, x.look(9));
        x = draped("u6;r;w3;s;w1", 1, 1);
        Due.is("8: s keeps the way", -1, x.look(6));
        Due.is("8: s goes round about", 1, x.layer(3, 2));
    }

    private static void reckoned(String expression, int want) {
        ClothSchool x = draped("x=" + expression + ";[x/" + want + ":[x-" + (want - 1) + ":w1]]", 0, 0);
        Due.is("8: " + expression, 1, x.look(2));
    }

    private static void drapeReckoning() {
        reckoned("2+3*4", 14);
        reckoned("(2+3)*4", 20);
        reckoned("20-5-3", 12);
        reckoned("100/7/2", 7);
        reckoned("7/2*2", 6);
        reckoned("0-(0-7)/2", 3);
        reckoned("12*(1+2*(3-1))", 60);
        reckoned("l", 40);
        Due.is("8: z as told", 33, cellsLeft("wz", 7));
        Due.is("8: z given anew", 37, cellsLeft("z=3;wz", 7));
        Due.is("8: x and y are 0 at first", 40, cellsLeft("wx;wy", 7));
        Due.is("8: g", 5, draped("u3;wg", 1, 1).look(2));
        Due.is("8: k", 6, draped("w3;wk", 1, 1).look(2));
        Due.is("8: i", 3, draped("u3;wi", 1, 1).look(2));
        Due.is("8: l", 7, draped("w5;wl/25", 1, 1).look(2));
        Due.is("8: 32 bits", 1, draped("x=256*256*256*128;w(x+x)+1", 0, 0).look(2));
        Due.is("8: 32 bits", 1, draped("x=1;[31:x=x*2];y=x/(0-1);w1+y-x", 0, 0).look(2));
        Due.is("8: a drape's names are its own", 0, secondDrape("wx").look(2));
        Due.is("8: a drape's names are its own", 0, secondDrape("wy").look(2));
    }

    private static int cellsLeft(String text, int z) {
        ClothSchool x = school();
        drape(x, text, 0, 0, z);
        return x.look(0);
    }

    private static ClothSchool secondDrape(String text) {
        ClothSchool x = draped("x=3;y=3", 0, 0);
        drape(x, text, 0, 0, 0);
        return x;
    }

    private static void drapeRows() {
        ClothSchool x = draped("x=3;[x:w1;x=1];w1", 0, 0);
        Due.is("8: E once, ahead of the row", 4, x.look(2));
        x = draped("[0:w1;[2:u1]];w1", 0, 0);
        Due.is("8: no times", 1, x.look(2));
        x = draped("[2:w1;[3:u1;[2:p1.1]];d3]", 0, 0);
        Due.is("8: rows in rows", 26, x.look(2));
        Due.is("8: rows in rows", 22, x.look(1));
        x = draped("w1;[2:w1;d1]", 0, 0);
        Due.is("8: steps of a row stay done", 2, x.look(2));
        Due.is("8: rows count as steps", 3, x.look(11));
        Due.is("8: breaks within", 2, x.look(10));
        x = draped("[2:r;[2:f]];d1", 0, 0);
        Due.is("8: every time counts", 9, x.look(11));
    }

    private static void drapeIsKept() {
        ClothSchool x = draped("w3;p1.2;w99", 0, 0);
        Due.is("8: done ahead of the break", 5, x.look(2));
        Due.is("8: a refused one", NONE, x.drape(5, 0, 0, 0));
        Due.is("8: is kept", 5, x.look(2));
        Due.is("8: why is kept", 1, x.look(10));
        drape(x, "w1", 0, 0, 0);
        Due.is("8: another one", 1, x.look(2));
        Due.is("8: another one", 0, x.look(10));
        Due.is("8: no step of a break", NONE, x.look(11));
        x.body(9, 9, 9, 9, 9, 9, 9, 9);
        x.cloth(10, 1);
        Due.style(x, "r");
        Due.is("8: is kept", 39, x.look(0));
    }

    private static void shows() {
        ClothSchool x = school();
        for (int row = 0; row < 6; row++) {
            x.colour(1, row, row + 1);
        }
        drape(x, "w3;f;w2;f;r;w2", 0, 1, 0);
        Due.is("9: lowest row", 1, x.shows(0, 0));
        Due.is("9: second row", 2, x.shows(1, 0));
        Due.is("9: above it", 8, x.shows(2, 0));
        Due.is("9: wrong side", 6, x.shows(1, 3));
        Due.is("9: the last laid", 2, x.shows(1, 4));
        Due.is("9: nothing", 8, x.shows(0, 6));
        Due.is("9: ring 8", NONE, x.shows(8, 0));
        Due.is("9: ring -1", NONE, x.shows(-1, 0));
        Due.is("9: sector 8", NONE, x.shows(0, 8));
        Due.is("9: sector -1", NONE, x.shows(0, -1));
        x.colour(1, 0, 7);
        Due.is("9: colours as they are now", 7, x.shows(0, 0));
        x.end(1, 59);
        Due.is("9: not of the end", 7, x.shows(0, 0));
        Due.is("9: of the end", 5, x.shows(0, 1));
        x.end(1, 60);
        Due.is("9: the wrong side has no end", 6, x.shows(0, 3));
        drape(x, "w1", 0, 1, 0);
        Due.is("9: all of it", 5, x.shows(0, 0));
        x.end(1, 0);
        Due.is("9: none of it", 7, x.shows(0, 0));
        drape(x, "u5;f;p1.3", 0, 1, 0);
        Due.is("9: a pleat's side that is out", 6, x.shows(5, 0));
        x.end(1, 57);
        drape(x, "p1.3", 0, 1, 0);
        Due.is("9: by the first cell", 5, x.shows(0, 0));
        x.end(1, 56);
        Due.is("9: by the first cell", 7, x.shows(0, 0));
        drape(x, "u3;h10", 0, 1, 0);
        Due.is("9: hangs as the lowest row", 7, x.shows(2, 0));
        Due.is("9: hangs as the lowest row", 5, x.shows(1, 0));
        Due.is("9: not on its own ring", 8, x.shows(3, 0));
    }

    private static void layers() {
        ClothSchool x = draped("w9;u1;p2.1;h3", 0, 1);
        Due.is("10: ring 0", 2, x.layers(0, 0));
        Due.is("10: ring 0, where one lies and one hangs", 2, x.layers(0, 1));
        Due.is("10: ring 1, one of w and four of p", 5, x.layers(1, 1));
        Due.is("10: ring 2", 4, x.layers(2, 1));
        Due.is("10: none", 0, x.layers(3, 1));
        Due.is("10: ring 8", NONE, x.layers(8, 0));
        Due.is("10: sector 8", NONE, x.layers(0, 8));
        Due.is("10: ring -1", NONE, x.layers(-1, 0));
        Due.is("10: sector -1", NONE, x.layers(0, -1));
    }

    private static void layer() {
        ClothSchool x = draped("w1;u3;f;h12", 1, 1);
        int[] want = {2, 1, 1, 10, 5, 1, 1};
        for (int k = 0; k < 7; k++) {
            Due.is("11: " + k, want[k], x.layer(2, k));
        }
        Due.is("11: what 7", NONE, x.layer(2, 7));
        Due.is("11: what -1", NONE, x.layer(2, -1));
        Due.is("11: no layer", NONE, x.layer(4, 0));
        Due.is("11: no layer", NONE, x.layer(-1, 0));
        Due.is("11: the last hangs two cells", 2, x.layer(3, 4));
    }

    private static void look() {
        ClothSchool x = draped("w3;t;t;u2;f;r;h3;d1;p1.2;t", 0, 0);
        int[] want = {40 - 3 - 2 - 3 - 1 - 4, 5, 6, 3, 1, 3, -1, 1, 1, 3, 0, NONE};
        for (int what = 0; what < 12; what++) {
            Due.is("12: " + what, want[what], x.look(what));
        }
        Due.is("12: what 12", NONE, x.look(12));
        Due.is("12: what -1", NONE, x.look(-1));
        x = draped("w0", 0, 0);
        int[] first = {40, 1, 0, 0, 0, 0, 1, 0, NONE, 0, 0, NONE};
        for (int what = 0; what < 12; what++) {
            Due.is("12: of w0, " + what, first[what], x.look(what));
        }
    }

    private static void hangs(String text, int fall, int laid, int notLaid) {
        ClothSchool x = draped(text, 0, 0);
        Due.is("12: fall of " + text, fall, x.look(8));
        Due.is("12: layers of " + text, laid, x.look(2));
        Due.is("12: not laid of " + text, notLaid, x.look(9));
    }

    private static void hanging() {
        hangs("h0", 0, 0, 0);
        hangs("h1", -1, 0, 1);
        hangs("u3;h0", 3, 0, 3);
        hangs("u3;h1", 2, 1, 3);
        hangs("u3;h5", 2, 1, 3);
        hangs("u3;h6", 1, 2, 3);
        hangs("u3;h15", 0, 3, 3);
        hangs("u3;h16", -1, 3, 4);
        hangs("u3;h30", -1, 3, 18);
        hangs("u3;h5;h0", 3, 1, 3);
        hangs("u3;h5;h99", 2, 1, 3);
    }

    private static void strength() {
        ClothSchool x = draped("w9;t;p1.1;u1;p2.1;t;t", 0, 1);
        Due.is("13: a pin, and six upon it on ring 1", 10, x.strength(0));
        Due.is("13: four upon it on ring 1", 4, x.strength(1));
        Due.is("13: an act without layers", 0, x.strength(2));
        Due.is("13: two pins", 8, x.strength(3));
        Due.is("13: no act", NONE, x.strength(4));
        Due.is("13: no act", NONE, x.strength(-1));
        x.stretch(0, 2, 9);
        Due.is("16: the last slips", 1, Due.moves(x, 0));
        Due.is("13: nothing slipped", 10, x.strength(0));
        Due.is("13: own layers are not upon", 0, draped("w30", 0, 0).strength(0));
        Due.is("13: nor beside", 0, draped("w2;w1", 0, 0).strength(0));
        Due.is("13: nor on the ring above", 0, draped("w1;r;u1;w1;w1", 0, 0).strength(0));
        Due.is("13: nor on the ring below", 0, draped("u1;w1;r;d1;w1;w1", 0, 0).strength(1));
        Due.is("13: a pin of the last layer's act", 5, draped("w1;u1;t;d1;r;w2", 0, 0).strength(0));
    }

    private static void stretchAndPull() {
        ClothSchool x = school();
        Due.is("14: edges", true, x.stretch(0, 0, 0));
        Due.is("14: edges", true, x.stretch(5, 7, 9));
        Due.is("14: m -1", false, x.stretch(-1, 0, 0));
        Due.is("14: m 6", false, x.stretch(6, 0, 0));
        Due.is("14: r -1", false, x.stretch(0, -1, 0));
        Due.is("14: r 8", false, x.stretch(0, 8, 0));
        Due.is("14: n -1", false, x.stretch(0, 0, -1));
        Due.is("14: n 10", false, x.stretch(0, 0, 10));
        drape(x, "w3;u6;p2.1;h11", 0, 1, 0);
        x.stretch(5, 1, 2);
        x.stretch(5, 5, 3);
        Due.is("15: the greatest of the rings of each", 6, x.pull(5, 0));
        Due.is("15: of no layers", 0, x.pull(5, 1));
        Due.is("15: ring 7 is the highest row's", 36, x.pull(5, 2));
        Due.is("15: a row of one for each", 3, x.pull(5, 3));
        Due.is("15: another move", 0, x.pull(4, 0));
        Due.is("15: m 6", NONE, x.pull(6, 0));
        Due.is("15: m -1", NONE, x.pull(-1, 0));
        Due.is("15: a 4", NONE, x.pull(0, 4));
        Due.is("15: a -1", NONE, x.pull(0, -1));
        x.stretch(5, 0, 4);
        Due.is("15: as stretched now", 12, x.pull(5, 0));
    }

    /** Acts 0 and 1 in sectors 0 to 2 and 3 to 5; 2 pleats twice upon nothing. */
    private static void moves() {
        ClothSchool x = draped("w8;w3;u1;p1.1;p1.1", 0, 0);
        x.stretch(0, 1, 2);
        x.stretch(1, 0, 1);
        x.stretch(2, 1, 1);
        Due.is("16: at ring 1", 2, Due.moves(x, 0));
        Due.is("17: the last first", 4, x.slipped(0));
        Due.is("17: then the one below it", 3, x.slipped(1));
        Due.is("17: no third", NONE, x.slipped(2));
        Due.is("17: -1", NONE, x.slipped(-1));
        Due.is("16: what slipped holds no other", 2, Due.moves(x, 2));
        Due.is("16: a row", 4, Due.moves(x, 0, 1, 2));
        Due.is("17: a row", 1, x.slipped(2));
        Due.is("17: a row", 0, x.slipped(3));
        Due.is("16: no stretch", 0, Due.moves(x, 5));
        Due.is("17: none", NONE, x.slipped(0));
        Due.is("16: six", 4, Due.moves(x, 3, 3, 1, 3, 3, 0));
        Due.is("17: six", 1, x.slipped(0));
        Due.is("16: no tape", NONE, x.moves(1));
        Due.is("16: empty then", 0, x.count(3));
        x.feed(0x00000006, 0x05050505, 0, 0, 0);
        Due.is("16: n 0", NONE, x.moves(0));
        Due.is("16: n 7", NONE, x.moves(7));
        Due.is("16: n 21", NONE, x.moves(21));
        Due.is("16: tape stays", 20, x.count(3));
        Due.is("17: as before", 1, x.slipped(0));
        Due.is("16: no such move", NONE, x.moves(4));
        Due.is("16: tape empty by it", 0, x.count(3));
        Due.is("17: as before", 1, x.slipped(0));
        x.feed(0x00000006, 0, 0, 0, 0);
        Due.is("16: the sixth is not told", 2, x.moves(3));
        x.feed(0xFF000000, 0, 0, 0, 0);
        Due.is("16: 255", NONE, x.moves(1));
        Due.is("17: as before", 4, x.slipped(0));
        drape(x, "w1;w1", 0, 0, 0);
        Due.is("17: of this drape", NONE, x.slipped(0));
        x.feed(0x00000000, 0, 0, 0, 0);
        Due.is("16: after a refused drape too", NONE, x.drape(9, 0, 0, 0));
        Due.is("16: nothing pulls there", 0, x.moves(1));
    }

    private static void movesKeepStretches() {
        ClothSchool x = draped("w3", 0, 0);
        x.stretch(0, 0, 2);
        Due.is("16: as stretched", 1, Due.moves(x, 0));
        Due.is("19: 6 is above 4", NONE, x.fix());
        x.stretch(0, 0, 1);
        Due.is("19: as they were when told", NONE, x.fix());
        Due.is("17: as they were when told", 0, x.slipped(0));
        Due.moves(x, 0);
        Due.is("19: 3 is not", 0, x.fix());
        x.stretch(0, 0, 9);
        Due.is("19: as they were when told", 0, x.fix());
        Due.is("17: still slipped", 0, x.slipped(0));
        Due.is("18: still slipped", 8, x.after(0, 0));
    }

    private static void movesAndPins() {
        ClothSchool x = draped("w8;u1;p3.1;t", 0, 0);
        x.stretch(1, 1, 1);
        Due.is("16: 6 is above the pin's 4", 1, Due.moves(x, 1));
        drape(x, "w8;u1;p2.1;t", 0, 0, 0);
        Due.is("16: 4 is not above 4", 0, Due.moves(x, 1));
        x.stretch(1, 1, 2);
        Due.is("16: 8 is", 1, Due.moves(x, 1));
        drape(x, "p1.1;p1.1;t", 0, 0, 0);
        x.stretch(2, 0, 1);
        Due.is("16: two upon it hold 2", 0, Due.moves(x, 2));
        drape(x, "p1.1;p1.1", 0, 0, 0);
        Due.is("16: not when they slipped", 2, Due.moves(x, 2));
        drape(x, "w1;w1;w1", 0, 0, 0);
        Due.is("16: acts of a layer each", 3, Due.moves(x, 2));
        Due.is("17: the first laid", 0, x.slipped(2));
        drape(x, "w1;t;w1;t;r;w1", 0, 0, 0);
        Due.is("16: none slips from the first", 1, Due.moves(x, 2));
        Due.is("18: the first laid", 0, x.after(0, 0));
    }

    private static void after() {
        ClothSchool x = school();
        x.colour(1, 0, 3);
        x.colour(1, 1, 4);
        drape(x, "w2;t;t;r;w1;u1;w1", 0, 1, 0);
        Due.is("18: no moves told", NONE, x.after(0, 0));
        x.stretch(0, 2, 1);
        Due.is("18: one slips", 1, Due.moves(x, 0));
        Due.is("18: what lay below it", 4, x.after(1, 1));
        Due.is("18: nothing there", 8, x.after(2, 1));
        Due.is("18: it shows as before", 4, x.shows(2, 1));
        Due.is("18: the rest stays", 3, x.after(0, 1));
        Due.is("18: ring 8", NONE, x.after(8, 0));
        Due.is("18: sector -1", NONE, x.after(0, -1));
        x.colour(1, 1, 7);
        Due.is("18: colours as they are now", 7, x.after(1, 1));
        x.feed(0x09000000, 0, 0, 0, 0);
        Due.is("18: refused", NONE, x.moves(1));
        Due.is("18: as before", 8, x.after(2, 1));
        Due.moves(x, 3);
        Due.is("18: none slips", 7, x.after(2, 1));
        x.drape(0, 0, 1, 0);
        Due.is("18: no moves of this drape", NONE, x.after(0, 0));
        Due.is("19: no moves of this drape", NONE, x.fix());
    }

    private static void fix() {
        ClothSchool x = draped("w2;u1;p2.1", 0, 0);
        Due.is("19: no moves told", NONE, x.fix());
        x.stretch(0, 1, 1);
        x.stretch(1, 0, 1);
        x.stretch(2, 1, 2);
        Due.moves(x, 3);
        Due.is("19: nothing slips", -2, x.fix());
        Due.moves(x, 0);
        Due.is("19: a pin on act 2", 2, x.fix());
        Due.is("19: twice", 2, x.fix());
        Due.is("17: stays", 2, x.slipped(0));
        Due.is("18: stays", 8, x.after(1, 2));
        Due.moves(x, 1);
        Due.is("19: a pin on act 0", 0, x.fix());
        Due.moves(x, 1, 0);
        Due.is("19: two would be due", NONE, x.fix());
        Due.is("17: stays", 0, x.slipped(0));
        Due.is("17: stays", 2, x.slipped(1));
        Due.moves(x, 2);
        Due.is("19: a pin is too few", NONE, x.fix());
        drape(x, "p2.1;p1.1;w0;u0", 0, 0, 0);
        Due.is("19: a drape ends the row", NONE, x.fix());
        Due.is("16: both", 2, Due.moves(x, 1));
        Due.is("19: the last can't hold the first", NONE, x.fix());
        drape(x, "p1.1;p1.1;w0;u0", 0, 0, 0);
        Due.is("16: both", 2, Due.moves(x, 1));
        Due.is("19: the last holds the first", 1, x.fix());
        Due.is("19: no pin by it", 0, x.look(3));
    }

    private static void breaths() {
        Due.is("20: no pins", 1, draped("w3;u1", 0, 0).breaths());
        Due.is("20: pins on one and on another", 4, draped("w3;t;t;u1;w1;t", 0, 0).breaths());
        Due.is("20: nothing was done", 1, draped("d1", 0, 0).breaths());
        ClothSchool x = draped("w3;t", 0, 0);
        x.stretch(0, 0, 9);
        Due.moves(x, 0);
        Due.is("20: of the drape", 2, x.breaths());
        Due.is("20: nothing was draped", NONE, school().breaths());
    }

    private static int shortest(String text, int b, int height, int z) {
        ClothSchool x = school();
        return x.shortest(Due.style(x, text), b, height, z);
    }

    private static void shortest() {
        Due.is("21: not below 10", 10, shortest("w3", 0, 1, 0));
        Due.is("21: just so", 33, shortest("w30;u3", 0, 1, 0));
        Due.is("21: by z", 23, shortest("wz;u3", 0, 1, 20));
        Due.is("21: 400", 400, shortest("w200;p100.1", 0, 1, 0));
        Due.is("21: 401", NONE, shortest("w200;p100.1;h1", 0, 1, 0));
        Due.is("21: by height", 4 * 5, shortest("w5", 1, 4, 0));
        Due.is("21: breaks whatever it is", NONE, shortest("w3;d1", 0, 1, 0));
        Due.is("21: by height", NONE, shortest("u7", 0, 2, 0));
        Due.is("21: of the cells that are left", 20, shortest("wl/25+9;w1/(l/11)", 0, 1, 0));
        Due.is("21: more is not always enough", 12, shortest("[l/12:r];x=l-12;w0-x*x", 0, 1, 0));
        Due.is("21: ends after 2000 steps", NONE, shortest("[200:[200:r]]", 0, 1, 0));
        Due.is("21: what l decides", 100, shortest("[1-l/100:[200:[200:r]]]", 0, 1, 0));
        ClothSchool x = draped("w5;t", 0, 0);
        x.stretch(0, 0, 9);
        Due.moves(x, 0);
        Due.is("21: s", NONE, x.shortest(1, 0, 1, 0));
        Due.is("21: s", NONE, x.shortest(-1, 0, 1, 0));
        Due.is("21: b", NONE, x.shortest(0, 2, 1, 0));
        Due.is("21: b", NONE, x.shortest(0, -1, 1, 0));
        Due.is("21: height 0", NONE, x.shortest(0, 0, 0, 0));
        Due.is("21: height 5", NONE, x.shortest(0, 0, 5, 0));
        Due.is("21: z -1", NONE, x.shortest(0, 0, 1, -1));
        Due.is("21: z 61", NONE, x.shortest(0, 0, 1, 61));
        Due.is("21: z 60", 10, x.shortest(0, 0, 1, 60));
        Due.is("21: the drape stays", 35, x.look(0));
        Due.is("21: the moves stay", 0, x.slipped(0));
    }

    private static int solve(String text, int left, int fall) {
        ClothSchool x = school();
        return x.solve(Due.style(x, text), 0, 0, left, fall);
    }

    private static void solve() {
        Due.is("22: the least", 0, solve("u7;hz", 400, 7));
        Due.is("22: the least", 1, solve("u7;hz", 400, 6));
        Due.is("22: the least", 6, solve("u7;hz", 400, 5));
        Due.is("22: cells that are left", 10, solve("u7;hz", 23, 5));
        Due.is("22: cells that are left", NONE, solve("u7;hz", 22, 5));
        Due.is("22: ring 0", 31, solve("u7;hz", 400, 0));
        Due.is("22: too few cells for it", NONE, solve("u7;hz", 400, -1));
        Due.is("22: lower than ring 0", 26, solve("u5;hz", 400, -1));
        Due.is("22: none left", 35, solve("u5;hz", 0, -1));
        Due.is("22: the last h", 0, solve("u5;h9;hz", 400, 5));
        Due.is("22: no h has no fall", NONE, solve("u5;wz", 400, -1));
        Due.is("22: z 60", 60, solve("u1;h(z/60)*5", 400, 0));
        Due.is("22: not above 60", NONE, solve("u1;h(z/61)*5", 400, 0));
        Due.is("22: it must not break", 3, solve("u1;h0;x=1/(z/3)", 400, 1));
        ClothSchool x = draped("w5;h1", 0, 0);
        Due.is("22: s", NONE, x.solve(1, 0, 0, 400, -1));
        Due.is("22: b", NONE, x.solve(0, 2, 0, 400, -1));
        Due.is("22: c", NONE, x.solve(0, 0, 2, 400, -1));
        Due.is("22: left -1", NONE, x.solve(0, 0, 0, -1, -1));
        Due.is("22: left 401", NONE, x.solve(0, 0, 0, 401, -1));
        Due.is("22: fall -2", NONE, x.solve(0, 0, 0, 400, -2));
        Due.is("22: fall 8", NONE, x.solve(0, 0, 0, 400, 8));
        Due.is("22: as it can", 0, x.solve(0, 0, 0, 400, -1));
        Due.is("22: by the cloth", NONE, x.solve(0, 0, 1, 53, -1));
        Due.is("22: by the cloth", 0, x.solve(0, 0, 1, 54, -1));
        Due.is("22: the drape stays", 34, x.look(0));
    }

    /** A picture of signs told ring by ring from 0 on; what is left out is the last sign told. */
    private static int read(ClothSchool x, int b, int c, String signs) {
        StringBuilder all = new StringBuilder(signs);
        while (all.length() < 64) {
            all.append(signs.charAt(signs.length() - 1));
        }
        Due.feed(x, all.toString());
        return x.read(b, c);
    }

    private static void read() {
        ClothSchool x = school();
        x.cloth(10, 1);
        x.cloth(20, 4);
        for (int row = 0; row < 6; row++) {
            x.colour(3, row, row + 1);
        }
        Due.is("23: anything, ten cells", 2628, read(x, 0, 2, "?"));
        Due.is("24: the first of all", 0, x.wrote(0));
        Due.is("24: of one", NONE, x.wrote(1));
        int rows = read(x, 0, 3, "18888888288888883888888848888888" + "8");
        Due.is("23: w1 alone", 0, x.wrote(0));
        Due.is("23: w1 alone", NONE, x.wrote(1));
        Due.is("23: with r, f, u, d, p and s about it", true, rows > 100);
        read(x, 0, 3, "68888888688888886888888868888888" + "8");
        Due.is("24: f and w1", 8, x.wrote(0));
        Due.is("24: f and w1", 0, x.wrote(1));
        Due.is("24: f and w1", NONE, x.wrote(2));
        read(x, 0, 3, "8888888818888888288888883888888848888888" + "8");
        Due.is("24: u1 and w1", 5, x.wrote(0));
        Due.is("24: u1 and w1", 0, x.wrote(1));
        read(x, 0, 3, "18888881288888823888888348888884" + "8");
        Due.is("24: r and w2", 7, x.wrote(0));
        Due.is("24: r and w2", 1, x.wrote(1));
        Due.is("24: r and w2", NONE, x.wrote(2));
        Due.is("23: nothing shows 7", 0, read(x, 0, 3, "7????????"));
        Due.is("24: none", NONE, x.wrote(0));
        x.end(3, 20);
        read(x, 0, 3, "5555555555555555555555555555555588888888888888888888888888888888");
        Due.is("24: w8 of the end", 3, x.wrote(0));
        Due.is("24: w8 of the end", NONE, x.wrote(1));
        Due.is("23: u1 and w8", true, read(x, 0, 2, "88888888000000008") > 0);
        Due.is("23: a body too wide", 0, read(x, 1, 2, "88888888000000008"));
        Due.is("12: nothing was draped by it", NONE, x.look(0));
    }

    private static void readRefused() {
        ClothSchool x = school();
        x.cloth(10, 1);
        drape(x, "w5", 0, 0, 0);
        read(x, 0, 2, "08");
        Due.is("24: read", 0, x.wrote(0));
        Due.is("23: no tape", NONE, x.read(0, 2));
        Due.feed(x, "8".repeat(60));
        Due.is("23: not so many", NONE, x.read(0, 2));
        Due.is("23: tape stays", 60, x.count(3));
        Due.feed(x, "8".repeat(20));
        Due.is("23: b", NONE, x.read(2, 2));
        Due.is("23: b", NONE, x.read(-1, 2));
        Due.is("23: c", NONE, x.read(0, 3));
        Due.is("23: c", NONE, x.read(0, -1));
        Due.is("23: tape stays", 80, x.count(3));
        Due.is("24: stays", 0, x.wrote(0));
        Due.is("23: nothing at all shows", true, x.read(0, 2) > 0);
        Due.is("23: empty then", 0, x.count(3));
        Due.is("24: u1", 5, x.wrote(0));
        for (char sign : new char[] {'9', '/', ':', ' ', '@', 'x', 0, 255}) {
            Due.is("23: sign " + (int) sign, NONE, read(x, 0, 2, "8".repeat(63) + sign));
            Due.is("23: empty then", 0, x.count(3));
            Due.is("23: sign " + (int) sign, NONE, read(x, 0, 2, sign + "8"));
        }
        Due.is("24: stays", 5, x.wrote(0));
        Due.is("12: the drape stays", 35, x.look(0));
    }

    private static void wrote() {
        ClothSchool x = school();
        x.cloth(10, 1);
        x.colour(2, 5, 7);
        read(x, 0, 2, "8".repeat(24) + "08");
        Due.is("24: 0", 5, x.wrote(0));
        Due.is("24: 3", 0, x.wrote(3));
        Due.is("24: 4", NONE, x.wrote(4));
        Due.is("24: -1", NONE, x.wrote(-1));
        read(x, 0, 2, "78888888");
        Due.is("24: of the last alone", 8, x.wrote(0));
        Due.is("24: of the last alone", 0, x.wrote(1));
        Due.is("24: of the last alone", NONE, x.wrote(2));
    }

    private static void count() {
        ClothSchool x = school();
        x.colour(1, 3, 6);
        x.end(1, 9);
        x.feed(0, 0, 0, 0, 0);
        Due.is("25: bodies", 2, x.count(0));
        Due.is("25: cloths", 2, x.count(1));
        Due.is("25: styles", 0, x.count(2));
        Due.is("25: tape", 20, x.count(3));
        Due.is("25: 4", NONE, x.count(4));
        Due.is("25: 9", NONE, x.count(9));
        Due.is("25: -1", NONE, x.count(-1));
        Due.is("25: a width", 1, x.count(10));
        Due.is("25: a width", 1, x.count(18));
        Due.is("25: a width", 8, x.count(25));
        Due.is("25: no body", NONE, x.count(26));
        Due.is("25: no body", NONE, x.count(99));
        int[] want = {60, 2, 0, 0, 0, 6, 9, 0, 0, NONE};
        for (int k = 0; k < 10; k++) {
            Due.is("25: cloth, " + k, want[k], x.count(110 + k));
        }
        Due.is("25: LENGTH", 40, x.count(100));
        Due.is("25: no cloth", NONE, x.count(120));
        Due.is("25: no cloth", NONE, x.count(199));
        x.style(1);
        Due.style(x, "[2:w1;x=y;[1:t]]");
        Due.is("25: letters", 5, x.count(200));
        Due.is("25: no style", NONE, x.count(201));
        Due.is("25: far off", NONE, x.count(Integer.MAX_VALUE));
        Due.is("25: far off", NONE, x.count(Integer.MIN_VALUE));
    }

    private static void nothingDraped() {
        ClothSchool x = school();
        x.feed(0, 0, 0, 0, 0);
        Due.is("9: nothing was draped", NONE, x.shows(0, 0));
        Due.is("10: nothing was draped", NONE, x.layers(0, 0));
        Due.is("11: nothing was draped", NONE, x.layer(0, 0));
        for (int what = 0; what < 12; what++) {
            Due.is("12: nothing was draped", NONE, x.look(what));
        }
        Due.is("13: nothing was draped", NONE, x.strength(0));
        Due.is("15: nothing was draped", NONE, x.pull(0, 0));
        Due.is("16: nothing was draped", NONE, x.moves(1));
        Due.is("16: the tape stays", 20, x.count(3));
        Due.is("18: nothing was draped", NONE, x.after(0, 0));
        Due.is("19: nothing was draped", NONE, x.fix());
    }
}
