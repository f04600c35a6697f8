/** The edges of what is sought: the shortest cloth, the z of a fall, the rows of acts of a picture. */
public final class FindingEdgesTest {
    private static final int NONE = ClothSchool.NONE;
    private static final int[] FAR = {-1, Integer.MIN_VALUE, Integer.MAX_VALUE};

    public static void main(String[] args) {
        shortestLengths();
        shortestNumbers();
        shortestByHeight();
        shortestNotAlwaysLonger();
        shortestOfManySteps();
        solveNumbers();
        solveLeast();
        solveLeft();
        solveFalls();
        solveLastHang();
        solveUnbroken();
        signsOfPictures();
        placesOfPictures();
        tapeOfPictures();
        picturesRefused();
        eachActAlone();
        fewestThenLeast();
        upToFourActs();
        rowsCounted();
        cellsOfRows();
        bodiesAndClothsOfPictures();
        emptyAndFullPictures();
        Due.close();
    }

    private static int shortest(String text, int b, int height, int z) {
        ClothSchool x = Schools.of(10, 1);
        return x.shortest(Due.style(x, text), b, height, z);
    }

    /** The least LENGTH (10 to 400) by which it does not BREAK. */
    private static void shortestLengths() {
        for (int n = 0; n <= 200; n++) {
            Due.is("21: w" + n, Math.max(10, n), shortest("w" + n, 0, 1, 0));
            Due.is("21: w" + n + " and 200 more", Math.max(10, n + 200), shortest("p10.10;w" + n, 0, 1, 0));
        }
        Due.is("21: 399", 399, shortest("p99.2;u1;d1;u1", 0, 1, 0));
        Due.is("21: 400", 400, shortest("p100.2", 0, 1, 0));
        Due.is("21: 401", NONE, shortest("p100.2;u1", 0, 1, 0));
        Due.is("21: 402", NONE, shortest("p67.3", 0, 1, 0));
        Due.is("21: far above", NONE, shortest("p200.200", 0, 1, 0));
        Due.is("21: no cells at all", 10, shortest("r", 0, 1, 0));
        Due.is("21: nine cells wide", 18, shortest("w2", 2, 1, 0));
        Due.is("21: cells that hang", 200, shortest("h200", 0, 1, 0));
        Due.is("21: twice ring 7", 7 + 16, shortest("u7;s", 1, 1, 0));
    }

    /** NONE: no such ones. */
    private static void shortestNumbers() {
        ClothSchool x = Schools.of(10, 1);
        for (int b = 3; b < 6; b++) {
            Due.is("21: body " + b + " is not there yet", NONE, x.shortest(0, b, 1, 0));
            x.body(1, 1, 1, 1, 1, 1, 1, 1);
        }
        for (int s = 0; s < 10; s++) {
            Due.is("21: style " + s + " is not there yet", NONE, x.shortest(s, 0, 1, 0));
            Due.style(x, "wz");
        }
        Due.is("21: the last of all", 60, x.shortest(9, 5, 4, 60));
        Due.is("21: the first of all", 10, x.shortest(0, 0, 1, 0));
        Due.is("21: style 10", NONE, x.shortest(10, 0, 1, 0));
        Due.is("21: body 6", NONE, x.shortest(0, 6, 1, 0));
        Due.is("21: height 0", NONE, x.shortest(0, 0, 0, 0));
        Due.is("21: height 5", NONE, x.shortest(0, 0, 5, 0));
        Due.is("21: z 61", NONE, x.shortest(0, 0, 1, 61));
        for (int off : FAR) {
            Due.is("21: style " + off, NONE, x.shortest(off, 0, 1, 0));
            Due.is("21: body " + off, NONE, x.shortest(0, off, 1, 0));
            Due.is("21: height " + off, NONE, x.shortest(0, 0, off, 0));
            Due.is("21: z " + off, NONE, x.shortest(0, 0, 1, off));
        }
        for (int z = 0; z <= 60; z++) {
            Due.is("21: z " + z, Math.max(10, z), x.shortest(3, 0, 1, z));
        }
        Due.is("12: nothing was draped by it", NONE, x.look(0));
        Due.is("21: no cloth is needed", 12, noCloth());
    }

    private static int noCloth() {
        ClothSchool x = new ClothSchool();
        x.body(1, 1, 1, 1, 1, 1, 1, 1);
        return x.shortest(Due.style(x, "w12"), 0, 1, 0);
    }

    private static void shortestByHeight() {
        for (int height = 1; height <= 4; height++) {
            Due.is("21: height " + height, Math.max(10, 9 * height), shortest("w9", 1, height, 0));
            Due.is("21: up, height " + height, 10, shortest("u" + (8 - height), 0, height, 0));
            Due.is("21: above ring 7, height " + height, NONE, shortest("u" + (9 - height), 0, height, 0));
            Due.is("21: s, height " + height, 10, shortest("u" + (8 - height) + ";s", 0, height, 0));
            Due.is("21: s elsewhere, height " + height, NONE, shortest("u" + (7 - height) + ";s", 0, height, 0));
        }
        for (String broken : new String[] {"d1", "s", "w0-1", "p1.0", "w201", "x=1/0", "t", "u8", "w9;[2:u1];d3"}) {
            Due.is("21: " + broken, NONE, shortest(broken, 0, 1, 0));
        }
    }

    /** By l a longer cloth may break where a shorter one does not. */
    private static void shortestNotAlwaysLonger() {
        Due.is("21: only of 10", 10, shortest("w0-(l-10)*(l-10)", 0, 1, 0));
        Due.is("21: only of 11", 11, shortest("w0-(l-11)*(l-11)", 0, 1, 0));
        Due.is("21: only of 399", 399, shortest("x=l-399;w0-x*x", 0, 1, 0));
        Due.is("21: only of 400", 400, shortest("x=l-400;w0-x*x", 0, 1, 0));
        Due.is("21: only of 401", NONE, shortest("x=l-401;w0-x*x", 0, 1, 0));
        Due.is("21: only of 9", NONE, shortest("x=l-9;w0-x*x", 0, 1, 0));
        Due.is("21: two or more", 77, shortest("x=(l-77)*(l-123);[1/(1/(x*x+1)):r]", 0, 1, 0));
        Due.is("21: 5 as long as l is below 300", 300, shortest("x=1/(l/300)", 0, 1, 0));
        Due.is("21: 2 as long as l is below 100", 100, shortest("d1-l/100", 0, 1, 0));
        Due.is("21: 3 as long as l is below 100", 100, shortest("u7*(l/100);s", 0, 1, 0));
        Due.is("21: 6 as long as l is below 100", 100, shortest("[2-l/100:[150:[9:r]]]", 0, 1, 0));
        Due.is("21: t as long as l is below 100", 100, shortest("wl/100;t", 0, 1, 0));
        Due.is("21: l asked in no step that is done", NONE, shortest("[0:x=l];d1", 0, 1, 0));
        Due.is("21: l asked behind what breaks", NONE, shortest("d1;x=l", 0, 1, 0));
    }

    private static void shortestOfManySteps() {
        Due.is("21: 2000 steps", 10, shortest("[199:[9:r]];[8:r]", 0, 1, 0));
        Due.is("21: 2001 steps", NONE, shortest("[199:[9:r]];[9:r]", 0, 1, 0));
        Due.is("21: 2000 steps of a cell each time", 199, shortest("[199:w1;u0;r;f;u0;r;f;u0;x=l];[8:r]", 0, 1, 0));
        Due.is("21: 2001 steps of l", NONE, shortest("[199:w1;u0;r;f;u0;r;f;u0;x=l];[209:r]", 0, 1, 0));
    }

    private static int solve(String text, int length, int left, int fall) {
        ClothSchool x = Schools.of(length, 1);
        return x.solve(Due.style(x, text), 0, 0, left, fall);
    }

    /** No such ones (left 0 to 400, FALL -1 to 7). */
    private static void solveNumbers() {
        ClothSchool x = Schools.of(400, 1);
        for (int b = 3; b < 6; b++) {
            Due.is("22: body " + b + " is not there yet", NONE, x.solve(0, b, 0, 400, 0));
            x.body(1, 1, 1, 1, 1, 1, 1, 1);
        }
        for (int s = 0; s < 10; s++) {
            Due.is("22: style " + s + " is not there yet", NONE, x.solve(s, 0, 0, 400, 0));
            Due.style(x, "h0");
        }
        for (int c = 1; c < 6; c++) {
            Due.is("22: cloth " + c + " is not there yet", NONE, x.solve(0, 0, c, 400, 0));
            x.cloth(400, 1);
        }
        Due.is("22: the first of all", 0, x.solve(0, 0, 0, 400, 0));
        Due.is("22: the last of all", 0, x.solve(9, 5, 5, 400, 0));
        Due.is("22: style 10", NONE, x.solve(10, 0, 0, 400, 0));
        Due.is("22: body 6", NONE, x.solve(0, 6, 0, 400, 0));
        Due.is("22: cloth 6", NONE, x.solve(0, 0, 6, 400, 0));
        Due.is("22: left 401", NONE, x.solve(0, 0, 0, 401, 0));
        Due.is("22: fall 8", NONE, x.solve(0, 0, 0, 400, 8));
        Due.is("22: fall -2", NONE, x.solve(0, 0, 0, 400, -2));
        for (int off : FAR) {
            Due.is("22: style " + off, NONE, x.solve(off, 0, 0, 400, 0));
            Due.is("22: body " + off, NONE, x.solve(0, off, 0, 400, 0));
            Due.is("22: cloth " + off, NONE, x.solve(0, 0, off, 400, 0));
            Due.is("22: left " + off, NONE, x.solve(0, 0, 0, off, 0));
            Due.is("22: fall " + off, NONE, x.solve(0, 0, 0, 400, off));
        }
        Due.is("12: nothing was draped by it", NONE, x.look(0));
    }

    /** The least z (0 to 60). */
    private static void solveLeast() {
        for (int z = 0; z <= 62; z++) {
            Due.is("22: z of " + z + " alone", z <= 60 ? z : NONE, solve("u1;x=z-" + z + ";w0-x*x;h0", 40, 400, 1));
            Due.is("22: from " + z + " on", z <= 60 ? z : NONE, solve("u1;w(z-" + z + ");h0", 400, 400, 1));
        }
        Due.is("22: the least of all", 0, solve("h0", 40, 400, 0));
        Due.is("22: z given anew", 0, solve("z=60;u1;hz/60", 40, 400, 0));
    }

    /** Leaves no more cells than told. */
    private static void solveLeft() {
        for (int left = 0; left <= 40; left++) {
            Due.is("22: left " + left, 40 - left, solve("wz;h0", 40, left, 0));
        }
        Due.is("22: left 41", 0, solve("wz;h0", 40, 41, 0));
        Due.is("22: left 400", 0, solve("wz;h0", 400, 400, 0));
        Due.is("22: left 399", 1, solve("wz;h0", 400, 399, 0));
        Due.is("22: left 340", 60, solve("wz;h0", 400, 340, 0));
        Due.is("22: left 339", NONE, solve("wz;h0", 400, 339, 0));
        Due.is("22: left 0 of 60", 60, solve("wz;h0", 60, 0, 0));
        Due.is("22: left 0 of 61", NONE, solve("wz;h0", 61, 0, 0));
        Due.is("22: left by what is behind the h", 30, solve("h0;wz", 40, 10, 0));
    }

    /** FALL -1 to 7. */
    private static void solveFalls() {
        for (int fall = 0; fall <= 7; fall++) {
            Due.is("22: from ring 7 to " + fall, fall == 7 ? 0 : 5 * (6 - fall) + 1, solve("u7;hz", 400, 400, fall));
            Due.is("22: from ring 7 to " + fall + " by fives", 7 - fall, solve("u7;h5*z", 400, 400, fall));
        }
        Due.is("22: from ring 7 lower than 0", 36, solve("u7;hz", 400, 400, -1));
        Due.is("22: from ring 0 to 0", 0, solve("hz", 400, 400, 0));
        Due.is("22: from ring 0 lower", 1, solve("hz", 400, 400, -1));
        Due.is("22: not up", NONE, solve("u3;hz", 400, 400, 4));
        Due.is("22: from ring 3", 0, solve("u3;hz", 400, 400, 3));
    }

    /** Has such a FALL as told at its last h. */
    private static void solveLastHang() {
        Due.is("22: the last of two", 6, solve("u3;h15;hz", 400, 400, 1));
        Due.is("22: not the first of two", NONE, solve("u3;hz;h0", 400, 400, 1));
        Due.is("22: what is behind it is no fall", 0, solve("u3;h5;d2", 400, 400, 2));
        Due.is("22: no h", NONE, solve("u3;wz", 400, 400, -1));
        Due.is("22: no h", NONE, solve("wz", 400, 400, 0));
        Due.is("22: h from z 2 on", 2, solve("[z/2:h1]", 400, 400, -1));
        Due.is("22: no h of a row not done", NONE, solve("[0:h1];wz", 400, 400, -1));
        Due.is("22: h of z 0 is none of z 1", NONE, solve("[1-z:h0]", 400, 400, -1));
        ClothSchool x = Schools.of(40, 1);
        Due.style(x, "u1;h1;h9");
        Due.style(x, "u1;w1");
        Due.is("22: an h", 0, x.solve(0, 0, 0, 400, -1));
        Due.is("22: the other style has none", NONE, x.solve(1, 0, 0, 400, -1));
        Due.is("22: as many as z", 3, solve("u3;[z:d1;h0];h0", 400, 400, 0));
    }

    /** For which it does not BREAK. */
    private static void solveUnbroken() {
        Due.is("22: 1 above 30", NONE, solve("w10;h0;w30+z;h1", 40, 400, -1));
        Due.is("22: 2 above 0", 0, solve("h0;dz", 40, 400, 0));
        Due.is("22: 2 at 0", NONE, solve("h0;dz+1", 40, 400, 0));
        Due.is("22: 4 below 7", 7, solve("h0;wz-7", 40, 400, 0));
        Due.is("22: 5 below 7", 7, solve("h0;x=1/(z/7)", 40, 400, 0));
        Due.is("22: 3 below 7", 7, solve("h0;uz;s", 40, 400, 0));
        Due.is("22: t below 7", 7, solve("h0;wz/7;t", 40, 400, 0));
        Due.is("22: too many steps below 7", 7, solve("h0;[7/(z+1):[200:[9:r]]]", 40, 400, 0));
        Due.is("22: by the cloth's height", NONE, byHeight(2, 7));
        Due.is("22: by the cloth's height", 6, byHeight(2, 6));
        Due.is("22: by the cloth's height", 7, byHeight(1, 7));
    }

    private static int byHeight(int height, int fall) {
        ClothSchool x = Schools.of(40, height);
        return x.solve(Due.style(x, "uz;h0"), 0, 0, 400, fall);
    }

    /** A school of which the cloth of so many cells has the colours 1 to 4 of rows, 5 of the end, 6 of the wrong side. */
    private static ClothSchool coloured(int length, int height) {
        ClothSchool x = Schools.of(length, height);
        for (int row = 0; row < 6; row++) {
            x.colour(0, row, row + 1);
        }
        return x;
    }

    private static int read(ClothSchool x, int b, String signs) {
        Due.feed(x, signs);
        return x.read(b, 0);
    }

    private static String with(String signs, int at, char sign) {
        return signs.substring(0, at) + sign + signs.substring(at + 1);
    }

    /** The picture of what is draped now. */
    private static String picture(ClothSchool x) {
        StringBuilder signs = new StringBuilder();
        for (int ring = 0; ring < 8; ring++) {
            for (int sector = 0; sector < 8; sector++) {
                signs.append((char) ('0' + x.shows(ring, sector)));
            }
        }
        return signs.toString();
    }

    private static void firstIs(String call, ClothSchool x, int... acts) {
        for (int k = 0; k < 4; k++) {
            Due.is("24: act " + k + " of " + call, k < acts.length ? acts[k] : NONE, x.wrote(k));
        }
        Due.is("24: 4", NONE, x.wrote(4));
        for (int off : FAR) {
            Due.is("24: " + off, NONE, x.wrote(off));
        }
    }

    /** A digit 0 to 7 a COLOUR, 8 nothing, ? anything; a sign that can't be. */
    private static void signsOfPictures() {
        String any = "?".repeat(64);
        ClothSchool x = null;
        for (int sign = 0; sign < 256; sign++) {
            if (sign % 30 == 0) {
                x = coloured(10, 1);
                Due.is("23: all", 2628, read(x, 0, any));
            }
            boolean can = sign >= '0' && sign <= '8' || sign == '?';
            int got = read(x, 0, with(any, 0, (char) sign));
            Due.is("23: the sign " + sign, can, got != NONE);
            Due.is("23: the tape is empty", 0, x.count(3));
            if (can) {
                read(x, 0, any);
            }
            Due.is("24: the first read last", 0, x.wrote(0));
        }
        for (int at = 0; at < 64; at++) {
            x = coloured(10, 1);
            Due.is("23: no sign at " + at, NONE, read(x, 0, with(any, at, '9')));
            Due.is("23: the tape is empty", 0, x.count(3));
            Due.is("23: no colour of it at " + at, 0, read(x, 0, with(any, at, '7')));
            Due.is("23: nothing at " + at, true, read(x, 0, with(any, at, '8')) > 0);
            Due.is("23: anything at " + at, 2628, read(x, 0, any));
        }
    }

    /** RING by RING from 0 on, each SECTOR by SECTOR. */
    private static void placesOfPictures() {
        String none = "8".repeat(64);
        ClothSchool x = coloured(10, 1);
        Due.is("23: ring 0, sector 0", true, read(x, 0, with(none, 0, '1')) > 0);
        firstIs("ring 0, sector 0", x, 0);
        Due.is("23: ring 1, sector 0", true, read(x, 0, with(none, 8, '1')) > 0);
        firstIs("ring 1, sector 0", x, 5, 0);
        Due.is("23: ring 2, sector 0", true, read(x, 0, with(none, 16, '1')) > 0);
        firstIs("ring 2, sector 0", x, 5, 5, 0);
        Due.is("23: ring 3, sector 0, the wrong side", 0, read(x, 0, with(none, 24, '6')));
        firstIs("ring 3, sector 0, the wrong side", x);
        Due.is("23: sectors 0 and 1", true, read(x, 0, with(with(none, 0, '1'), 1, '1')) > 0);
        firstIs("sectors 0 and 1", x, 1);
        Due.is("23: sectors 0 and 7", true, read(x, 0, with(with(none, 0, '1'), 7, '1')) > 0);
        firstIs("sectors 0 and 7", x, 7, 1);
        Due.is("23: ring 7, sector 0", 0, read(x, 0, with(none, 56, '1')));
        x = coloured(10, 4);
        Due.is("23: four rings", true, read(x, 0, with(with(with(with(none, 0, '1'), 8, '2'), 16, '3'), 24, '4')) > 0);
        firstIs("four rings", x, 0);
    }

    /** The first 64 bytes of the tape (empty then); not so many bytes (the tape stays). */
    private static void tapeOfPictures() {
        ClothSchool x = coloured(10, 1);
        Due.is("23: an empty tape", NONE, x.read(0, 0));
        for (int n = 20; n <= 60; n += 20) {
            Due.feed(x, "?".repeat(20));
            Due.is("23: " + n + " bytes", NONE, x.read(0, 0));
            Due.is("23: the tape stays", n, x.count(3));
        }
        Due.feed(x, "????");
        Due.is("23: blanks behind the 64 are no part", 2628, x.read(0, 0));
        Due.is("23: empty then", 0, x.count(3));
        Due.is("23: empty", NONE, x.read(0, 0));
        Due.feed(x, "8".repeat(63) + "1" + "x".repeat(56));
        Due.is("23: what is behind the 64 is no part", 0, x.read(0, 0));
        Due.is("23: all 120 are gone", 0, x.count(3));
        Due.feed(x, "?".repeat(63) + "x?");
        Due.is("23: the 64th is one", NONE, x.read(0, 0));
        Due.is("23: empty then", 0, x.count(3));
    }

    /** NONE: no such ones, not so many bytes, a sign that can't be; the row read last stays. */
    private static void picturesRefused() {
        ClothSchool x = coloured(10, 1);
        Due.is("24: nothing was read", NONE, x.wrote(0));
        Due.is("23: r and w2", true, read(x, 0, with(with("8".repeat(64), 0, '1'), 7, '1')) > 0);
        Due.feed(x, "?".repeat(60));
        Due.is("23: 60 bytes", NONE, x.read(0, 0));
        firstIs("60 bytes", x, 7, 1);
        Due.feed(x, "????");
        for (int off : new int[] {-1, 3, 6, Integer.MIN_VALUE, Integer.MAX_VALUE}) {
            Due.is("23: body " + off, NONE, x.read(off, 0));
            Due.is("23: cloth " + off, NONE, x.read(0, off == 3 ? 1 : off));
            Due.is("23: the tape stays", 80, x.count(3));
        }
        firstIs("no such body", x, 7, 1);
        Due.is("23: as it was", 2628, x.read(0, 0));
        firstIs("all", x, 0);
        Due.is("23: no sign", NONE, read(x, 0, "?".repeat(63) + "x"));
        firstIs("no sign", x, 0);
        Due.is("23: none shows it", 0, read(x, 0, "7".repeat(64)));
        firstIs("none", x);
    }

    private static void firstOfDraped(String text, int end, int... acts) {
        ClothSchool x = coloured(60, 2);
        x.end(0, end);
        Schools.drape(x, text, 0, 0);
        String signs = picture(x);
        Due.is("23: " + text, true, read(x, 0, signs) > 0);
        firstIs(text, x, acts);
        Due.is("12: the drape stays", text.startsWith("u1") ? 1 : 0, x.layer(0, 1));
    }

    /** Numbered 0 to 10 in this order. */
    private static void eachActAlone() {
        firstOfDraped("w1", 0, 0);
        firstOfDraped("w2", 0, 1);
        firstOfDraped("w4", 0, 2);
        firstOfDraped("w8", 0, 3);
        // the pleats' last begins at cell 6, w1 at cell 0
        firstOfDraped("p2.2", 54, 4);
        firstOfDraped("p2.2", 53, 0);
        firstOfDraped("p2.2", 60, 0);
        firstOfDraped("u1;w2", 0, 5, 1);
        firstOfDraped("u1;w2;d1;w2", 0, 5, 1, 6, 1);
        firstOfDraped("r;w2", 0, 7, 1);
        firstOfDraped("f;w2", 0, 8, 1);
        ClothSchool x = coloured(60, 2);
        Schools.drape(x, "u1;h9", 0, 0);
        String signs = picture(x);
        Due.is("23: h9", true, read(x, 0, signs) > 0);
        firstIs("h9", x, 5, 10);
        Schools.drape(x, "w1;u1;w1;d1;w1", 0, 0);
        signs = picture(x);
        Due.is("23: five acts are too many", 0, read(x, 0, signs));
        // ring 7 is four u1 off for four rows, so s is never done in a row
        x = coloured(60, 4);
        Schools.drape(x, "u4;s;w1", 0, 0);
        signs = picture(x);
        Due.is("23: u1 four times, s and w1 are too many", 0, read(x, 0, signs));
    }

    /** The first: of fewest, of like ones the least row. */
    private static void fewestThenLeast() {
        ClothSchool x = coloured(60, 1);
        String none = "8".repeat(64);
        Due.is("23: nothing at all", true, read(x, 0, none) > 0);
        firstIs("nothing: u1 is the least that lays nothing", x, 5);
        Due.is("23: p2.2 or w1", true, read(x, 0, with(none, 0, '1')) > 0);
        firstIs("p2.2 or w1", x, 0);
        Due.is("23: f", true, read(x, 0, with(none, 0, '6')) > 0);
        firstIs("f;w1, f;p2.2", x, 8, 0);
        Due.is("23: w2 rather than w1;w1", true, read(x, 0, with(with(none, 0, '1'), 1, '1')) > 0);
        firstIs("w2 rather than w1;w1", x, 1);
        Due.is("23: three", true, read(x, 0, "111" + none.substring(3)) > 0);
        firstIs("w1;w2 ahead of w1;w1;w1 and w2;w1", x, 0, 1);
        Due.is("23: four of another side", true, read(x, 0, "16" + none.substring(2)) > 0);
        firstIs("w1;f;w1", x, 0, 8, 0);
        Due.is("23: p2.2, u1, w1 rather than u1, u1, h9", true, read(x, 0, "1" + none.substring(1, 8) + "1" + none.substring(9)) > 0);
        firstIs("two rings", x, 4, 5, 0);
    }

    /** Rows of one to four of the ACTS. */
    private static void upToFourActs() {
        ClothSchool x = coloured(60, 1);
        String none = "8".repeat(64);
        Due.is("23: ring 3", 1, read(x, 0, with(with(none, 24, '1'), 25, '1')));
        firstIs("u1;u1;u1;w2", x, 5, 5, 5, 1);
        Due.is("23: ring 4 is five acts off", 0, read(x, 0, with(none, 32, '1')));
        firstIs("ring 4", x);
        Due.is("23: 15 winds", 0, read(x, 0, "7" + none.substring(1)));
    }

    /** How many: by hand, of a cloth of ten cells on rings of nine. */
    private static void rowsCounted() {
        ClothSchool x = Schools.of(10, 1);
        x.body(9, 9, 9, 9, 9, 9, 9, 9);
        x.colour(0, 0, 1);
        x.colour(0, 5, 2);
        // of two, three, four acts with f and w1 1, 5, 18, with f and p2.2 1, 5, 23, with u1, f and h9 0, 2, 10
        Due.is("23: the wrong side in one place", 65, read(x, 3, "2" + "8".repeat(63)));
        firstIs("the wrong side in one place", x, 8, 0);
        Due.is("23: what lies elsewhere takes too many cells", 65, read(x, 3, "2" + "?".repeat(63)));
        Due.is("23: two wide winds are too much", 0, read(x, 3, "11" + "8".repeat(62)));
    }

    /** Those that don't BREAK: by the last cell. */
    private static void cellsOfRows() {
        String none = "8".repeat(64);
        for (int length = 10; length <= 14; length++) {
            ClothSchool x = coloured(length, 1);
            Due.is("23: half and half on " + length, true, read(x, 0, "66661111" + none.substring(8)) > 0);
            firstIs("w8;f;w4 takes 12 cells of " + length, x, length < 12 ? new int[] {8, 2, 8, 2} : new int[] {3, 8, 2});
        }
        for (int length = 31; length <= 33; length++) {
            // w8 of the end alone behind three that take 24 cells (w8, p2.2) or 25 (h9 among them)
            ClothSchool x = coloured(length, 4);
            x.end(0, length - 24);
            Due.is("23: four rounds on " + length, length < 32 ? 0 : length == 32 ? 8 : 20, read(x, 0, "5".repeat(32) + none.substring(32)));
            firstIs("four rounds on " + length, x, length < 32 ? new int[0] : new int[] {3, 3, 3, 3});
        }
        String hanging = with(with(none, 0, '5'), 8, '1');
        for (int length = 10; length <= 12; length++) {
            // the end begins at cell 7, where the second layer that hangs does
            ClothSchool x = coloured(length, 1);
            x.end(0, length - 7);
            Due.is("23: u1;u1;h9 on " + length, length >= 11, read(x, 0, hanging) > 0);
            firstIs("u1;u1;h9 takes 11 cells of " + length, x, length < 11 ? new int[0] : new int[] {5, 5, 10});
        }
    }

    /** On BODY b with CLOTH c. */
    private static void bodiesAndClothsOfPictures() {
        String none = "8".repeat(64);
        ClothSchool x = coloured(60, 1);
        x.cloth(60, 2);
        x.colour(1, 0, 3);
        x.colour(1, 1, 4);
        Due.feed(x, with(with(none, 0, '3'), 8, '4'));
        Due.is("23: on cloth 0", 0, x.read(0, 0));
        Due.feed(x, with(with(none, 0, '3'), 8, '4'));
        Due.is("23: on cloth 1", true, x.read(2, 1) > 0);
        firstIs("on cloth 1", x, 0);
        // rings of nine take 72 cells for w8, those of one take 8
        Due.feed(x, "11111111" + none.substring(8));
        Due.is("23: on body 2", 0, x.read(2, 0));
        Due.feed(x, "11111111" + none.substring(8));
        Due.is("23: on body 0", true, x.read(0, 0) > 0);
        for (int c = 2; c < 6; c++) {
            x.cloth(10, 1);
        }
        for (int b = 3; b < 6; b++) {
            x.body(1, 1, 1, 1, 1, 1, 1, 1);
        }
        Due.feed(x, "?".repeat(64));
        Due.is("23: the last body and cloth", 2628, x.read(5, 5));
    }

    private static void emptyAndFullPictures() {
        ClothSchool x = coloured(400, 4);
        Due.is("23: anything at all", true, read(x, 0, "?".repeat(64)) > 0);
        firstIs("anything at all", x, 0);
        Due.is("23: the lower half is laid", true, read(x, 0, "1111111122222222333333334444444488888888".concat("8".repeat(24))) > 0);
        firstIs("the lower half", x, 3);
        Due.is("23: the wrong side of it", true, read(x, 0, "6".repeat(32) + "8".repeat(32)) > 0);
        firstIs("the wrong side of it", x, 8, 3);
        Due.is("23: all of it can't be", 0, read(x, 0, "6".repeat(64)));
        firstIs("all of it", x);
    }
}
