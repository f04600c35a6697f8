/** The edges of what is kept: bodies, cloths, colours, ends, the tape, and what count tells of them. */
public final class StoresTest {
    private static final int NONE = ClothSchool.NONE;
    private static final int[] FAR = {Integer.MIN_VALUE, Integer.MIN_VALUE + 1, -1000, 1000, Integer.MAX_VALUE - 1, Integer.MAX_VALUE};

    public static void main(String[] args) {
        nothingIsThere();
        objectsApart();
        widthEdges();
        sixBodies();
        lengthEdges();
        heightEdges();
        sixCloths();
        colourEdges();
        coloursAboveHeight();
        endEdges();
        endsApart();
        tapeFills();
        bytesInOrder();
        countsOfFew();
        countsOfAll();
        countsFarOff();
        Due.close();
    }

    /** Promise 1: No BODIES, CLOTHS, STYLES; nothing draped. */
    private static void nothingIsThere() {
        ClothSchool x = new ClothSchool();
        for (int what = 0; what < 220; what++) {
            Due.is("1: count " + what, what < 4 ? 0 : NONE, x.count(what));
        }
        x = new ClothSchool();
        for (int what = 0; what < 12; what++) {
            Due.is("1: look " + what, NONE, x.look(what));
        }
        Due.is("1: colour", false, x.colour(0, 0, 0));
        Due.is("1: end", false, x.end(0, 0));
        Due.is("1: style", NONE, x.style(1));
        Due.is("1: drape", NONE, x.drape(0, 0, 0, 0));
        Due.is("1: shows", NONE, x.shows(0, 0));
        Due.is("1: layers", NONE, x.layers(0, 0));
        Due.is("1: layer", NONE, x.layer(0, 0));
        Due.is("1: strength", NONE, x.strength(0));
        Due.is("1: pull", NONE, x.pull(0, 0));
        Due.is("1: moves", NONE, x.moves(1));
        Due.is("1: slipped", NONE, x.slipped(0));
        Due.is("1: after", NONE, x.after(0, 0));
        Due.is("1: fix", NONE, x.fix());
        Due.is("1: breaths", NONE, x.breaths());
        Due.is("1: shortest", NONE, x.shortest(0, 0, 1, 0));
        Due.is("1: solve", NONE, x.solve(0, 0, 0, 400, -1));
        Due.is("1: read", NONE, x.read(0, 0));
        Due.is("1: wrote", NONE, x.wrote(0));
        Due.is("1: the first body", 0, x.body(1, 1, 1, 1, 1, 1, 1, 1));
        Due.is("1: the first cloth", 0, x.cloth(10, 1));
        Due.is("1: an empty tape", 20, x.feed(0x743B743B, 0x743B743B, 0x743B743B, 0x743B743B, 0x743B743B));
        Due.is("1: the first style", 0, x.style(1));
    }

    /** Use of one object says nothing to another. */
    private static void objectsApart() {
        ClothSchool x = Schools.draped("w3", 40);
        for (int m = 0; m < 6; m++) {
            for (int r = 0; r < 8; r++) {
                x.stretch(m, r, 9);
            }
        }
        Due.moves(x, 0, 1, 2, 3, 4, 5);
        Due.is("14: stretched", 27, x.pull(5, 0));
        Due.feed(x, "8".repeat(20));
        ClothSchool other = new ClothSchool();
        for (int what = 0; what < 4; what++) {
            Due.is("1: another's count " + what, 0, other.count(what));
        }
        Due.is("1: another's drape", NONE, other.look(0));
        Due.is("1: another's moves", NONE, other.slipped(0));
        other = Schools.draped("w3", 40);
        for (int m = 0; m < 6; m++) {
            Due.is("1: another's stretches", 0, other.pull(m, 0));
        }
        Due.is("16: without stretches none slips", 0, Due.moves(other, 0, 1, 2, 3, 4, 5));
        Due.is("14: the first's stay", 27, x.pull(0, 0));
    }

    private static int body(ClothSchool x, int[] w) {
        return x.body(w[0], w[1], w[2], w[3], w[4], w[5], w[6], w[7]);
    }

    /** Each of a WIDTH (1 to 9 cells). */
    private static void widthEdges() {
        for (int r = 0; r < 8; r++) {
            ClothSchool x = new ClothSchool();
            int[] w = {5, 5, 5, 5, 5, 5, 5, 5};
            for (int off : new int[] {0, 10, -1, 255 + 2, Integer.MIN_VALUE, Integer.MAX_VALUE}) {
                w[r] = off;
                Due.is("2: ring " + r + " of width " + off, NONE, body(x, w));
                Due.is("2: is none", 0, x.count(0));
                Due.is("2: is none", NONE, x.count(10 + r));
            }
            w[r] = 1;
            Due.is("2: ring " + r + " of width 1", 0, body(x, w));
            w[r] = 9;
            Due.is("2: ring " + r + " of width 9", 1, body(x, w));
            for (int k = 0; k < 8; k++) {
                Due.is("25: ring " + k, k == r ? 1 : 5, x.count(10 + k));
                Due.is("25: ring " + k, k == r ? 9 : 5, x.count(18 + k));
            }
        }
    }

    /** NONE: 6 are there. */
    private static void sixBodies() {
        ClothSchool x = new ClothSchool();
        for (int b = 0; b < 6; b++) {
            Due.is("2: no width, ahead of body " + b, NONE, x.body(1, 1, 1, 1, 1, 1, 1, 0));
            Due.is("2: body " + b, b, x.body(b + 1, 1, 1, 1, 1, 1, 1, 9 - b));
            Due.is("25: bodies", b + 1, x.count(0));
        }
        Due.is("2: the seventh", NONE, x.body(9, 9, 9, 9, 9, 9, 9, 9));
        Due.is("2: the seventh without widths", NONE, x.body(0, 9, 9, 9, 9, 9, 9, 9));
        Due.is("25: bodies", 6, x.count(0));
        for (int b = 0; b < 6; b++) {
            Due.is("2: ring 0 of " + b + " as it was", b + 1, x.count(10 + 8 * b));
            Due.is("2: ring 7 of " + b + " as it was", 9 - b, x.count(17 + 8 * b));
        }
    }

    /** A LENGTH (10 to 400 cells). */
    private static void lengthEdges() {
        ClothSchool x = new ClothSchool();
        for (int length : new int[] {9, 401, 0, -10, Integer.MIN_VALUE, Integer.MAX_VALUE}) {
            Due.is("3: length " + length, NONE, x.cloth(length, 1));
            Due.is("3: is none", 0, x.count(1));
            Due.is("3: is none", NONE, x.count(100));
        }
        Due.is("3: length 10", 0, x.cloth(10, 1));
        Due.is("3: length 400", 1, x.cloth(400, 1));
        Due.is("25: length 10", 10, x.count(100));
        Due.is("25: length 400", 400, x.count(110));
    }

    /** A HEIGHT (1 to 4 rows). */
    private static void heightEdges() {
        ClothSchool x = new ClothSchool();
        for (int height : new int[] {0, 5, -1, Integer.MIN_VALUE, Integer.MAX_VALUE}) {
            Due.is("3: height " + height, NONE, x.cloth(40, height));
            Due.is("3: is none", 0, x.count(1));
        }
        for (int height = 1; height <= 4; height++) {
            Due.is("3: height " + height, height - 1, x.cloth(40, height));
            Due.is("25: height " + height, height, x.count(91 + 10 * height));
        }
    }

    /** NONE: 6 are there; COLOURS, END, END's COLOUR, WRONG side's as at first: 0. */
    private static void sixCloths() {
        ClothSchool x = new ClothSchool();
        for (int c = 0; c < 6; c++) {
            Due.is("3: no such, ahead of cloth " + c, NONE, x.cloth(9, 1));
            Due.is("3: no such, ahead of cloth " + c, NONE, x.cloth(10, 5));
            Due.is("3: cloth " + c, c, x.cloth(20 + c, 1 + c % 4));
            for (int k = 2; k < 9; k++) {
                Due.is("3: at first 0", 0, x.count(100 + 10 * c + k));
            }
            x.colour(c, 5, 7);
        }
        Due.is("3: the seventh", NONE, x.cloth(400, 4));
        Due.is("3: the seventh without a length", NONE, x.cloth(0, 4));
        Due.is("25: cloths", 6, x.count(1));
        for (int c = 0; c < 6; c++) {
            Due.is("3: as it was", 20 + c, x.count(100 + 10 * c));
            Due.is("3: as it was", 1 + c % 4, x.count(101 + 10 * c));
            Due.is("3: as it was", 7, x.count(108 + 10 * c));
        }
    }

    /** COLOURS (0 to 7 each) of a row (0 to 3; 4: of the END, 5: of the WRONG side). */
    private static void colourEdges() {
        int[] told = {2, 3, 4, 5, 7, 8};
        for (int row = 0; row < 6; row++) {
            ClothSchool x = Schools.of(40, 1);
            x.cloth(40, 4);
            for (int n = 0; n < 8; n++) {
                Due.is("4: row " + row + " of " + n, true, x.colour(0, row, n));
                Due.is("25: row " + row + " of " + n, n, x.count(100 + told[row]));
            }
            for (int n : new int[] {-1, 8, 256, Integer.MIN_VALUE, Integer.MAX_VALUE}) {
                Due.is("4: row " + row + " of " + n, false, x.colour(0, row, n));
                Due.is("4: as it was", 7, x.count(100 + told[row]));
            }
            for (int k = 2; k < 9; k++) {
                Due.is("4: no other", k == told[row] ? 7 : 0, x.count(100 + k));
                Due.is("4: no other cloth's", 0, x.count(110 + k));
            }
        }
        ClothSchool x = Schools.of(40, 1);
        for (int off : new int[] {-1, 6, Integer.MIN_VALUE, Integer.MAX_VALUE}) {
            Due.is("4: row " + off, false, x.colour(0, off, 1));
        }
        for (int off : new int[] {-1, 1, 6, Integer.MIN_VALUE, Integer.MAX_VALUE}) {
            Due.is("4: cloth " + off, false, x.colour(off, 0, 1));
        }
        for (int k = 2; k < 9; k++) {
            Due.is("4: refused ones change nothing", 0, x.count(100 + k));
        }
        for (int c = 1; c < 6; c++) {
            Due.is("4: cloth " + c + " is not there yet", false, x.colour(c, 0, 1));
            x.cloth(10, 1);
            Due.is("4: cloth " + c, true, x.colour(c, 0, 1));
        }
        Due.is("4: cloth 6", false, x.colour(6, 0, 1));
    }

    /** COLOURS of rows: those above the HEIGHT count for nothing. */
    private static void coloursAboveHeight() {
        for (int height = 1; height <= 4; height++) {
            ClothSchool x = Schools.of(60, height);
            for (int row = 0; row < 4; row++) {
                Due.is("4: row " + row + " of height " + height, true, x.colour(0, row, row + 1));
                Due.is("25: row " + row + " of height " + height, row + 1, x.count(102 + row));
            }
            Schools.drape(x, "w1", 0, 0);
            for (int ring = 0; ring < 8; ring++) {
                Due.is("9: ring " + ring + " of height " + height, ring < height ? ring + 1 : 8, x.shows(ring, 0));
            }
        }
    }

    /** An END of so many last cells (0 to LENGTH). */
    private static void endEdges() {
        for (int length : new int[] {10, 11, 399, 400}) {
            ClothSchool x = Schools.of(length, 1);
            Due.is("5: 1", true, x.end(0, 1));
            Due.is("25: 1", 1, x.count(106));
            for (int off : new int[] {-1, length + 1, 401, Integer.MIN_VALUE, Integer.MAX_VALUE}) {
                Due.is("5: " + off + " of " + length, false, x.end(0, off));
                Due.is("5: as it was", 1, x.count(106));
            }
            Due.is("5: all of " + length, true, x.end(0, length));
            Due.is("25: all of " + length, length, x.count(106));
            Due.is("5: 0 of " + length, true, x.end(0, 0));
            Due.is("25: 0 of " + length, 0, x.count(106));
        }
        ClothSchool x = Schools.of(40, 1);
        for (int off : new int[] {-1, 1, 6, Integer.MIN_VALUE, Integer.MAX_VALUE}) {
            Due.is("5: cloth " + off, false, x.end(off, 0));
        }
        for (int c = 1; c < 6; c++) {
            Due.is("5: cloth " + c + " is not there yet", false, x.end(c, 10));
            x.cloth(10, 1);
            Due.is("5: cloth " + c, true, x.end(c, 10));
        }
        Due.is("5: cloth 6", false, x.end(6, 0));
    }

    private static void endsApart() {
        ClothSchool x = Schools.of(40, 1);
        x.cloth(30, 1);
        Due.is("5: by its own length", false, x.end(1, 31));
        Due.is("5: by its own length", true, x.end(0, 31));
        Due.is("5: by its own length", true, x.end(1, 30));
        Due.is("5: of its own", 31, x.count(106));
        Due.is("5: of its own", 30, x.count(116));
    }

    /** Twenty bytes come behind the tape; NONE if that would be more than 120. */
    private static void tapeFills() {
        ClothSchool x = new ClothSchool();
        for (int n = 20; n <= 120; n += 20) {
            Due.is("25: the tape ahead of it", n - 20, x.count(3));
            Due.is("6: the tape", n, x.feed(n, n, n, n, n));
            Due.is("25: the tape", n, x.count(3));
        }
        for (int i = 0; i < 3; i++) {
            Due.is("6: 121 to 140", NONE, x.feed(1, 1, 1, 1, 1));
            Due.is("6: it stays", 120, x.count(3));
        }
        Due.is("7: empty then", -1000, x.style(1));
        Due.is("6: anew", 20, x.feed(1, 1, 1, 1, 1));
        x = new ClothSchool();
        // the refused bytes come from nowhere later
        Due.feed(x, "w1;".repeat(40));
        Due.is("6: full", NONE, x.feed(0x3B713B71, 0, 0, 0, 0));
        Due.is("6: it stays as it was", 0, x.style(119));
        Due.is("25: its letters", 40, x.count(200));
    }

    /** The highest byte of each int first. */
    private static void bytesInOrder() {
        String text = "w1+2+3-4*5/6+7+8-9+l";
        for (int at = 0; at < 20; at++) {
            byte[] bytes = text.getBytes(java.nio.charset.StandardCharsets.ISO_8859_1);
            bytes[at] = (byte) 0x80;
            int[] w = Due.words(bytes, 0);
            ClothSchool x = new ClothSchool();
            x.feed(w[0], w[1], w[2], w[3], w[4]);
            Due.is("6: byte " + at, -1000 - at, x.style(20));
        }
        String text120 = "w1" + "+1".repeat(59);
        for (int n = 1; n <= 120; n++) {
            ClothSchool x = new ClothSchool();
            Due.feed(x, text120);
            Due.is("6: the first " + n, n % 2 == 0 ? 0 : -1000 - n, x.style(n));
        }
    }

    private static void countsOfFew() {
        ClothSchool x = new ClothSchool();
        for (int b = 0; b < 6; b++) {
            Due.is("25: body " + b + " is not there yet", NONE, x.count(10 + 8 * b));
            x.body(1, 2, 3, 4, 5, 6, 7, 8);
            Due.is("25: its ring 0", 1, x.count(10 + 8 * b));
            Due.is("25: its ring 7", 8, x.count(17 + 8 * b));
            Due.is("25: behind it", NONE, x.count(18 + 8 * b));
        }
        for (int c = 0; c < 6; c++) {
            Due.is("25: cloth " + c + " is not there yet", NONE, x.count(100 + 10 * c));
            x.cloth(10 + c, 1);
            Due.is("25: its length", 10 + c, x.count(100 + 10 * c));
            Due.is("25: its wrong side", 0, x.count(108 + 10 * c));
            Due.is("25: k 9", NONE, x.count(109 + 10 * c));
            Due.is("25: behind it", NONE, x.count(110 + 10 * c));
        }
        for (int s = 0; s < 10; s++) {
            Due.is("25: style " + s + " is not there yet", NONE, x.count(200 + s));
            Due.style(x, "t;".repeat(4 * s + 3) + "t");
            Due.is("25: its letters", 4 * s + 4, x.count(200 + s));
            Due.is("25: styles", s + 1, x.count(2));
        }
        Due.is("25: a style of one letter", 1, letters("x=x+y*z-l/(g+k)-i"));
        Due.is("25: of each letter", 13, letters("w1;p1.1;t;u1;d1;r;f;s;h1;x=1;y=1;z=1;[1:t]") - 1);
        Due.is("25: however often they are done", 3, letters("[200:[200:t]]"));
    }

    private static int letters(String text) {
        ClothSchool x = new ClothSchool();
        Due.style(x, text);
        return x.count(200);
    }

    private static ClothSchool fullOfAll() {
        ClothSchool x = new ClothSchool();
        for (int b = 0; b < 6; b++) {
            x.body(1 + b, 1, 1, 1, 1, 1, 1, 4 + b % 6);
            x.cloth(40, 1);
        }
        for (int s = 0; s < 10; s++) {
            Due.style(x, "t");
        }
        for (int i = 0; i < 6; i++) {
            x.feed(1, 1, 1, 1, 1);
        }
        return x;
    }

    private static void countsOfAll() {
        ClothSchool x = fullOfAll();
        int[] most = {6, 6, 10, 120};
        for (int what = 0; what < 220; what++) {
            boolean told = what < 4 || what >= 10 && what < 58 || what >= 100 && what < 160 && what % 10 != 9 || what >= 200 && what < 210;
            Due.is("25: count " + what + " is told", told, x.count(what) != NONE);
            if (what < 4) {
                Due.is("25: count " + what, most[what], x.count(what));
            }
        }
    }

    private static void countsFarOff() {
        ClothSchool x = fullOfAll();
        for (int what : FAR) {
            Due.is("25: count " + what, NONE, x.count(what));
        }
        for (int what = -120; what < 0; what++) {
            Due.is("25: count " + what, NONE, x.count(what));
        }
    }
}
