/** The edges of holding: strength, stretches, pull, what slips at rows of moves, what would fix them, breaths. */
public final class HoldingEdgesTest {
    private static final int NONE = ClothSchool.NONE;
    private static final int[] FAR = {-1, Integer.MIN_VALUE, Integer.MAX_VALUE};

    public static void main(String[] args) {
        strengthOfWhichActs();
        uponIsLaterOfOthersThere();
        greatestNotAll();
        uponFarUp();
        pinsAndUpon();
        stretchEdges();
        pullEdges();
        pullByLayers();
        aboveNotEqual();
        lastFirst();
        allSlip();
        slippedHoldNone();
        rowsOfMoves();
        movesRefused();
        bytesOfMoves();
        slippedOfThisDrape();
        stretchesWhenTold();
        afterEdges();
        fixEdges();
        fixByOnePin();
        breathsEdges();
        Due.close();
    }

    /** NONE: there is none such. */
    private static void strengthOfWhichActs() {
        ClothSchool x = Schools.of(40, 1);
        Due.is("13: nothing was draped", NONE, x.strength(0));
        Schools.drape(x, "w3;u1;w2;t", 0, 0);
        int[] want = {0, 0, 4};
        for (int a = 0; a < 3; a++) {
            Due.is("13: act " + a, want[a], x.strength(a));
        }
        Due.is("13: act 3", NONE, x.strength(3));
        for (int a : FAR) {
            Due.is("13: act " + a, NONE, x.strength(a));
        }
        Schools.drape(x, "r;f", 0, 0);
        Due.is("13: no acts", NONE, x.strength(0));
        x = Schools.draped("[200:w1;w1]", 400);
        Due.is("13: the first of 400", 49, x.strength(0));
        Due.is("13: the last but eight", 1, x.strength(391));
        Due.is("13: the last of 400", 0, x.strength(399));
        Due.is("13: no 401st", NONE, x.strength(400));
    }

    private static int strength(String text, int height, int a) {
        return Schools.draped(text, 90, height, 0).strength(a);
    }

    /** UPON: LAYERS there (its SECTOR and RING) that were laid later, of other ACTS. */
    private static void uponIsLaterOfOthersThere() {
        Due.is("13: one later there", 1, strength("w1;r;w1;w1", 1, 0));
        Due.is("13: one later there, round about", 1, strength("w8;w1", 1, 0));
        Due.is("13: later, not earlier", 0, strength("w8;w8", 1, 1));
        Due.is("13: of other acts", 0, strength("w16", 1, 0));
        Due.is("13: of other acts", 0, strength("p9.1", 1, 0));
        Due.is("13: of this sector", 0, strength("w1;w7", 1, 0));
        Due.is("13: of this sector, round about", 1, strength("w1;w8", 1, 0));
        Due.is("13: of this ring", 0, strength("w8;u1;w8", 1, 0));
        Due.is("13: of this ring", 0, strength("u1;w8;d1;w8", 1, 1));
        Due.is("13: of this ring, by two rows", 1, strength("w8;u1;w8", 2, 0));
        Due.is("13: by two rows, two up", 0, strength("w8;u2;w8", 2, 0));
        Due.is("13: by four rows, three up", 1, strength("w8;u3;w8", 4, 0));
        Due.is("13: by four rows, four up", 0, strength("w8;u4;w8", 4, 0));
        Due.is("13: what hangs upon it", 1, strength("w8;u3;h15", 1, 0));
        Due.is("13: what hangs on the ring above it", 0, strength("w8;u3;h10", 1, 0));
        Due.is("13: upon what hangs", 2, strength("u3;h15;d2;p1.1", 1, 1));
        Due.is("13: each pleat is two", 6, strength("w8;p3.1", 1, 0));
        Due.is("13: an act without layers", 0, strength("w0;w8;w8", 1, 0));
    }

    /** Of all its LAYERS and RINGS the greatest number UPON. */
    private static void greatestNotAll() {
        Due.is("13: of two sectors", 4, strength("w8;p1.1;w1;p2.1", 1, 0));
        Due.is("13: of two rings", 4, strength("w8;p1.1;u1;p1.1", 2, 0));
        Due.is("13: of two rings, the upper more", 7, strength("w8;p3.1;u1;w1;p1.1", 2, 0));
        Due.is("13: of two rings, the lower alone", 6, strength("u1;w8;d1;p3.1", 2, 1));
        Due.is("13: of its first and its last layer", 1, strength("w8;r;w1;w1;r;w1", 1, 0));
        Due.is("13: of all but those in sector 0", 1, strength("w9;w7", 1, 0));
        Due.is("13: upon both in sector 0", 1, strength("w9;w8", 1, 0));
    }

    private static void uponFarUp() {
        Due.is("13: 398 upon it", 398, Schools.draped("p1.1;p199.1", 400).strength(0));
        ClothSchool x = Schools.draped("w8;p196.1", 400);
        Due.is("13: 392 upon it", 392, x.strength(0));
        Due.is("13: none upon them", 0, x.strength(1));
    }

    /** 4 for each PIN. */
    private static void pinsAndUpon() {
        Due.is("13: no pin", 2, strength("w8;p1.1", 1, 0));
        Due.is("13: a pin", 6, strength("w8;t;p1.1", 1, 0));
        Due.is("13: two pins", 10, strength("w8;t;t;p1.1", 1, 0));
        Due.is("13: another's pins", 2, strength("w8;p1.1;t;t", 1, 0));
        Due.is("13: two pins of pleats", 8, strength("w8;p1.1;t;t", 1, 1));
        Due.is("13: a pin told behind acts without layers", 4, strength("w8;u1;w0;t", 1, 0));
        Due.is("13: no pin of theirs", 0, strength("w8;u1;w0;t", 1, 2));
    }

    /** MOVES 0 to 5 stretch RINGS, 0 to 9 each. */
    private static void stretchEdges() {
        ClothSchool x = Schools.draped("[7:w1;u1];w1", 40);
        for (int m = 0; m < 6; m++) {
            for (int r = 0; r < 8; r++) {
                Due.is("14: at first", 0, x.pull(m, 2 * r));
                Due.is("14: told", true, x.stretch(m, r, (m + r) % 10));
            }
        }
        for (int m : new int[] {-1, 6, Integer.MIN_VALUE, Integer.MAX_VALUE}) {
            Due.is("14: move " + m, false, x.stretch(m, 0, 9));
        }
        for (int r : new int[] {-1, 8, Integer.MIN_VALUE, Integer.MAX_VALUE}) {
            Due.is("14: ring " + r, false, x.stretch(0, r, 9));
            Due.is("14: ring " + r, false, x.stretch(5, r, 9));
        }
        for (int n : new int[] {-1, 10, Integer.MIN_VALUE, Integer.MAX_VALUE}) {
            Due.is("14: stretched by " + n, false, x.stretch(3, 3, n));
        }
        for (int m = 0; m < 6; m++) {
            for (int r = 0; r < 8; r++) {
                Due.is("14: as told, " + m + " " + r, (m + r) % 10, x.pull(m, 2 * r));
            }
        }
        for (int n = 0; n < 10; n++) {
            Due.is("14: " + n, true, x.stretch(5, 7, n));
            Due.is("15: " + n, n, x.pull(5, 14));
        }
    }

    /** THE PULL of MOVE m on ACT a; NONE: no such ones. */
    private static void pullEdges() {
        ClothSchool x = Schools.of(40, 1);
        x.stretch(0, 0, 1);
        x.stretch(5, 0, 2);
        Due.is("15: nothing was draped", NONE, x.pull(0, 0));
        Schools.drape(x, "w3;u0;w2", 0, 0);
        Due.is("15: the first move and act", 3, x.pull(0, 0));
        Due.is("15: the last move and act", 4, x.pull(5, 2));
        Due.is("15: of no layers", 0, x.pull(5, 1));
        Due.is("15: act 3", NONE, x.pull(0, 3));
        Due.is("15: move 6", NONE, x.pull(6, 0));
        for (int off : FAR) {
            Due.is("15: act " + off, NONE, x.pull(0, off));
            Due.is("15: move " + off, NONE, x.pull(off, 0));
        }
        Schools.drape(x, "r", 0, 0);
        Due.is("15: no acts", NONE, x.pull(0, 0));
        x = Schools.draped("p200.1", 400);
        x.stretch(0, 0, 9);
        Due.is("15: 400 layers", 3600, x.pull(0, 0));
    }

    /** For each LAYER the greatest stretch of its RINGS, all together. */
    private static void pullByLayers() {
        ClothSchool x = Schools.draped("u2;w3;h8", 60, 4, 0);
        for (int r = 0; r < 8; r++) {
            x.stretch(0, r, 1);
            x.stretch(1, r, r == 2 ? 7 : 0);
            x.stretch(2, r, r == 5 ? 7 : 0);
            x.stretch(3, r, r == 6 ? 7 : 1);
            x.stretch(4, r, r + 1);
            x.stretch(5, r, 9 - r);
        }
        int[] winds = {3, 21, 21, 3, 18, 21};
        int[] hangs = {2, 0, 0, 2, 2 + 1, 8 + 9};
        for (int m = 0; m < 6; m++) {
            Due.is("15: of four rows, move " + m, winds[m], x.pull(m, 1));
            Due.is("15: of one row each, move " + m, hangs[m], x.pull(m, 2));
            Due.is("15: of none, move " + m, 0, x.pull(m, 0));
        }
    }

    private static int slips(String text, int stretch, int... more) {
        ClothSchool x = Schools.draped(text, 400);
        x.stretch(0, 0, stretch);
        for (int i = 0; i < more.length; i++) {
            x.stretch(0, i + 1, more[i]);
        }
        return Due.moves(x, 0);
    }

    /** Whose PULL is above its STRENGTH. */
    private static void aboveNotEqual() {
        Due.is("16: 0 is not above 0", 0, slips("w1", 0));
        Due.is("16: 1 is above 0", 1, slips("w1", 1));
        Due.is("16: 4 is not above a pin", 0, slips("w1;t", 4));
        Due.is("16: 5 is above a pin", 1, slips("w1;t", 5));
        Due.is("16: 8 is not above two pins", 0, slips("w1;t;t", 8));
        Due.is("16: 9 is above two pins", 1, slips("w1;t;t", 9));
        Due.is("16: an act without layers never slips", 0, slips("u1;d1;w0;h0", 9, 9, 9));
        Due.is("16: one upon it holds one", 0, slips("w1;w8;t;t;t;t", 1));
        Due.is("16: one upon it doesn't hold two", 1, slips("w1;w8;t;t;t;t", 2));
        Due.is("16: neither holds", 2, slips("w1;w8;t;t;t", 2));
    }

    /** The last ACT SLIPS, and so on, till none does. */
    private static void lastFirst() {
        ClothSchool x = Schools.draped("w1;u1;w1;d1;w1;t;w1", 40);
        x.stretch(0, 0, 5);
        x.stretch(1, 1, 1);
        x.stretch(2, 0, 4);
        Due.is("16: three on ring 0", 3, Due.moves(x, 0));
        int[] want = {5, 4, 0, NONE};
        for (int i = 0; i < 4; i++) {
            Due.is("17: " + i, want[i], x.slipped(i));
        }
        Due.is("16: but the pin", 2, Due.moves(x, 2));
        Due.is("17: the last first", 5, x.slipped(0));
        Due.is("17: then the first", 0, x.slipped(1));
        Due.is("16: ring 1, then ring 0", 4, Due.moves(x, 1, 0));
        int[] both = {2, 5, 4, 0, NONE};
        for (int i = 0; i < 5; i++) {
            Due.is("17: both, " + i, both[i], x.slipped(i));
        }
        for (int i : FAR) {
            Due.is("17: " + i, NONE, x.slipped(i));
        }
    }

    private static void allSlip() {
        ClothSchool x = Schools.draped("[200:w1;w1]", 400);
        x.stretch(0, 0, 1);
        x.stretch(1, 0, 4);
        Due.is("16: 400", 400, Due.moves(x, 0));
        for (int i = 0; i < 400; i += 57) {
            Due.is("17: " + i + " of 400", 399 - i, x.slipped(i));
        }
        Due.is("17: the last of 400", 0, x.slipped(399));
        Due.is("17: no 401st", NONE, x.slipped(400));
        Due.is("18: nothing is left", 8, x.after(0, 0));
        Schools.drape(x, "[200:w1;w1];t", 0, 0);
        Due.is("16: a pin holds 50 in its sector", 350, Due.moves(x, 0));
        Due.is("18: there", 0, x.after(0, 7));
        Due.is("18: beside it", 8, x.after(0, 6));
        Due.is("16: one upon it doesn't hold four", 399, Due.moves(x, 1));
        Due.is("17: all but the last", 398, x.slipped(0));
    }

    /** Of other ACTS that have not SLIPPED; what SLIPPED is not laid any more. */
    private static void slippedHoldNone() {
        ClothSchool x = Schools.draped("w8;u1;d1;p1.1", 40);
        x.stretch(0, 0, 1);
        Due.is("16: 8 is above 2", 2, Due.moves(x, 0));
        Schools.drape(x, "p1.1;p1.1;p1.1;t", 0, 0);
        Due.is("16: each holds the one below it", 0, Due.moves(x, 0));
        Schools.drape(x, "p1.1;p1.1;p1.1", 0, 0);
        Due.is("16: when the last slips each is bare", 3, Due.moves(x, 0));
        // act 2 lies on ring 1 upon act 0 alone, and holds it till it slips
        x = Schools.draped("w1;w7;u1;w1", 40, 2, 0);
        x.stretch(0, 0, 1);
        x.stretch(1, 2, 1);
        Due.is("16: held by the upper row", 1, Due.moves(x, 0));
        Due.is("17: what it doesn't hold", 1, x.slipped(0));
        Due.is("16: bared by the move ahead", 3, Due.moves(x, 1, 0));
        Due.is("17: the upper first", 3, x.slipped(0));
        Due.is("17: then the last", 1, x.slipped(1));
        Due.is("17: then what was bared", 0, x.slipped(2));
        Due.is("16: the other way round it stays", 2, Due.moves(x, 0, 1));
        Due.is("13: nothing SLIPPED for strength", 1, x.strength(0));
        Due.is("16: none slips twice", 3, Due.moves(x, 1, 1, 0, 0, 1, 0));
    }

    /** A row of MOVES (one to six) is done one behind the other. */
    private static void rowsOfMoves() {
        ClothSchool x = Schools.draped("[5:w1;u1];w1", 40);
        for (int m = 0; m < 6; m++) {
            x.stretch(m, m, 1);
        }
        Due.is("16: one", 1, Due.moves(x, 5));
        Due.is("17: ring 5's", 10, x.slipped(0));
        Due.is("16: six", 6, Due.moves(x, 3, 1, 4, 0, 5, 2));
        int[] want = {6, 2, 8, 0, 10, 4, NONE};
        for (int i = 0; i < 7; i++) {
            Due.is("17: six, " + i, want[i], x.slipped(i));
        }
        Due.is("16: anew, all are there", 1, Due.moves(x, 0));
        Due.is("17: anew", NONE, x.slipped(1));
        Due.is("16: the same twice", 1, Due.moves(x, 2, 2));
    }

    /** NONE: nothing was draped, no such n, MOVES, it has not so many (the tape stays but for MOVES). */
    private static void movesRefused() {
        ClothSchool x = Schools.of(40, 1);
        x.stretch(0, 0, 1);
        x.feed(0, 0, 0, 0, 0);
        Due.is("16: nothing was draped", NONE, x.moves(1));
        Due.is("16: the tape stays", 20, x.count(3));
        Due.is("7: a fault", -1000, x.style(1));
        Schools.drape(x, "w2", 0, 0);
        Due.is("16: no bytes", NONE, x.moves(1));
        Due.is("19: no moves were told", NONE, x.fix());
        x.feed(0, 0, 0, 0, 0);
        for (int n : new int[] {0, 7, 20, 21, 120, -1, Integer.MIN_VALUE, Integer.MAX_VALUE}) {
            Due.is("16: n " + n, NONE, x.moves(n));
            Due.is("16: the tape stays", 20, x.count(3));
            Due.is("19: no moves were told", NONE, x.fix());
            Due.is("18: no moves were told", NONE, x.after(0, 0));
        }
        Due.is("16: n 6", 1, x.moves(6));
        Due.is("16: empty then", 0, x.count(3));
        Due.is("16: no bytes", NONE, x.moves(1));
        Due.is("17: the row told last stays", 0, x.slipped(0));
        Due.is("18: the row told last stays", 8, x.after(0, 0));
        Due.is("19: the row told last stays", 0, x.fix());
    }

    /** Each a byte of the value 0 to 5. */
    private static void bytesOfMoves() {
        for (int at = 0; at < 6; at++) {
            for (int value : new int[] {0, 5, 6, 7, 48, 127, 128, 255}) {
                ClothSchool x = Schools.draped("w2;u1;w1", 40);
                x.stretch(5, 1, 1);
                x.stretch(1, 0, 1);
                Due.moves(x, 5);
                int[] row = {3, 3, 3, 3, 3, 3};
                row[at] = value;
                Due.is("16: byte " + at + " of " + value, value > 5 ? NONE : value == 5 ? 1 : 0, Due.moves(x, row));
                Due.is("16: the tape is empty", 0, x.count(3));
                Due.is("17: the row told last", value == 0 ? NONE : 2, x.slipped(0));
                Due.is("18: the row told last", value == 0 ? 0 : 8, x.after(1, 2));
                Due.is("19: the row told last", value == 0 ? -2 : 2, x.fix());
                x.feed(0x01010101 << 8 | value, value << 24, 0, 0, 0);
                Due.is("16: what is behind n is no part", 1, x.moves(3));
                Due.is("17: of the three alone", 0, x.slipped(0));
            }
        }
    }

    /** The i-th ACT that SLIPPED by the row of MOVES told last (of this DRAPE). */
    private static void slippedOfThisDrape() {
        ClothSchool x = Schools.of(40, 1);
        x.stretch(0, 0, 1);
        Due.is("17: nothing was draped", NONE, x.slipped(0));
        Schools.drape(x, "w2;w3", 0, 0);
        Due.is("17: no moves were told", NONE, x.slipped(0));
        Due.moves(x, 0);
        Due.is("17: 0", 1, x.slipped(0));
        Due.is("17: 1", 0, x.slipped(1));
        Due.is("17: 2", NONE, x.slipped(2));
        x.drape(0, 0, 0, 61);
        Due.is("17: a refused drape", 1, x.slipped(0));
        x.drape(0, 0, 0, 0);
        Due.is("17: of this drape none was told", NONE, x.slipped(0));
        Due.is("18: of this drape none was told", NONE, x.after(0, 0));
        Due.is("19: of this drape none was told", NONE, x.fix());
        Due.is("16: told anew", 2, Due.moves(x, 0));
        Due.is("17: told anew", 1, x.slipped(0));
        Due.is("16: none slips", 0, Due.moves(x, 1));
        Due.is("17: none slipped", NONE, x.slipped(0));
    }

    /** They stretch as they did when the row was told. */
    private static void stretchesWhenTold() {
        ClothSchool x = Schools.draped("w5;w1", 40);
        x.stretch(2, 0, 1);
        Due.is("16: 5 and 1", 2, Due.moves(x, 2));
        Due.is("19: two would be due", NONE, x.fix());
        x.stretch(2, 0, 0);
        Due.is("17: as told", 1, x.slipped(0));
        Due.is("18: as told", 8, x.after(0, 0));
        Due.is("19: as told", NONE, x.fix());
        Due.is("15: as stretched now", 0, x.pull(2, 0));
        Due.is("16: as stretched now", 0, Due.moves(x, 2));
        Due.is("19: as stretched now", -2, x.fix());
        x.stretch(2, 0, 9);
        Due.is("19: as told", -2, x.fix());
        Due.is("18: as told", 0, x.after(0, 0));
        x.stretch(1, 0, 0);
        Due.is("16: the other move", 0, Due.moves(x, 1));
    }

    /** What would show then on a RING in a SECTOR; NONE: as shows(), no MOVES were told. */
    private static void afterEdges() {
        ClothSchool x = Schools.of(40, 1);
        x.colour(0, 0, 3);
        x.colour(0, 5, 6);
        Due.is("18: nothing was draped", NONE, x.after(0, 0));
        Schools.drape(x, "w8;t;t;f;u0;w4;f;w0;p1.1", 0, 0);
        Due.is("18: no moves were told", NONE, x.after(0, 0));
        x.stretch(0, 0, 1);
        Due.is("16: two slip", 2, Due.moves(x, 0));
        for (int sector = 0; sector < 8; sector++) {
            Due.is("18: what lies below, " + sector, 3, x.after(0, sector));
            Due.is("9: what lay upon it, " + sector, sector < 4 ? 6 : 3, x.shows(0, sector));
            Due.is("18: ring 7", 8, x.after(7, sector));
        }
        for (int off : new int[] {-1, 8, Integer.MIN_VALUE, Integer.MAX_VALUE}) {
            Due.is("18: ring " + off, NONE, x.after(off, 0));
            Due.is("18: sector " + off, NONE, x.after(0, off));
        }
        for (int n = 0; n < 8; n++) {
            x.colour(0, 0, n);
            Due.is("18: as colours are now", n, x.after(0, n));
        }
        x.end(0, 40);
        x.colour(0, 4, 5);
        Due.is("18: as the end is now", 5, x.after(0, 0));
        Due.is("10: all are layers of the drape", 3, x.layers(0, 4));
        Due.is("12: all are layers of the drape", 14, x.look(2));
    }

    private static int fix(String text, int... stretches) {
        ClothSchool x = Schools.draped(text, 400);
        int[] row = new int[stretches.length];
        for (int m = 0; m < stretches.length; m++) {
            x.stretch(m, 0, stretches[m]);
            row[m] = m;
        }
        Due.moves(x, row);
        return x.fix();
    }

    /** One PIN more is enough: by four, not by five. */
    private static void fixEdges() {
        Due.is("19: nothing slips", -2, fix("w1", 0));
        Due.is("19: no acts", -2, fix("r", 9));
        Due.is("19: acts without layers", -2, fix("w0;u1;d1", 9));
        Due.is("19: 1 above", 0, fix("w1", 1));
        Due.is("19: 4 above", 0, fix("w1", 4));
        Due.is("19: 5 above", NONE, fix("w1", 5));
        Due.is("19: 4 above a pin", 0, fix("w1;t", 8));
        Due.is("19: 5 above a pin", NONE, fix("w1;t", 9));
        Due.is("19: by any move of the row", NONE, fix("w1", 1, 5));
        Due.is("19: by any move of the row", 0, fix("w1", 1, 4, 3, 2, 1, 4));
        Due.is("19: two that slip apart", NONE, fix("w1;w1", 1));
        Due.is("19: behind it acts without layers", 0, fix("w1;u1;w0;d0", 1));
    }

    /** The last ACT that has LAYERS for which one PIN more is enough that nothing SLIPS. */
    private static void fixByOnePin() {
        Due.is("19: it holds the one below it", 1, fix("p1.1;p1.1;w0", 1));
        Due.is("19: it holds both below it", 2, fix("p1.1;p1.1;p1.1", 1));
        Due.is("19: it doesn't hold four by two", NONE, fix("p1.1;p1.1", 2));
        Due.is("19: the one that has a pin needs none", 0, fix("p1.1;w1;t", 1));
        Due.is("19: the one below, when the upper holds", 0, fix("p2.1;p1.1;t", 1));
        Due.is("19: the one below, too far", NONE, fix("p4.1;p1.1;t", 1));
        ClothSchool x = Schools.draped("p1.1;p1.1", 40);
        x.stretch(0, 0, 1);
        Due.moves(x, 0);
        for (int i = 0; i < 3; i++) {
            Due.is("19: however often", 1, x.fix());
            Due.is("17: what slipped stays told", 1, x.slipped(0));
            Due.is("17: what slipped stays told", 0, x.slipped(1));
            Due.is("18: what slipped stays told", 8, x.after(0, 0));
            Due.is("20: no pin by it", 1, x.breaths());
            Due.is("13: no pin by it", 0, x.strength(1));
        }
    }

    /** One, and one for each PIN. */
    private static void breathsEdges() {
        ClothSchool x = Schools.of(40, 1);
        Due.is("20: nothing was draped", NONE, x.breaths());
        Schools.drape(x, "t", 0, 0);
        Due.is("20: nothing was done", 1, x.breaths());
        Schools.drape(x, "w3;u1;w2;p1.1", 0, 0);
        Due.is("20: no pins", 1, x.breaths());
        for (int n = 1; n <= 3; n++) {
            Schools.drape(x, "w3;[" + n + ":t];u1;w1", 0, 0);
            Due.is("20: pins of one, " + n, 1 + n, x.breaths());
            Schools.drape(x, "[" + n + ":w3;t]", 0, 0);
            Due.is("20: pins of each, " + n, 1 + n, x.breaths());
        }
        x = Schools.draped("w1;t;w1;t", 40);
        x.stretch(0, 0, 9);
        Due.moves(x, 0);
        Due.is("20: what slipped counts", 3, x.breaths());
    }
}
