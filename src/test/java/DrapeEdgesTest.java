/** The edges of draping: where it begins, how far each step goes, what breaks it, and what is done of it then. */
public final class DrapeEdgesTest {
    private static final int NONE = ClothSchool.NONE;

    public static void main(String[] args) {
        numbersTold();
        begins();
        beginsAnew();
        reckonsAnew();
        actsOfNothing();
        actNumbers();
        greatestWidth();
        sectorsRoundAbout();
        shoulderSectors();
        pleatEdges();
        climbEdges();
        hangsFarAndNear();
        hangsFromLowestRow();
        tucksTheLast();
        cellsJustEnough();
        ringsJustReached();
        shoulderOnlyAtTheTop();
        numberEdges();
        numbersFarOff();
        wrapsRound();
        fromTheLeft();
        lettersOfNumbers();
        byNothing();
        layersFull();
        stepsFull();
        stepsCounted();
        tuckAheadOfAll();
        orderOfBreaks();
        lastStepAheadOfAll();
        notDoneAtAll();
        rowsKeepWhatWasDone();
        Due.close();
    }

    private static void broken(String text, int length, int why, int step) {
        ClothSchool x = Schools.of(length, 1);
        Due.is("8: " + text + " on " + length, -10 - why, Schools.drape(x, text, 0, 0));
        Due.is("12: why, " + text, why, x.look(10));
        Due.is("12: at which step, " + text, step, x.look(11));
    }

    private static void whole(String text, int length, int acts) {
        ClothSchool x = Schools.of(length, 1);
        Due.is("8: " + text + " on " + length, acts, Schools.drape(x, text, 0, 0));
        Due.is("12: why not, " + text, 0, x.look(10));
        Due.is("12: at no step, " + text, NONE, x.look(11));
    }

    /** NONE: no such ones; z (0 to 60). */
    private static void numbersTold() {
        ClothSchool x = Schools.of(400, 1);
        for (int b = 3; b < 6; b++) {
            x.body(1, 1, 1, 1, 1, 1, 1, 1);
        }
        for (int c = 1; c < 6; c++) {
            x.cloth(400, 1);
        }
        for (int s = 0; s < 10; s++) {
            Due.style(x, "wz");
        }
        for (int z = 0; z <= 60; z++) {
            Due.is("8: z " + z, 1, x.drape(9, 5, 5, z));
            Due.is("8: as many layers as z", z, x.look(2));
        }
        for (int off : new int[] {-1, Integer.MIN_VALUE, Integer.MAX_VALUE}) {
            Due.is("8: s " + off, NONE, x.drape(off, 0, 0, 1));
            Due.is("8: b " + off, NONE, x.drape(0, off, 0, 1));
            Due.is("8: c " + off, NONE, x.drape(0, 0, off, 1));
            Due.is("8: z " + off, NONE, x.drape(0, 0, 0, off));
        }
        Due.is("8: s 10", NONE, x.drape(10, 0, 0, 1));
        Due.is("8: b 6", NONE, x.drape(0, 6, 0, 1));
        Due.is("8: c 6", NONE, x.drape(0, 0, 6, 1));
        Due.is("8: z 61", NONE, x.drape(0, 0, 0, 61));
        Due.is("8: the drape is kept", 60, x.look(2));
    }

    private static void looks(String call, ClothSchool x, int... want) {
        for (int what = 0; what < 12; what++) {
            Due.is("12: " + what + " of " + call, want[what], x.look(what));
        }
    }

    /** The cloth begins at cell 0, at RING 0, SECTOR 0, to the LEFT (SECTORS go up), RIGHT side out. */
    private static void begins() {
        for (int height = 1; height <= 4; height++) {
            ClothSchool x = Schools.of(77, height);
            Due.is("8: no acts", 0, Schools.drape(x, "f;f", 0, 0));
            looks("f;f", x, 77, 0, 0, 0, 0, 0, 1, 0, NONE, 0, 0, NONE);
            Schools.drape(x, "w2", 0, 0);
            looks("w2", x, 75, 1, 2, 0, 0, 2, 1, 0, NONE, 0, 0, NONE);
            int[] want = {0, 0, 0, 0, 1, height, 0};
            for (int k = 0; k < 7; k++) {
                Due.is("11: " + k + " of the first", want[k], x.layer(0, k));
            }
            Due.is("11: the second is in sector 1", 1, x.layer(1, 2));
            Due.is("11: of cell 1", 1, x.layer(1, 3));
        }
    }

    /** Nothing of a drape is in the next: names, ring, sector, way, side, pins, cells, break. */
    private static void beginsAnew() {
        ClothSchool x = Schools.of(40, 1);
        Due.style(x, "x=3;y=4;z=5;u3;w3;t;r;f;h4;d9");
        Due.style(x, "x=x+0;wx;wy;wz");
        for (int i = 0; i < 2; i++) {
            Due.is("8: breaks", -12, x.drape(0, 0, 0, 1));
            looks("the first", x, 40 - 3 - 3 - 4, 3, 4, 1, 3, 3, -1, 1, 2, 3, 2, 9);
            Due.is("8: three acts", 3, x.drape(1, 0, 0, 2));
            looks("the second", x, 38, 3, 2, 0, 0, 2, 1, 0, NONE, 0, 0, NONE);
        }
    }

    /** What a broken E left half reckoned is in no later one. */
    private static void reckonsAnew() {
        ClothSchool x = Schools.of(40, 1);
        Due.style(x, "p9.1+2*(3+4*(5+6*(7+8*(9+1/0))))");
        Due.style(x, "w((((1+1))))+(2-1)*(l/40)");
        for (int i = 0; i < 60; i++) {
            Due.is("8: breaks", -15, x.drape(0, 0, 0, 0));
        }
        Due.is("8: one act", 1, x.drape(1, 0, 0, 0));
        Due.is("8: of three layers", 3, x.look(2));
    }

    /** Each w p u d s h that is done (with 0, too) is an ACT. */
    private static void actsOfNothing() {
        for (String none : new String[] {"w0", "p0.1", "p0.200", "u0", "d0", "h0"}) {
            ClothSchool x = Schools.of(10, 1);
            Due.is("8: " + none, 1, Schools.drape(x, none, 2, 0));
            int hung = none.equals("h0") ? 0 : NONE;
            looks(none, x, 10, 1, 0, 0, 0, 0, 1, 0, hung, 0, 0, NONE);
            Due.is("13: " + none, 0, x.strength(0));
            Due.is("13: no other", NONE, x.strength(1));
        }
        for (String none : new String[] {"r", "f", "x=1", "y=1", "z=1", "[0:w1]", "[2:r]"}) {
            whole(none, 10, 0);
        }
        whole("w1;t", 10, 1);
        whole("u7;s", 10, 2);
    }

    /** ACTS are numbered from 0 on. */
    private static void actNumbers() {
        String text = "u0;w1;d0;p1.1;t;r;f;x=1;[2:w1];u1;h1";
        ClothSchool x = Schools.draped(text, 40);
        int[] acts = {1, 3, 3, 4, 5, 7};
        for (int i = 0; i < acts.length; i++) {
            Due.is("11: the act of layer " + i, acts[i], x.layer(i, 0));
        }
        Due.is("11: no more", NONE, x.layer(6, 0));
        Due.is("12: acts", 8, x.look(1));
        Due.is("15: the last act", 0, x.pull(0, 7));
        Due.is("15: behind the last", NONE, x.pull(0, 8));
        x = Schools.draped("w1;w41;w1", 40);
        Due.is("12: what breaks is none", 1, x.look(1));
        Due.is("13: what breaks is none", NONE, x.strength(1));
    }

    private static int width(int b, int height, int ring) {
        return Schools.draped("u" + ring + ";w1", 40, height, b).layer(0, 4);
    }

    /** THE WIDTH is the greatest of the RINGS on which its rows are then. */
    private static void greatestWidth() {
        for (int height = 1; height <= 4; height++) {
            for (int ring = 0; ring + height <= 8; ring++) {
                Due.is("8: wider above, " + height + " rows from " + ring, ring + height, width(1, height, ring));
                Due.is("8: wider below, " + height + " rows from " + ring, 9 - ring, width(2, height, ring));
                Due.is("8: g, " + height + " rows from " + ring, ring + height, Schools.draped("u" + ring + ";pg.1", 40, height, 1).look(2) / 2);
            }
        }
        ClothSchool x = Schools.of(90, 2);
        x.body(1, 1, 1, 7, 1, 1, 1, 9);
        Schools.drape(x, "w1;u1;w1;u1;w1;u1;w1;u1;w1;u1;w1;u1;w1", 3, 0);
        int[] want = {1, 1, 7, 7, 1, 1, 9};
        for (int ring = 0; ring < 7; ring++) {
            Due.is("8: two rows from " + ring, want[ring], x.layer(ring, 4));
        }
    }

    /** Behind 7 comes 0. */
    private static void sectorsRoundAbout() {
        for (int n = 1; n <= 17; n++) {
            ClothSchool x = Schools.draped("w" + n, 40);
            Due.is("11: the last of w" + n, (n - 1) % 8, x.layer(n - 1, 2));
            Due.is("12: behind w" + n, n % 8, x.look(5));
            x = Schools.draped("r;w" + n, 40);
            Due.is("11: the last of r;w" + n, (33 - n) % 8, x.layer(n - 1, 2));
            Due.is("12: behind r;w" + n, (32 - n) % 8, x.look(5));
        }
        ClothSchool x = Schools.draped("w200", 400);
        Due.is("11: the 200th", 7, x.layer(199, 2));
        Due.is("12: all round", 0, x.look(5));
        x = Schools.draped("w3;r;w4;r;w2", 40);
        int[] want = {0, 1, 2, 3, 2, 1, 0, 7, 0};
        for (int i = 0; i < want.length; i++) {
            Due.is("11: there and back, " + i, want[i], x.layer(i, 2));
        }
        Due.is("12: there and back", 1, x.look(5));
    }

    /** It is in the SECTOR that is four more (round about). */
    private static void shoulderSectors() {
        for (int k = 0; k < 8; k++) {
            ClothSchool x = Schools.draped("u7;w" + k + ";s", 40);
            Due.is("12: s in " + k, (k + 4) % 8, x.look(5));
            Due.is("12: s keeps the way", 1, x.look(6));
            Due.is("12: s keeps the ring", 7, x.look(4));
            x = Schools.draped("u7;f;r;w" + k + ";s;w1", 40);
            Due.is("11: r and s in " + k, (12 - k) % 8, x.layer(k, 2));
            Due.is("12: s keeps the way", -1, x.look(6));
            Due.is("12: s keeps the side", 1, x.look(7));
        }
        Due.is("12: s twice", 0, Schools.draped("u7;s;s", 40).look(5));
    }

    /** So many times two LAYERS: first one on the other side than that which is out, then one on that. */
    private static void pleatEdges() {
        for (int side = 0; side < 2; side++) {
            ClothSchool x = Schools.draped((side == 0 ? "" : "f;") + "w3;p2.3", 40, 2, 0);
            for (int i = 3; i < 7; i++) {
                int[] want = {1, 0, 3, 3 + 3 * (i - 3), 3, 2, i % 2 == 1 ? 1 - side : side};
                for (int k = 0; k < 7; k++) {
                    Due.is("11: pleats, layer " + i + " " + k, want[k], x.layer(i, k));
                }
            }
            Due.is("12: the sector stays", 3, x.look(5));
            Due.is("12: the side stays", side, x.look(7));
        }
        ClothSchool x = Schools.draped("p1.200", 400);
        Due.is("11: 200 deep", 200, x.layer(1, 3));
        Due.is("11: 200 deep", 200, x.layer(1, 4));
        Due.is("12: all used", 0, x.look(0));
        x = Schools.draped("p200.1", 400);
        Due.is("12: 200 times", 400, x.look(2));
        Due.is("11: the last of 400", 399, x.layer(399, 3));
        Due.is("11: the last of 400", 0, x.layer(399, 6));
        Due.is("11: no 401st", NONE, x.layer(400, 3));
    }

    /** So many cells are used (not laid), and the RING is so many more, or less. */
    private static void climbEdges() {
        for (int n = 0; n <= 7; n++) {
            ClothSchool x = Schools.draped("w1;u" + n, 40);
            Due.is("12: up " + n, n, x.look(4));
            Due.is("12: up " + n, 39 - n, x.look(0));
            Due.is("12: up " + n, n, x.look(9));
            Due.is("12: up " + n, 1, x.look(2));
            x = Schools.draped("u7;d" + n + ";w1", 40);
            Due.is("12: down " + n, 7 - n, x.look(4));
            Due.is("12: down " + n, 7 + n, x.look(9));
            Due.is("11: down " + n, 7 + n, x.layer(0, 3));
            Due.is("11: down " + n, 7 - n, x.layer(0, 1));
        }
    }

    /** Five for a RING, as far as RING 0 (what hangs lower is used, not laid); THE FALL. */
    private static void hangsFarAndNear() {
        for (int ring = 0; ring < 8; ring++) {
            for (int cells = 0; cells <= 41; cells++) {
                String text = "u" + ring + ";w1;h" + cells;
                ClothSchool x = Schools.draped(text, 60);
                int begun = (cells + 4) / 5;
                int seen = Math.min(begun, ring);
                Due.is("12: fall of " + text, begun > ring ? -1 : ring - begun, x.look(8));
                Due.is("12: layers of " + text, 1 + seen, x.look(2));
                Due.is("12: not laid of " + text, ring + Math.max(0, cells - 5 * ring), x.look(9));
                Due.is("12: left by " + text, 59 - ring - cells, x.look(0));
                Due.is("12: the ring stays, " + text, ring, x.look(4));
                Due.is("12: the sector stays, " + text, 1, x.look(5));
                for (int i = 0; i < seen; i++) {
                    int[] want = {2, ring - 1 - i, 1, ring + 1 + 5 * i, Math.min(5, cells - 5 * i), 1, 0};
                    for (int k = 0; k < 7; k++) {
                        Due.is("11: " + k + " of layer " + i + " of " + text, want[k], x.layer(1 + i, k));
                    }
                }
            }
        }
        ClothSchool x = Schools.draped("u7;h200", 400);
        Due.is("12: 200 cells", -1, x.look(8));
        Due.is("12: 200 cells", 7, x.look(2));
        Due.is("12: 200 cells", 7 + 165, x.look(9));
    }

    /** From the RING below its own (lowest) one down: a LAYER of one row. */
    private static void hangsFromLowestRow() {
        for (int height = 1; height <= 4; height++) {
            ClothSchool x = Schools.draped("u3;f;h6", 40, height, 0);
            int[][] want = {{1, 2, 0, 3, 5, 1, 1}, {1, 1, 0, 8, 1, 1, 1}};
            for (int i = 0; i < 2; i++) {
                for (int k = 0; k < 7; k++) {
                    Due.is("11: layer " + i + " " + k + " of height " + height, want[i][k], x.layer(i, k));
                }
            }
            Due.is("12: no third", 2, x.look(2));
            Due.is("12: the fall", 1, x.look(8));
        }
        // THE FALL is that of the last h, whatever comes behind it
        Due.is("12: h5;d1", 2, Schools.draped("u3;h5;d1;w1", 40).look(8));
        Due.is("12: two of them", 1, Schools.draped("u3;h15;h6", 40).look(8));
        Due.is("12: the last hangs nothing", 3, Schools.draped("u3;h15;h0", 40).look(8));
        Due.is("12: the last breaks", 0, Schools.draped("u3;h15;h90", 40).look(8));
        Due.is("12: lower than ring 0 and back", 0, Schools.draped("h1;h0", 40).look(8));
    }

    /** The last LAYER that was laid is TUCKED: a PIN of its ACT. */
    private static void tucksTheLast() {
        ClothSchool x = Schools.draped("w1;w2;u1;t;d1;w0;p0.1;t;h0", 40);
        Due.is("12: two pins", 2, x.look(3));
        Due.is("13: not of the first", 0, x.strength(0));
        Due.is("13: of the act of the last layer", 8, x.strength(1));
        for (int a = 2; a < 7; a++) {
            Due.is("13: not of those behind it", 0, x.strength(a));
        }
        x = Schools.draped("w1;t;w1;t;t", 40);
        Due.is("13: one", 4, x.strength(0));
        Due.is("13: two", 8, x.strength(1));
        x = Schools.draped("u1;h5;t", 40);
        Due.is("13: what hangs", 4, x.strength(1));
        x = Schools.draped("w1;[9:[200:t]]", 40);
        Due.is("12: 1800 pins", 1800, x.look(3));
        Due.is("13: 1800 pins", 7200, x.strength(0));
        Due.is("20: 1800 pins", 1801, x.breaths());
    }

    /** 1 fewer cells are left than it takes: just as many are enough. */
    private static void cellsJustEnough() {
        whole("w40", 40, 1);
        broken("w41", 40, 1, 0);
        whole("p4.5", 40, 1);
        broken("p3.7", 40, 1, 0);
        whole("p1.20", 40, 1);
        broken("p1.21", 40, 1, 0);
        whole("p20.1", 40, 1);
        broken("p21.1", 40, 1, 0);
        whole("w39;u1", 40, 2);
        broken("w40;u1", 40, 1, 1);
        whole("w33;u7", 40, 2);
        broken("w34;u7", 40, 1, 1);
        whole("u1;w38;d1", 40, 3);
        broken("u1;w39;d1", 40, 1, 2);
        whole("u7;w26;d7", 40, 3);
        broken("u7;w27;d7", 40, 1, 2);
        whole("u7;w31;s", 40, 3);
        broken("u7;w32;s", 40, 1, 2);
        whole("w10;h30", 40, 2);
        broken("w10;h31", 40, 1, 1);
        whole("w40;w0;u0;d0;h0;p0.1;r;f;t;x=1;[1:t]", 40, 6);
        whole("w10", 10, 1);
        broken("w11", 10, 1, 0);
        whole("w200;p100.1", 400, 2);
        broken("w200;p100.1;h1", 400, 1, 2);
        whole("u7;s;w31", 40, 3);
        broken("u7;s;w32", 40, 1, 2);
        Due.is("11: cells 7 and 8 are used by s", 9, Schools.draped("u7;s;w1", 40).layer(0, 3));
        Due.is("8: nine cells wide", 1, Schools.answer("w2", 18, 1, 2));
        Due.is("8: nine cells wide", -11, Schools.answer("w2", 17, 1, 2));
        Due.is("8: twice the width of ring 7", 2, Schools.answer("u7;s", 23, 1, 1));
        Due.is("8: twice the width of ring 7", -11, Schools.answer("u7;s", 22, 1, 1));
        Due.is("8: of ring 7, not the widest", 2, Schools.answer("u4;s", 10, 4, 2));
        Due.is("8: of ring 7, not the widest", 8, Schools.draped("u4;s", 10, 4, 2).look(9));
        Due.is("8: however many", -11, Schools.answer("w200", 400, 4, 2));
        Due.is("8: however many", -11, Schools.answer("p200.200", 400, 1, 0));
    }

    /** 2 a RING below 0, or a row above RING 7. */
    private static void ringsJustReached() {
        for (int height = 1; height <= 4; height++) {
            int top = 8 - height;
            Due.is("8: to the top, " + height, 1, Schools.answer("u" + top, 40, height, 0));
            Due.is("8: above it, " + height, -12, Schools.answer("u" + (top + 1), 40, height, 0));
            Due.is("8: from the top, " + height, -12, Schools.answer("u" + top + ";u1", 40, height, 0));
            Due.is("8: down to 0, " + height, 2, Schools.answer("u" + top + ";d" + top, 40, height, 0));
            Due.is("8: below 0, " + height, -12, Schools.answer("u" + top + ";d" + (top + 1), 40, height, 0));
            Due.is("8: from 0, " + height, -12, Schools.answer("d1", 40, height, 0));
            Due.is("8: none at the top, " + height, 3, Schools.answer("u" + top + ";u0;d0", 40, height, 0));
        }
        broken("u200", 400, 2, 0);
        broken("d200", 400, 2, 0);
    }

    /** 3 s elsewhere: only where its highest row is on RING 7. */
    private static void shoulderOnlyAtTheTop() {
        for (int height = 1; height <= 4; height++) {
            for (int ring = 0; ring + height <= 8; ring++) {
                boolean top = ring + height == 8;
                Due.is("8: s of " + height + " rows from " + ring, top ? 2 : -13, Schools.answer("u" + ring + ";s", 40, height, 0));
            }
        }
        broken("s", 40, 3, 0);
        broken("u7;s;d1;s", 40, 3, 3);
    }

    /** 4 a number below 0 where one is told, below 1 for a depth, or any of these above 200. */
    private static void numberEdges() {
        for (String text : new String[] {"w#", "p#.1", "p1.#", "u#", "d#", "h#", "[#:r]"}) {
            for (String off : new String[] {"0-1", "0-200", "201", "999", "256"}) {
                broken(text.replace("#", off), 400, 4, 0);
            }
        }
        whole("w0", 10, 1);
        whole("w200", 400, 1);
        whole("p0.1", 10, 1);
        whole("p200.1", 400, 1);
        broken("p1.0", 400, 4, 0);
        broken("p0.0", 400, 4, 0);
        whole("p1.1", 10, 1);
        whole("p1.200", 400, 1);
        whole("p0.200", 10, 1);
        broken("p0.201", 400, 4, 0);
        whole("h0", 10, 1);
        whole("h200", 400, 1);
        whole("[0:w201]", 10, 0);
        whole("[200:r]", 10, 0);
        whole("x=0-1;y=201;z=999*9", 10, 0);
        Due.is("12: h200 at ring 0", 200, Schools.draped("h200", 400).look(9));
        Due.is("12: 200 times", 200, Schools.draped("[200:w1]", 400).look(2));
    }

    /** All is reckoned with 32 bits: what is far off does not come round into what can be done. */
    private static void numbersFarOff() {
        String[] far = {"x-1", "x", "x+1", "0-x", "x/2", "x-1-200", "0-201"};
        for (String number : far) {
            for (String text : new String[] {"w#", "p#.1", "p1.#", "p#.#", "u#", "d#", "h#", "[#:r]"}) {
                broken("x=256*256*256*128;" + text.replace("#", number), 400, 4, 1);
            }
        }
        whole("w256*256*256*256", 10, 1);
        Due.is("8: 2 to the 32nd and 3", 3, Schools.draped("w256*256*256*256+3", 10).look(2));
        Due.is("8: above the highest and back", 7, Schools.draped("x=256*256*256*128-1;w(x+8)-(x+1)", 10).look(2));
    }

    /** Lays 100 layers by w if the expression is so much, since what is told is taken from it with 32 bits. */
    private static void reckoned(String expression, int want) {
        String told = "(((" + (want >>> 24) + "*256+" + (want >> 16 & 255) + ")*256+" + (want >> 8 & 255) + ")*256+" + (want & 255) + ")";
        ClothSchool x = Schools.of(400, 1);
        Due.is("8: " + expression + " is reckoned", 4, Schools.drape(x, "u0;w1;d0;x=7;y=" + expression + ";w100+y-" + told, 0, 60));
        Due.is("8: " + expression + " is " + want, 101, x.look(2));
    }

    /** All is reckoned with 32 bits, as the machine does. */
    private static void wrapsRound() {
        reckoned("256*256*256*128", Integer.MIN_VALUE);
        reckoned("256*256*256*128-1", Integer.MAX_VALUE);
        reckoned("256*256*256*127+256*256*256", Integer.MIN_VALUE);
        reckoned("0-256*256*256*128", Integer.MIN_VALUE);
        reckoned("256*256*256*128/(0-1)", Integer.MIN_VALUE);
        reckoned("256*256*256*128*(0-1)", Integer.MIN_VALUE);
        reckoned("(256*256*256*128-1)*2", -2);
        reckoned("256*256*256*128+256*256*256*128", 0);
        reckoned("256*256*256*256", 0);
        reckoned("0-256*256*256*128-1", Integer.MAX_VALUE);
        reckoned("256*256*256*128/2", Integer.MIN_VALUE / 2);
        reckoned("999*999*999", 999 * 999 * 999);
        reckoned("999*999*999*999", 999 * 999 * 999 * 999);
        reckoned("999*999*999*999*999/999", 999 * 999 * 999 * 999 * 999 / 999);
        reckoned("z*z*z*z*z*z", 60 * 60 * 60 * 60 * 60 * 60);
    }

    /** TERMS with + or - between two, FACTORS with * or / between two; from the left on. */
    private static void fromTheLeft() {
        reckoned("1-2-3", -4);
        reckoned("1-2+3", 2);
        reckoned("1-(2+3)", -4);
        reckoned("8/4*2", 4);
        reckoned("8*4/3", 10);
        reckoned("8/3*4", 8);
        reckoned("100/7/3", 4);
        reckoned("100/(7/3)", 50);
        reckoned("2+3*4-5", 9);
        reckoned("(2+3)*(4-5)", -5);
        reckoned("2*3+4*5-6/4", 25);
        reckoned("7/2", 3);
        reckoned("(0-7)/2", -3);
        reckoned("7/(0-2)", -3);
        reckoned("(0-7)/(0-2)", 3);
        reckoned("0-7/2", -3);
        reckoned("1/2*2", 0);
        reckoned("0/5", 0);
        reckoned("000", 0);
        reckoned("007", 7);
        reckoned("010", 10);
        reckoned("999", 999);
        reckoned("((((((((9))))))))", 9);
    }

    /** A letter: x y z the names, l cells that are left, g the WIDTH, k the SECTOR, i the RING. */
    private static void lettersOfNumbers() {
        reckoned("x", 7);
        reckoned("y", 0);
        reckoned("z", 60);
        reckoned("l", 399);
        reckoned("g", 1);
        reckoned("k", 1);
        reckoned("i", 0);
        Due.is("8: l at first", 400, Schools.draped("p1.l/2", 400).look(2) * Schools.draped("p1.l/2", 400).layer(0, 4));
        whole("w40;wl;pl.1;ul;dl;hl;[l:d1]", 40, 6);
        whole("w39;ul;[l:d1]", 40, 2);
        for (int k = 0; k < 8; k++) {
            Due.is("8: k is " + k, k + 2 * k, Schools.draped("w" + k + ";r;u1;pk.1", 40).look(2));
            Due.is("8: i is " + k, 2 * k, Schools.draped("u" + k + ";pi.1", 40).look(2));
            Due.is("8: i of the lowest row is " + k / 2, 2 * (k / 2), Schools.draped("u" + k / 2 + ";pi.1", 40, 4, 0).look(2));
        }
        Due.is("8: the other way k is 7", 1 + 14, Schools.draped("r;w1;pk.1", 40).look(2));
        Due.is("8: k goes round", 8, Schools.draped("w8;wk", 40).look(2));
    }

    /** 5 division by 0. */
    private static void byNothing() {
        for (String text : new String[] {"w#", "p#.1", "p1.#", "u#", "d#", "h#", "x=#", "y=#", "z=#", "[#:r]"}) {
            for (String number : new String[] {"1/0", "0/0", "1/(2-2)", "7/x", "1/(1/2)", "1+(2*(3/0))", "0*(1/0)", "1/k", "1/i"}) {
                broken(text.replace("#", number), 40, 5, 0);
            }
            broken("w40;" + text.replace("#", "1/l"), 40, 5, 1);
        }
        whole("[0:w1/0;x=1/0]", 40, 0);
        whole("w0/1", 40, 1);
        whole("x=1/(0-1)", 40, 0);
    }

    /** 6 the 401st LAYER: 400 are laid, and a 401st takes a cell that a cloth of 400 has not. */
    private static void layersFull() {
        whole("w200;w200", 400, 2);
        whole("[200:w1;w1]", 400, 400);
        whole("p100.1;p100.1;w0;p0.1;h0;t", 400, 5);
        ClothSchool x = Schools.draped("w200;w200", 400);
        Due.is("12: 400", 400, x.look(2));
        Due.is("11: the 400th", 399, x.layer(399, 3));
        Due.is("11: no 401st", NONE, x.layer(400, 3));
        Due.is("10: 50 in each sector", 50, x.layers(0, 7));
        broken("w200;w200;w1", 400, 1, 2);
        broken("w200;w200;p1.1", 400, 1, 2);
        broken("p200.1;w1", 400, 1, 1);
        broken("u1;p199.1;w1;h1", 400, 1, 3);
    }

    /** Or the 2001st STEP done. */
    private static void stepsFull() {
        whole("[199:[9:r]];[8:r]", 10, 0);
        broken("[199:[9:r]];[8:r];r", 10, 6, 2000);
        broken("[199:[9:r]];[9:r]", 10, 6, 2000);
        whole("[10:[198:r]];[8:r]", 10, 0);
        broken("[10:[198:r];f]", 10, 6, 2000);
        broken("[200:[200:r]]", 10, 6, 2000);
        broken("[200:[200:[200:r]]]", 10, 6, 2000);
        whole("[200:w1;w0;u0;d0;h0;p0.1;r;f;x=1]", 400, 1200);
        whole("[200:w1;w0;u0;d0;h0;p0.1;r;f;x=1];[198:r]", 400, 1200);
        broken("[200:w1;w0;u0;d0;h0;p0.1;r;f;x=1];[199:r]", 400, 6, 2000);
        ClothSchool x = Schools.draped("[200:[200:r]]", 10);
        // 1 and 9 whole rows of 201 are 1810 of the 2000, so 189 r are done in the tenth, and 1800 ahead of it
        Due.is("12: done 1989 times", -1, x.look(6));
    }

    /** Rows, names, all count. */
    private static void stepsCounted() {
        String[] steps = {"w0", "p0.1", "u0", "d0", "h0", "r", "f", "x=1", "y=1", "z=1", "[0:r]", "[0:[9:r;r];r]", "t", "s"};
        for (String step : steps) {
            ClothSchool x = Schools.draped("u7;w1;[5:" + step + "];d8", 40);
            Due.is("12: two, the row, five times " + step, 2 + 1 + 5, x.look(11));
            Due.is("12: broken by d8", 2, x.look(10));
        }
        for (int ahead = 0; ahead < 36; ahead++) {
            broken("r;".repeat(ahead) + "[2:w1;f];d1", 10, 2, ahead + 5);
            broken("r;".repeat(ahead) + "[2:h0;w1];d1", 10, 2, ahead + 5);
            broken("r;".repeat(ahead) + "[0:w1;f];d1", 10, 2, ahead + 1);
        }
        broken("[2:r;[3:f;x=1]];d1", 10, 2, 17);
        broken("d1", 10, 2, 0);
        broken("r;d1", 10, 2, 1);
        broken("[1:d1]", 10, 2, 1);
        broken("[1:[1:[1:d1]]]", 10, 2, 3);
        broken("[0:r];[0-1:r]", 10, 4, 1);
    }

    /** t ahead of all LAYERS. */
    private static void tuckAheadOfAll() {
        broken("t", 10, 6, 0);
        for (String none : new String[] {"w0", "p0.1", "u1", "d0", "h0", "h9", "r", "f", "x=1", "[0:w1]"}) {
            broken(none + ";t", 10, 6, 1);
        }
        broken("u7;s;t", 10, 6, 2);
        broken("[1:t]", 10, 6, 1);
        whole("w1;t", 10, 1);
        whole("p1.1;t", 10, 1);
        whole("u1;h1;t", 10, 2);
        whole("w1;u1;t", 10, 2);
        ClothSchool x = Schools.draped("w1;t", 10);
        Due.is("8: a drape's own layers", -16, Schools.drape(x, "t", 0, 0));
    }

    /** Of several the first of 5 4 2 3 1 6. */
    private static void orderOfBreaks() {
        broken("p(0-1).(1/0)", 40, 5, 0);
        broken("p1/0.0", 40, 5, 0);
        broken("p201.1/0", 40, 5, 0);
        broken("p99.1/0", 40, 5, 0);
        broken("w40;u8+1/0", 40, 5, 1);
        broken("d1/0", 40, 5, 0);
        broken("u201", 40, 4, 0);
        broken("d201", 40, 4, 0);
        broken("u0-9", 40, 4, 0);
        broken("u1;d0-9", 40, 4, 1);
        broken("w201", 40, 4, 0);
        broken("p201.1", 40, 4, 0);
        broken("p1.201", 40, 4, 0);
        broken("p99.0", 40, 4, 0);
        broken("h201", 40, 4, 0);
        broken("w40;u201", 40, 4, 1);
        broken("w40;u8", 40, 2, 1);
        broken("w40;d1", 40, 2, 1);
        broken("w40;s", 40, 3, 1);
        broken("w200;w200;w200", 400, 1, 2);
        broken("p200.1;p200.1", 400, 1, 1);
    }

    /** But the 2001st STEP ahead of all. */
    private static void lastStepAheadOfAll() {
        for (String step : new String[] {"r", "x=1/0", "w1/0", "w0-1", "p1.0", "u8", "d1", "s", "w41", "h41", "t", "[201:r]", "[1/0:r]"}) {
            broken("[199:[9:r]];[8:r];" + step, 40, 6, 2000);
        }
        broken("[199:[9:r]];[7:r];x=1/0", 40, 5, 1999);
        broken("[199:[9:r]];[7:r];w0-1", 40, 4, 1999);
        broken("[199:[9:r]];[7:r];d1", 40, 2, 1999);
        broken("[199:[9:r]];[7:r];s", 40, 3, 1999);
        broken("[199:[9:r]];[7:r];w41", 40, 1, 1999);
        broken("[199:[9:r]];[7:r];t", 40, 6, 1999);
        whole("[199:[9:r]];[7:r];w1", 40, 1);
    }

    /** A STEP that can't be done whole is not done at all (of w, p, h no part). */
    private static void notDoneAtAll() {
        String[] steps = {"w35", "w201", "w1/0", "p9.2", "p201.1", "p1.0", "u6", "u201", "d3", "d0-1", "s", "h35", "h201", "[201:r]", "x=1/0"};
        for (String step : steps) {
            asWithout("u2;f;r;w3;t;h1", step, 40);
        }
        for (String step : new String[] {"u1", "d1", "w1", "p1.1", "h1"}) {
            asWithout("u2;w38", step, 40);
        }
        asWithout("u7;w33", "s", 40);
        asWithout("u7;w32", "s", 40);
        asWithout("r;f", "t", 40);
        asWithout("[199:[9:r]];u5;f;h1;[5:r]", "w1", 40);
    }

    private static void asWithout(String text, String step, int length) {
        ClothSchool with = Schools.draped(text + ";" + step + ";w1;f;r", length);
        ClothSchool without = Schools.draped(text, length);
        Due.is("8: it breaks at " + step, true, with.look(10) > 0);
        for (int what = 0; what < 10; what++) {
            Due.is("12: " + what + " behind " + text + ", " + step + " not done", without.look(what), with.look(what));
        }
        for (int i = 0; i < 5; i++) {
            for (int k = 0; k < 7; k++) {
                Due.is("11: " + k + " of layer " + i + ", " + step + " not done", without.layer(i, k), with.layer(i, k));
            }
        }
        Due.is("20: pins, " + step + " not done", without.breaths(), with.breaths());
    }

    /** What was done ahead of that is the DRAPE, in rows too. */
    private static void rowsKeepWhatWasDone() {
        ClothSchool x = Schools.draped("[3:w9;u1]", 24);
        Due.is("12: two of w9", 4, x.look(1));
        Due.is("12: two of w9", 18, x.look(2));
        Due.is("12: two of u1", 2, x.look(4));
        Due.is("12: at the third w9", 5, x.look(11));
        Due.is("12: cells for none", 4, x.look(0));
        x = Schools.draped("w1;[9:p1.1;[2:u1;w1;d1]];w1", 20);
        Due.is("12: the third time no cell is left for w1", 1, x.look(10));
        Due.is("12: the third time no cell is left for w1", 1 + 2 * 8 + 4, x.look(11));
        Due.is("12: layers", 1 + 2 * 4 + 2, x.look(2));
    }
}
