/** The edges of what is seen of a drape: what shows where, layers by their numbers, what look tells, and what a drape keeps. */
public final class ShowsEdgesTest {
    private static final int NONE = ClothSchool.NONE;
    private static final int[] OFF = {-1, 8, Integer.MIN_VALUE, Integer.MAX_VALUE};

    public static void main(String[] args) {
        places();
        endsAndCells();
        endOfNothing();
        wrongSide();
        rowsThatShow();
        lastLaidShows();
        coloursAsNow();
        clothOfTheDrape();
        layersInPlaces();
        layerNumbers();
        lookNumbers();
        keptTillAnother();
        Due.close();
    }

    /** A school whose cloth has the colours 1 to 4 of rows, 5 of the end, 6 of the wrong side. */
    private static ClothSchool coloured(int length, int height) {
        ClothSchool x = Schools.of(length, height);
        for (int row = 0; row < 6; row++) {
            x.colour(0, row, row + 1);
        }
        return x;
    }

    private static ClothSchool coloured(String text, int length, int height) {
        ClothSchool x = coloured(length, height);
        Schools.drape(x, text, 0, 0);
        return x;
    }

    /** NONE: no such ones, nothing was draped. */
    private static void places() {
        ClothSchool x = coloured(40, 1);
        for (int i = 0; i < 8; i++) {
            Due.is("9: nothing was draped", NONE, x.shows(i, 7 - i));
            Due.is("10: nothing was draped", NONE, x.layers(i, 7 - i));
        }
        Schools.drape(x, "[8:w8]", 0, 0);
        Schools.drape(x, "r;f;f", 0, 0);
        for (int ring = 0; ring < 8; ring++) {
            for (int sector = 0; sector < 8; sector++) {
                Due.is("9: an empty drape", 8, x.shows(ring, sector));
                Due.is("10: an empty drape", 0, x.layers(ring, sector));
            }
        }
        for (int off : OFF) {
            Due.is("9: ring " + off, NONE, x.shows(off, 0));
            Due.is("9: sector " + off, NONE, x.shows(0, off));
            Due.is("10: ring " + off, NONE, x.layers(off, 0));
            Due.is("10: sector " + off, NONE, x.layers(0, off));
        }
        x = coloured("[7:w8;u1];w1", 80, 1);
        Due.is("9: ring 7", 1, x.shows(7, 0));
        Due.is("9: ring 7, sector 1", 8, x.shows(7, 1));
        Due.is("9: ring 6, sector 7", 1, x.shows(6, 7));
    }

    /** The END's COLOUR if it is one of the last cells of the END, else its row's; by a layer's first cell. */
    private static void endsAndCells() {
        ClothSchool x = null;
        for (int end = 0; end <= 60; end++) {
            x = end % 40 == 0 ? coloured("w8;u1;p1.3;u1;h0;d2", 60, 1) : x;
            Due.is("5: end " + end, true, x.end(0, end));
            for (int i = 0; i < 8; i++) {
                Due.is("9: cell " + i + " of 60 with an end of " + end, i >= 60 - end ? 5 : 1, x.shows(0, i));
            }
            Due.is("9: a pleat from cell 12 to 14, an end of " + end, 12 >= 60 - end ? 5 : 1, x.shows(1, 0));
        }
        Due.is("11: it is", 12, x.layer(9, 3));
        Due.is("11: it is", 3, x.layer(9, 4));
        x = coloured("w40", 40, 1);
        for (int end = 0; end <= 8; end++) {
            x.end(0, end);
            for (int i = 0; i < 8; i++) {
                Due.is("9: the last round, cell " + (32 + i) + ", an end of " + end, 32 + i >= 40 - end ? 5 : 1, x.shows(0, i));
            }
        }
        x = coloured("u3;h12", 40, 1);
        int[] hang = {3, 8, 13};
        for (int end = 20; end <= 40; end++) {
            x.end(0, end);
            for (int i = 0; i < 3; i++) {
                Due.is("9: hanging from cell " + hang[i] + ", an end of " + end, hang[i] >= 40 - end ? 5 : 1, x.shows(2 - i, 0));
            }
        }
    }

    /** END (0 to LENGTH): none of it, all of it. */
    private static void endOfNothing() {
        for (int length : new int[] {10, 400}) {
            ClothSchool x = coloured("w1", length, 1);
            x.end(0, length - 1);
            Due.is("9: all but the first cell", 1, x.shows(0, 0));
            x.end(0, length);
            Due.is("9: all cells", 5, x.shows(0, 0));
            Schools.drape(x, "w" + length / 2 + ";w" + length / 2, 0, 0);
            Due.is("9: all cells", 5, x.shows(0, length % 8 == 0 ? 7 : 1));
            x.end(0, 0);
            Due.is("9: no cells, the last too", 1, x.shows(0, length % 8 == 0 ? 7 : 1));
            x.end(0, 1);
            Due.is("9: the last cell", 5, x.shows(0, length % 8 == 0 ? 7 : 1));
            Due.is("9: not the one ahead of it", 1, x.shows(0, length % 8 == 0 ? 6 : 0));
        }
    }

    /** On the WRONG side that of the WRONG side, of the END too. */
    private static void wrongSide() {
        ClothSchool x = coloured("f;w1;f;w1;f;u1;h5;p1.1", 40, 2);
        for (int end : new int[] {0, 20, 40}) {
            x.end(0, end);
            Due.is("9: the wrong side of row 0, an end of " + end, 6, x.shows(0, 0));
            Due.is("9: the right side of row 0, an end of " + end, end == 40 ? 5 : 1, x.shows(0, 1));
            Due.is("9: the wrong side of a pleat, an end of " + end, 6, x.shows(1, 2));
            Due.is("9: the wrong side hangs, an end of " + end, 6, x.shows(0, 2));
        }
    }

    /** The row that is there; those that hang are shown as the lowest row. */
    private static void rowsThatShow() {
        for (int height = 1; height <= 4; height++) {
            for (int ring = 0; ring + height <= 8; ring++) {
                ClothSchool x = coloured("u" + ring + ";w1", 40, height);
                for (int r = 0; r < 8; r++) {
                    int row = r - ring;
                    Due.is("9: ring " + r + " of " + height + " rows from " + ring, row >= 0 && row < height ? row + 1 : 8, x.shows(r, 0));
                }
            }
            ClothSchool x = coloured("u4;h20", 40, height);
            for (int r = 0; r < 8; r++) {
                Due.is("9: hanging, ring " + r + " of height " + height, r < 4 ? 1 : 8, x.shows(r, 0));
            }
        }
    }

    /** Of the LAYERS there the last laid; 8 if there is none. */
    private static void lastLaidShows() {
        ClothSchool x = coloured("w1;r;w1;f;r;u1;w1", 40, 3);
        // w1 in 0, w1 in 1, and from ring 1 the wrong side in 0
        Due.is("9: the first below the last", 1, x.shows(0, 0));
        Due.is("9: the last upon it", 6, x.shows(1, 0));
        Due.is("9: the last upon it", 6, x.shows(2, 0));
        Due.is("9: the last alone", 6, x.shows(3, 0));
        Due.is("9: none above", 8, x.shows(4, 0));
        Due.is("9: the second alone", 3, x.shows(2, 1));
        Due.is("9: none beside", 8, x.shows(0, 7));
        x = coloured("w8;w8;f;w8;f;w4", 40, 1);
        Due.is("9: the fourth time round", 1, x.shows(0, 3));
        Due.is("9: the third time round", 6, x.shows(0, 4));
        x = coloured("p1.1", 40, 1);
        Due.is("9: the pleat's second", 1, x.shows(0, 0));
        x = coloured("f;p2.1", 40, 1);
        Due.is("9: the pleat's last", 6, x.shows(0, 0));
    }

    /** By COLOURS and the END of the CLOTH as they are now. */
    private static void coloursAsNow() {
        ClothSchool x = coloured("w2;f;w1;f;u5;h5", 40, 2);
        for (int n = 0; n < 8; n++) {
            x.colour(0, 0, n);
            x.colour(0, 1, 7 - n);
            x.colour(0, 5, (n + 3) % 8);
            Due.is("9: row 0 now", n, x.shows(0, 1));
            Due.is("9: row 1 now", 7 - n, x.shows(1, 1));
            Due.is("9: the wrong side now", (n + 3) % 8, x.shows(1, 2));
            Due.is("9: what hangs now", n, x.shows(4, 3));
        }
        x.end(0, 40);
        for (int n = 0; n < 8; n++) {
            x.colour(0, 4, n);
            Due.is("9: the end now", n, x.shows(1, 1));
        }
        Due.is("4: refused", false, x.colour(0, 4, 8));
        Due.is("9: as it was", 7, x.shows(1, 1));
        Due.is("5: refused", false, x.end(0, 41));
        Due.is("9: as it was", 7, x.shows(1, 1));
    }

    /** Of the CLOTH of the DRAPE, whichever others there are. */
    private static void clothOfTheDrape() {
        ClothSchool x = coloured(40, 1);
        x.cloth(50, 2);
        x.colour(1, 0, 7);
        x.colour(1, 1, 6);
        Due.style(x, "w3");
        x.drape(0, 0, 1, 0);
        x.colour(0, 0, 2);
        Due.is("9: of cloth 1", 7, x.shows(0, 0));
        Due.is("9: of cloth 1", 6, x.shows(1, 0));
        Due.is("12: of cloth 1", 47, x.look(0));
        x.drape(0, 0, 2, 0);
        Due.is("9: a refused drape is none", 7, x.shows(0, 0));
        x.drape(0, 0, 0, 0);
        Due.is("9: of cloth 0", 2, x.shows(0, 0));
        Due.is("9: of cloth 0", 8, x.shows(1, 0));
        x.cloth(60, 4);
        Due.is("9: no newer one", 2, x.shows(0, 0));
    }

    private static void layersInPlaces() {
        ClothSchool x = Schools.draped("w9;u4;p3.1;h11", 60, 4, 0);
        int[] inSector1 = {2, 2, 2, 1 + 1, 6, 6, 6, 6};
        int[] inSector0 = {2, 2, 2, 2, 0, 0, 0, 0};
        for (int ring = 0; ring < 8; ring++) {
            int hangs = ring >= 1 && ring <= 3 ? 1 : 0;
            int winds = ring < 4 ? 1 : 0;
            Due.is("10: sector 1, ring " + ring, winds + hangs + (ring >= 4 ? 6 : 0), x.layers(ring, 1));
            Due.is("10: sector 0, ring " + ring, inSector0[ring], x.layers(ring, 0));
            Due.is("10: sector 7, ring " + ring, winds, x.layers(ring, 7));
        }
        Due.is("10: where one hangs", inSector1[3], x.layers(3, 1));
        x = Schools.draped("p200.1", 400, 4, 0);
        for (int ring = 0; ring < 8; ring++) {
            Due.is("10: 400, ring " + ring, ring < 4 ? 400 : 0, x.layers(ring, 0));
            Due.is("10: 400, ring " + ring, 0, x.layers(ring, 1));
        }
    }

    /** Of LAYER i, by the order in which they were laid, what 0 to 6. NONE for others. */
    private static void layerNumbers() {
        ClothSchool x = Schools.draped("w1;f;u3;w1;h12", 60, 2, 0);
        int[][] want = {{0, 0, 0, 0, 1, 2, 0}, {2, 3, 1, 4, 1, 2, 1}, {3, 2, 2, 5, 5, 1, 1}, {3, 1, 2, 10, 5, 1, 1}, {3, 0, 2, 15, 2, 1, 1}};
        for (int i = 0; i < 5; i++) {
            for (int k = 0; k < 7; k++) {
                Due.is("11: layer " + i + " " + k, want[i][k], x.layer(i, k));
            }
            for (int off : new int[] {-1, 7, Integer.MIN_VALUE, Integer.MAX_VALUE}) {
                Due.is("11: layer " + i + " " + off, NONE, x.layer(i, off));
            }
        }
        for (int off : new int[] {-1, 5, 400, Integer.MIN_VALUE, Integer.MAX_VALUE}) {
            for (int k = 0; k < 7; k++) {
                Due.is("11: layer " + off + " " + k, NONE, x.layer(off, k));
            }
        }
        Schools.drape(x, "w0", 0, 0);
        Due.is("11: none at all", NONE, x.layer(0, 0));
    }

    /** Of the DRAPE, what 0 to 11. NONE for others, or if nothing was draped. */
    private static void lookNumbers() {
        ClothSchool x = Schools.of(40, 1);
        for (int what = -1; what < 13; what++) {
            Due.is("12: nothing was draped, " + what, NONE, x.look(what));
        }
        Schools.drape(x, "u4;w2;t;w9;t;r;f;h7;d1;s", 0, 0);
        int[] want = {40 - 4 - 2 - 9 - 7 - 1, 5, 13, 2, 3, 3, -1, 1, 2, 5, 3, 9};
        for (int what = 0; what < 12; what++) {
            Due.is("12: " + what, want[what], x.look(what));
        }
        for (int off : new int[] {-1, 12, 13, Integer.MIN_VALUE, Integer.MAX_VALUE}) {
            Due.is("12: " + off, NONE, x.look(off));
        }
        Schools.drape(x, "w40", 0, 0);
        Due.is("12: no cells are left", 0, x.look(0));
        Due.is("12: no h", NONE, x.look(8));
        Due.is("12: all are laid", 0, x.look(9));
        Due.is("12: it does not break", 0, x.look(10));
        Due.is("12: nowhere", NONE, x.look(11));
        Schools.drape(x, "h41", 0, 0);
        Due.is("12: no h was done", NONE, x.look(8));
        Due.is("12: it breaks", 1, x.look(10));
        Due.is("12: at the first", 0, x.look(11));
    }

    /** The DRAPE is what was done; it is kept till another one is. */
    private static void keptTillAnother() {
        ClothSchool x = coloured("w3;t;u1;h9;w99", 40, 1);
        int[] want = {40 - 3 - 1 - 9, 3, 4, 1, 1, 3, 1, 0, -1, 5, 1, 4};
        x.body(9, 9, 9, 9, 9, 9, 9, 9);
        x.cloth(30, 4);
        x.end(0, 0);
        Due.style(x, "u1;w2");
        x.shortest(1, 0, 1, 0);
        x.solve(1, 0, 0, 400, 0);
        Due.feed(x, "?".repeat(64));
        x.read(0, 1);
        x.stretch(0, 0, 9);
        Due.moves(x, 0);
        x.fix();
        x.drape(2, 0, 0, 0);
        x.drape(1, 0, 0, 61);
        for (int what = 0; what < 12; what++) {
            Due.is("12: kept, " + what, want[what], x.look(what));
        }
        Due.is("11: kept", 4, x.layer(3, 3));
        Due.is("8: another breaks at once", -12, Schools.drape(x, "d1", 0, 0));
        Due.is("12: nothing was done ahead of it", 40, x.look(0));
        Due.is("12: nothing was done ahead of it", 0, x.look(1));
        Due.is("9: nothing was done ahead of it", 8, x.shows(0, 0));
    }
}
