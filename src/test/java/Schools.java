/** Schools in which a text is draped: body 0 of rings of one cell, 1 of 1 to 8 cells, 2 of 9 to 2, and one cloth. */
final class Schools {
    private Schools() {
    }

    static ClothSchool of(int length, int height) {
        ClothSchool x = new ClothSchool();
        x.body(1, 1, 1, 1, 1, 1, 1, 1);
        x.body(1, 2, 3, 4, 5, 6, 7, 8);
        x.body(9, 8, 7, 6, 5, 4, 3, 2);
        x.cloth(length, height);
        return x;
    }

    /** Drapes a new style on body b with cloth 0. */
    static int drape(ClothSchool x, String text, int b, int z) {
        return x.drape(Due.style(x, text), b, 0, z);
    }

    static ClothSchool draped(String text, int length, int height, int b) {
        ClothSchool x = of(length, height);
        drape(x, text, b, 0);
        return x;
    }

    static ClothSchool draped(String text, int length) {
        return draped(text, length, 1, 0);
    }

    /** What drape answers on body 0 with a cloth of one row. */
    static int answer(String text, int length) {
        return drape(of(length, 1), text, 0, 0);
    }

    static int answer(String text, int length, int height, int b) {
        return drape(of(length, height), text, b, 0);
    }

    /** The style's number or fault in a new object. */
    static int style(String text) {
        return Due.style(new ClothSchool(), text);
    }
}
