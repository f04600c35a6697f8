/** The edges of texts: how long, what can stand where, and each fault by the last that is taken and the first that is not. */
public final class TextEdgesTest {
    private static final int NONE = ClothSchool.NONE;
    private static final String STEP = "wptudrfshxyz[";
    private static final String FACTOR = "0123456789(xyzlgki";
    private static final String DIGITS = "0123456789";
    private static final String OPERATORS = "+-*/";
    /** Where an E stands, and what may come behind it. */
    private static final String[][] SUMS = {{"w", ";"}, {"u", ";"}, {"d", ";"}, {"h", ";"}, {"p", "."}, {"p1.", ";"},
        {"x=", ";"}, {"y=", ";"}, {"z=", ";"}, {"[", ":"}, {"[1:w", ";]"}, {"[1:[2:p3.", ";]"}, {"w(", ")"}, {"[((", ")"}};

    public static void main(String[] args) {
        lengths();
        tapeByStyle();
        tenStyles();
        signsOfSteps();
        signsOfSums();
        theEnd();
        digits();
        rowsOpen();
        bracketsOpen();
        letters();
        lettersCounted();
        firstFromTheLeft();
        Due.close();
    }

    private static void fault(String text, int want) {
        Due.is("7: " + text, want, Schools.style(text));
    }

    /** TEXTS of at most 120 bytes; n (1 to 120), the tape has not so many. */
    private static void lengths() {
        ClothSchool x = new ClothSchool();
        Due.is("7: 1 of an empty tape", NONE, x.style(1));
        Due.is("7: 0 of an empty tape", NONE, x.style(0));
        for (int n = 20; n <= 120; n += 20) {
            x.feed(0x743B743B, 0x743B743B, 0x743B743B, 0x743B743B, 0x743B743B);
            for (int off : new int[] {0, -1, n + 1, 121, 1000, Integer.MIN_VALUE, Integer.MAX_VALUE}) {
                Due.is("7: " + off + " of " + n, NONE, x.style(off));
                Due.is("7: the tape stays", n, x.count(3));
            }
        }
        Due.is("7: no style by them", 0, x.count(2));
        Due.is("7: 1 of 120", 0, x.style(1));
        Due.is("7: empty then", 0, x.count(3));
        Due.is("7: 1 of none", NONE, x.style(1));
        for (int n = 20; n <= 120; n += 20) {
            String text = "w1" + "+1".repeat(n / 2 - 1);
            x = Schools.of(400, 1);
            Due.is("7: all of " + n, 0, Due.style(x, text));
            x.drape(0, 0, 0, 0);
            Due.is("7: of all " + n, n / 2, x.look(2));
        }
        fault("w" + "1+".repeat(59) + "(", -1120);
        fault("w" + "1+".repeat(59) + "+", -1119);
        Due.is("7: what is behind n is no part", 0, ofFirst("t;q", 1));
        Due.is("7: what is behind n is no part", -1002, ofFirst("t;q", 2));
        Due.is("7: what is behind n is no part", 0, ofFirst("w1234", 4));
    }

    private static int ofFirst(String text, int n) {
        ClothSchool x = new ClothSchool();
        Due.feed(x, text);
        return x.style(n);
    }

    /** Empty then; the tape stays. */
    private static void tapeByStyle() {
        String[] texts = {"t", "q", "w1234", "[1:[1:[1:[1:t]]]]", "w(((((((((1)))))))))", "t;".repeat(40) + "t"};
        int[] want = {0, -1000, -2004, -3009, -4009, -5080};
        for (int i = 0; i < texts.length; i++) {
            ClothSchool x = new ClothSchool();
            Due.is("7: " + texts[i], want[i], Due.style(x, texts[i]));
            Due.is("7: the tape is empty then", 0, x.count(3));
            Due.is("7: a style by none but the first", i == 0 ? 1 : 0, x.count(2));
            Due.is("7: a letter by none but the first", i == 0 ? 1 : NONE, x.count(200));
            Due.is("7: the next", i == 0 ? 1 : 0, Due.style(x, "r"));
        }
    }

    /** STYLES 0 to 9; NONE: 10 are there. */
    private static void tenStyles() {
        ClothSchool x = Schools.of(40, 1);
        for (int s = 0; s < 10; s++) {
            Due.is("7: a fault has no number", -1000, Due.style(x, "q"));
            Due.is("8: style " + s + " is not there yet", NONE, x.drape(s, 0, 0, 0));
            Due.is("7: style " + s, s, Due.style(x, "w" + (s + 1)));
            Due.is("8: style " + s, 1, x.drape(s, 0, 0, 0));
        }
        Due.is("7: the eleventh", NONE, Due.style(x, "w30"));
        Due.is("7: the tape stays", 20, x.count(3));
        Due.is("7: a fault's eleventh", NONE, x.style(20));
        Due.is("7: the tape stays", 20, x.count(3));
        Due.is("25: ten", 10, x.count(2));
        Due.is("8: none by it", NONE, x.drape(10, 0, 0, 0));
        for (int s = 0; s < 10; s++) {
            x.drape(s, 0, 0, 0);
            Due.is("7: style " + s + " as it was", s + 1, x.look(2));
        }
    }

    /** Behind the text each of the 256 bytes: those that can stand there are no fault at it. */
    private static void canStand(String text, String signs) {
        for (char c = 0; c < 256; c++) {
            int got = Schools.style(text + c);
            boolean can = signs.indexOf(c) >= 0;
            // a text that is good as far as here ends well or with a fault at its end
            int atEnd = -1000 - text.length() - 1;
            boolean due = can ? got == 0 || got == atEnd : got == -1000 - text.length();
            Due.is("7: behind " + text + " the byte " + (int) c + " answered " + got, true, due);
        }
    }

    /** What can't stand there, of STEPS. */
    private static void signsOfSteps() {
        for (String text : new String[] {"", "t;", "w1;", "[1:", "[1:t;", "[1:[1:", "[1:t];", "[1:[1:t];"}) {
            canStand(text, STEP);
        }
        for (String text : new String[] {"t", "r", "f", "s", "[1:t]", "x=1;t"}) {
            canStand(text, ";");
        }
        for (String text : new String[] {"[1:t", "[1:[1:t]", "[1:[1:[1:s"}) {
            canStand(text, ";]");
        }
        for (String text : new String[] {"x", "y", "z", "[1:z"}) {
            canStand(text, "=");
        }
    }

    /** What can't stand there, of E. */
    private static void signsOfSums() {
        for (String[] sum : SUMS) {
            canStand(sum[0], FACTOR);
            for (char operator : OPERATORS.toCharArray()) {
                canStand(sum[0] + "1" + operator, FACTOR);
            }
            canStand(sum[0] + "(", FACTOR);
            canStand(sum[0] + "1", DIGITS + OPERATORS + sum[1]);
            canStand(sum[0] + "12", DIGITS + OPERATORS + sum[1]);
            canStand(sum[0] + "(1", DIGITS + OPERATORS + ")");
            canStand(sum[0] + "(x", OPERATORS + ")");
            canStand(sum[0] + "(1)", OPERATORS + sum[1]);
            canStand(sum[0] + "2*l", OPERATORS + sum[1]);
        }
        for (char name : "xyzlgki".toCharArray()) {
            canStand("w" + name, OPERATORS + ";");
        }
    }

    /** The end, too, can't stand everywhere. */
    private static void theEnd() {
        String whole = "w(1+x)*2;p1.(l);[g:[2:t;x=k-1];h3];u12";
        for (int n = 1; n <= whole.length(); n++) {
            String text = whole.substring(0, n);
            boolean can = text.equals("w(1+x)") || text.equals("w(1+x)*2") || text.equals("w(1+x)*2;p1.(l)")
                || n == whole.length() || n == whole.length() - 1 || n == whole.length() - 4;
            fault(text, can ? 0 : -1000 - n);
        }
        fault("t", 0);
        fault("r", 0);
        fault("f", 0);
        fault("s", 0);
        fault("x=y", 0);
    }

    /** A number of one to three digits; 2: a fourth digit, at it. */
    private static void digits() {
        for (String[] sum : SUMS) {
            for (String number : new String[] {"0", "9", "00", "99", "000", "007", "999"}) {
                Due.is("7: " + sum[0] + number, false, Schools.style(sum[0] + number) <= -2000);
            }
            for (char d : DIGITS.toCharArray()) {
                fault(sum[0] + "123" + d, -2000 - sum[0].length() - 3);
                fault(sum[0] + "000" + d, -2000 - sum[0].length() - 3);
                fault(sum[0] + "1+999" + d + d, -2000 - sum[0].length() - 5);
            }
        }
        fault("w123x", -1004);
        fault("w1 23", -1002);
    }

    /** At most 3 that are open; 3: a fourth [ that is open, at it. */
    private static void rowsOpen() {
        fault("[1:[1:[1:t]]]", 0);
        fault("[1:[1:[1:t]];[1:[1:t];[1:t]]];[1:[1:[1:t]]]", 0);
        fault("[1:[1:[1:t;t;t]]];t", 0);
        fault("[1:[1:[1:[1:t]]]]", -3009);
        fault("t;[12:t;[1:[1:w1;[", -3017);
        fault("[1:[1:[1:t];[1:t;[1:t]]]]", -3017);
        fault("[1:[1:[1:t]];[1:[1:[1:t]]]]", -3019);
    }

    /** 4: a ninth ( that is open in one E, at it. */
    private static void bracketsOpen() {
        String eight = "((((((((1))))))))";
        for (String[] sum : SUMS) {
            int open = sum[0].length() - sum[0].replace("(", "").length();
            String most = "(".repeat(8 - open) + "1" + ")".repeat(8 - open);
            Due.is("7: eight in " + sum[0], false, Schools.style(sum[0] + most) <= -2000);
            Due.is("7: eight and eight in " + sum[0], false, Schools.style(sum[0] + most + "+" + most + "*" + most) <= -2000);
            fault(sum[0] + "(" + most, -4000 - sum[0].length() - 8 + open);
            fault(sum[0] + most + "+(" + most, -4000 - sum[0].length() - most.length() - 9 + open);
        }
        fault("w" + eight + ";w" + eight, 0);
        fault("p" + eight + "." + eight, 0);
        fault("[" + eight + ":w" + eight + "]", 0);
        fault("w(" + eight.replace("1", "1)*(2") + ")", -4009);
        fault("w((((((((1)+(2))))))))+((((((((3))))))))", 0);
        fault("w((((((((1)+((2)", -4013);
    }

    /** 5: the 41st letter of a STEP, at it. */
    private static void letters() {
        String forty = "t;".repeat(40);
        for (char letter : STEP.toCharArray()) {
            fault(forty + letter, -5080);
        }
        for (String step : new String[] {"w1", "p1.1", "t", "u1", "d1", "r", "f", "s", "h1", "x=1", "y=1", "z=1"}) {
            fault("t;".repeat(39) + step, 0);
            fault("t;".repeat(39) + step + ";t", -5000 - 78 - step.length() - 1);
            fault(step + ";" + "t;".repeat(38) + "t", 0);
            fault(step + ";" + "t;".repeat(39) + "t", -5000 - 79 - step.length());
        }
        fault("t;".repeat(38) + "[1:t]", 0);
        fault("t;".repeat(39) + "[1:t]", -5081);
        fault("t;".repeat(40) + "[1:t]", -5080);
        fault("[1:" + "t;".repeat(38) + "t]", 0);
        fault("[1:" + "t;".repeat(38) + "t];t", -5082);
        fault(forty + "a", -1080);
        fault(forty + "l", -1080);
        fault(forty, -1080);
    }

    /** Letters of an E are none of a STEP. */
    private static void lettersCounted() {
        fault("wx+y+z+x+y+z+x+y+z+x+y+z+x+y+z+x+y+z+x+y+z+x+y+z+x+y+z+x+y+z+x+y+z+x+y+z+x+y+z+x+y+z", 0);
        ClothSchool x = new ClothSchool();
        Due.style(x, "[x+y:w(x+z);p(z).(k);[l:u(i);x=y+z]];h(g)");
        Due.is("25: letters", 7, x.count(200));
    }

    /** FAULTS, the first from the left. */
    private static void firstFromTheLeft() {
        fault("q;w1234", -1000);
        fault("w1234;q", -2004);
        fault("w1234q", -2004);
        fault("w(1234", -2005);
        fault("w(((((((((1234", -4009);
        fault("w1234+(((((((((", -2004);
        fault("[1:[1:[1:[1234:", -3009);
        fault("[1:[1:[1:w1234;[1:t]]]]", -2013);
        fault("[1:[1:[1:w(((((((((;[1:t]]]]", -4018);
        fault("t;".repeat(40) + "w1234", -5080);
        fault("t;".repeat(39) + "w1234;t", -2082);
        fault("[1:[1:[1:" + "t;".repeat(36) + "[1:t;t", -3081);
        // both at one place: the one that the document tells first
        fault("[1:[1:[1:" + "t;".repeat(37) + "[1:t;t", -3083);
        fault("[1:[1:[1:" + "t;".repeat(37) + "t;[", -5083);
        fault("w1;;q", -1003);
    }
}
