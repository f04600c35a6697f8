import java.util.ArrayList;
import java.util.List;
import java.util.Random;

/** Runs of chosen calls on a ClothSchool and on a PlainSchool, which must answer alike. */
public final class PlainTest {
    private static final int RUNS = 400;
    private static final int MOST_CALLS = 512;

    private final Random random;
    private final ClothSchool x = new ClothSchool();
    private final PlainSchool plain = new PlainSchool();
    private int calls = 0;
    private final String run;

    private PlainTest(int seed) {
        random = new Random(seed);
        run = "run " + seed;
    }

    public static void main(String[] args) {
        int from = args.length > 0 ? Integer.parseInt(args[0]) : 0;
        int runs = args.length > 1 ? Integer.parseInt(args[1]) : RUNS;
        for (int seed = from; seed < from + runs; seed++) {
            new PlainTest(seed).go();
        }
        Due.close();
    }

    private int any(int n) {
        return random.nextInt(n);
    }

    /** Mostly from 0 to n - 1, now and then about the edges or far off. */
    private int about(int n) {
        switch (any(40)) {
            case 0:
                return -1;
            case 1:
                return n;
            case 2:
                return random.nextInt();
            default:
                return any(n);
        }
    }

    private void is(String call, long want, long got) {
        calls++;
        Due.is(run + " call " + calls + " " + call, want, got);
    }

    private void is(String call, boolean want, boolean got) {
        is(call, want ? 1 : 0, got ? 1 : 0);
    }

    private void go() {
        body();
        cloth();
        newStyle();
        while (calls < MOST_CALLS - 40) {
            call(any(34));
        }
    }

    private void call(int which) {
        switch (which) {
            case 0:
                body();
                break;
            case 1:
                cloth();
                break;
            case 2:
            case 3:
                colours();
                break;
            case 4:
            case 5:
            case 6:
                newStyle();
                break;
            case 7:
            case 8:
            case 9:
            case 10:
            case 11:
            case 12:
                drape();
                break;
            case 13:
                shape();
                break;
            case 14:
            case 15:
            case 16:
            case 17:
            case 18:
                moves();
                break;
            case 19:
                shortest();
                break;
            case 20:
                solve();
                solve();
                break;
            case 21:
                if (any(12) == 0) {
                    read();
                }
                break;
            case 22:
                int what = any(2) == 0 ? about(230) : 10 * any(22) + any(10);
                is("count " + what, plain.count(what), x.count(what));
                break;
            case 23:
                words(random.nextInt());
                break;
            default:
                places();
                break;
        }
    }

    private int newBody() {
        return Math.max(1, plain.bodies.size());
    }

    private void body() {
        int most = 1 + any(9);
        int[] w = new int[8];
        for (int r = 0; r < 8; r++) {
            w[r] = any(80) == 0 ? about(11) : 1 + any(most);
        }
        is("body", plain.body(w), x.body(w[0], w[1], w[2], w[3], w[4], w[5], w[6], w[7]));
    }

    private void cloth() {
        int length = any(3) == 0 ? about(401) : 10 + any(70);
        int height = any(10) == 0 ? about(6) : 1 + any(4);
        is("cloth " + length + " " + height, plain.cloth(length, height), x.cloth(length, height));
        for (int row = 0; row < 6; row++) {
            int c = plain.cloths.size() - 1;
            int n = any(8);
            is("colour " + c + " " + row + " " + n, plain.colour(c, row, n), x.colour(c, row, n));
        }
    }

    private void colours() {
        int c = about(newBody());
        int row = about(6);
        int n = about(8);
        is("colour " + c + " " + row + " " + n, plain.colour(c, row, n), x.colour(c, row, n));
        int cells = any(2) == 0 ? any(30) : about(401);
        is("end " + c + " " + cells, plain.end(c, cells), x.end(c, cells));
    }

    private void words(int... w) {
        int[] all = new int[5];
        System.arraycopy(w, 0, all, 0, w.length);
        is("feed", plain.feed(all[0], all[1], all[2], all[3], all[4]), x.feed(all[0], all[1], all[2], all[3], all[4]));
    }

    private void feed(String text) {
        byte[] bytes = text.getBytes(java.nio.charset.StandardCharsets.ISO_8859_1);
        for (int at = 0; at < bytes.length; at += 20) {
            words(Due.words(bytes, at));
        }
    }

    private void newStyle() {
        if (plain.tape.length() > 0) {
            is("style 1", plain.style(1), x.style(1));
        }
        String text = any(4) == 0 ? chosen() : steps(0, 1 + any(5));
        if (any(5) == 0) {
            text = spoilt(text);
        }
        if (text.length() > 120) {
            text = text.substring(0, 120);
        }
        feed(text);
        int n = any(50) == 0 ? about(130) : text.length();
        is("style " + text, plain.style(n), x.style(n));
        drape();
    }

    /** Styles that chance alone seldom makes. */
    private String chosen() {
        switch (any(10)) {
            case 0:
                return "t;".repeat(37 + any(7)) + (any(2) == 0 ? "[1:t]" : "w1");
            case 1:
                return "[1:[1:[1:" + "t;".repeat(34 + any(6)) + step(2 + any(2)) + "]]]";
            case 2:
                return "w" + "(".repeat(7 + any(3)) + "1" + ")".repeat(7 + any(3));
            case 3:
                return "w" + any(2000) + "-" + any(2000);
            case 4:
                return "x=1;[31:x=x*2];y=x/(0-1);w(y-x);x=x-1;w" + "xy".charAt(any(2)) + "/" + any(999) + "/" + any(999) + "/" + any(999);
            case 5:
                return "[" + (190 + any(12)) + ":[9:" + step(2) + "]];" + step(0);
            case 6:
                return "u" + any(7) + ";[z:w1];[" + any(3) + ":h3];h" + "zlx".charAt(any(3)) + "/" + (1 + any(3));
            case 7:
                return "u" + any(7) + ";w" + sum(0, 9) + ";h(z-" + any(30) + ")*" + (1 + any(3)) + ";w(l/g-" + any(4) + ")";
            case 8:
                return "[" + any(202) + ":p" + any(3) + "." + (1 + any(2)) + ";t;w" + any(2) + "]";
            default:
                return "[" + (1 + any(4)) + ":w8;" + step(1) + "];" + step(0) + ";p2.1;t";
        }
    }

    private String spoilt(String text) {
        int at = any(text.length());
        String signs = "wptudrfshxyz[;:]()+-*/.=0123456789 lgki\u0000\u00ff\u00f8";
        String sign = any(3) == 0 ? "" : "" + signs.charAt(any(signs.length()));
        return text.substring(0, at) + sign + text.substring(Math.min(text.length(), at + any(2)));
    }

    private String steps(int open, int many) {
        StringBuilder text = new StringBuilder();
        for (int i = 0; i < many; i++) {
            text.append(i == 0 ? "" : ";").append(step(open));
        }
        return text.toString();
    }

    private String step(int open) {
        switch (any(16)) {
            case 0:
            case 1:
            case 2:
                return "w" + sum(0, 9);
            case 3:
            case 4:
                return "p" + sum(0, 4) + "." + sum(0, 4);
            case 5:
                return "t";
            case 6:
            case 7:
                return "u" + sum(0, 5);
            case 8:
                return "d" + sum(0, 3);
            case 9:
                return any(2) == 0 ? "r" : "f";
            case 10:
                return any(3) == 0 ? "s" : "u8-i-1;s";
            case 11:
            case 12:
                return "h" + sum(0, 30);
            case 13:
                return "xyz".charAt(any(3)) + "=" + sum(0, 20);
            default:
                return open >= 3 + any(20) / 19 ? "t" : "[" + sum(0, any(5) == 0 ? 201 : 4) + ":" + steps(open + 1, 1 + any(3)) + "]";
        }
    }

    private String sum(int open, int most) {
        switch (any(12)) {
            case 0:
                return sum(open + 1, most) + "+-*/".charAt(any(4)) + factor(open, most);
            case 1:
                return factor(open, most) + "+-*/".charAt(any(4)) + sum(open + 1, most);
            case 2:
                return "" + "xyzlgki".charAt(any(7));
            default:
                return factor(open, most);
        }
    }

    private String factor(int open, int most) {
        if (any(20) == 0 && open < 9) {
            return "(" + sum(open + 1, most) + ")";
        }
        if (any(150) == 0) {
            return "((((((((" + any(1000) + "))))))))";
        }
        return any(6) == 0 ? "" + "xyzlgki".charAt(any(7)) : "" + any(most + 1);
    }

    private void drape() {
        int s = any(2) == 0 ? Math.max(0, plain.styles.size() - 1) : about(Math.max(1, plain.styles.size()));
        int b = about(newBody());
        int c = about(Math.max(1, plain.cloths.size()));
        int z = about(61);
        is("drape " + s + " " + b + " " + c + " " + z, plain.drape(s, b, c, z), x.drape(s, b, c, z));
        for (int what = 0; what < 12; what++) {
            is("look " + what, plain.look(what), x.look(what));
        }
    }

    private void shape() {
        int what = about(12);
        is("look " + what, plain.look(what), x.look(what));
        is("breaths", plain.breaths(), x.breaths());
        for (int k = 0; k < 8; k++) {
            int i = about(Math.max(2, plain.look(2)));
            is("layer " + i + " " + k, plain.layer(i, k), x.layer(i, k));
        }
    }

    private void places() {
        int ring = any(2) == 0 ? any(3) : about(8);
        int sector = about(8);
        is("shows " + ring + " " + sector, plain.shows(ring, sector), x.shows(ring, sector));
        is("layers " + ring + " " + sector, plain.layers(ring, sector), x.layers(ring, sector));
        is("after " + ring + " " + sector, plain.after(ring, sector), x.after(ring, sector));
        int a = about(Math.max(2, plain.look(1)));
        is("strength " + a, plain.strength(a), x.strength(a));
        int m = about(6);
        is("pull " + m + " " + a, plain.pull(m, a), x.pull(m, a));
        int k = any(5);
        is("wrote " + k, plain.wrote(k), x.wrote(k));
    }

    private void moves() {
        for (int i = any(6); i > 0; i--) {
            int m = about(6);
            int r = about(8);
            int n = any(2) == 0 ? any(2) : about(10);
            is("stretch " + m + " " + r + " " + n, plain.stretch(m, r, n), x.stretch(m, r, n));
        }
        int n = any(20) == 0 ? about(8) : 1 + any(any(2) == 0 ? 1 : 6);
        int word = 0;
        for (int i = 0; i < 4; i++) {
            word = word << 8 | (any(80) == 0 ? any(256) : any(6));
        }
        words(word, any(6) << 24 | any(6) << 16);
        is("moves " + n, plain.moves(n), x.moves(n));
        for (int i = -1; i < 3; i++) {
            is("slipped " + i, plain.slipped(i), x.slipped(i));
        }
        is("fix", plain.fix(), x.fix());
        places();
    }

    private void shortest() {
        int s = about(Math.max(1, plain.styles.size()));
        int b = about(newBody());
        int height = any(6) == 0 ? about(6) : 1 + any(4);
        int z = about(61);
        is("shortest " + s + " " + b + " " + height + " " + z, plain.shortest(s, b, height, z), x.shortest(s, b, height, z));
    }

    private void solve() {
        int s = about(Math.max(1, plain.styles.size()));
        int b = about(newBody());
        int c = about(Math.max(1, plain.cloths.size()));
        int left = any(4) != 0 ? 400 : about(401);
        int fall = about(10) - 1;
        is("solve " + s + " " + b + " " + c + " " + left + " " + fall, plain.solve(s, b, c, left, fall), x.solve(s, b, c, left, fall));
    }

    private void read() {
        if (plain.tape.length() > 0) {
            is("style 1", plain.style(1), x.style(1));
        }
        if (plain.tape.length() > 0 || plain.cloths.isEmpty() || plain.bodies.isEmpty()) {
            return;
        }
        int b = any(plain.bodies.size());
        int c = any(plain.cloths.size());
        PlainSchool.Cloth cloth = plain.cloths.get(c);
        List<String> acts = new ArrayList<>();
        for (int i = 1 + any(4); i > 0; i--) {
            acts.add(PlainSchool.ACTS[any(11)]);
        }
        PlainSchool.Draper d = new PlainSchool.Draper(String.join(";", acts), plain.bodies.get(b), cloth.length, cloth.height, 0);
        StringBuilder signs = new StringBuilder();
        int gaps = any(3) * 10;
        for (int i = 0; i < 64; i++) {
            int shown = PlainSchool.shown(d, cloth, new ArrayList<>(), i / 8, i % 8);
            signs.append(any(30) < gaps ? '?' : (char) ('0' + shown));
        }
        if (any(10) == 0) {
            signs.setCharAt(any(64), "09?8x@/:".charAt(any(8)));
        }
        feed(signs.toString());
        is("read " + b + " " + c + " " + signs, plain.read(b, c), x.read(b, c));
        for (int k = 0; k < 5; k++) {
            is("wrote " + k, plain.wrote(k), x.wrote(k));
        }
    }
}
