import java.util.ArrayList;
import java.util.List;

/** The document done word by word, with no thought for speed or room: what ClothSchool is compared with. */
final class PlainSchool {
    static final int NONE = -1;
    static final String[] ACTS = {"w1", "w2", "w4", "w8", "p2.2", "u1", "d1", "r", "f", "s", "h9"};

    static final class Fault extends RuntimeException {
        private static final long serialVersionUID = 1L;
        final int code;

        Fault(int number, int place) {
            code = -1000 * number - place;
        }
    }

    static final class Break extends RuntimeException {
        private static final long serialVersionUID = 1L;
        final int why;

        Break(int why) {
            this.why = why;
        }
    }

    static final class Layer {
        int act;
        int low;
        int sector;
        int first;
        int cells;
        int rows;
        int side;

        boolean lies(int r, int s) {
            return s == sector && r >= low && r < low + rows;
        }
    }

    static final class Cloth {
        int length;
        int height;
        int[] colours = new int[6];
        int end;
    }

    /** Walks over a text and tells its first fault. */
    static final class Checker {
        final String text;
        int at = 0;
        int letters = 0;

        Checker(String text) {
            this.text = text;
        }

        char peek() {
            return at < text.length() ? text.charAt(at) : (char) 0xFFFF;
        }

        void must(char c) {
            if (peek() != c) {
                throw new Fault(1, at);
            }
            at++;
        }

        void all() {
            steps(0);
            if (at < text.length()) {
                throw new Fault(1, at);
            }
        }

        void steps(int open) {
            step(open);
            while (peek() == ';') {
                at++;
                step(open);
            }
        }

        void step(int open) {
            char c = peek();
            if ("wptudrfshxyz[".indexOf(c) < 0) {
                throw new Fault(1, at);
            }
            if (c == '[' && open == 3) {
                throw new Fault(3, at);
            }
            letters++;
            if (letters == 41) {
                throw new Fault(5, at);
            }
            at++;
            if ("xyz".indexOf(c) >= 0) {
                must('=');
            }
            if ("wpudhxyz[".indexOf(c) >= 0) {
                expression(0);
            }
            if (c == 'p') {
                must('.');
                expression(0);
            }
            if (c == '[') {
                must(':');
                steps(open + 1);
                must(']');
            }
        }

        void expression(int open) {
            factor(open);
            while ("+-*/".indexOf(peek()) >= 0) {
                at++;
                factor(open);
            }
        }

        void factor(int open) {
            char c = peek();
            if ("xyzlgki".indexOf(c) >= 0) {
                at++;
            } else if (c == '(') {
                if (open == 8) {
                    throw new Fault(4, at);
                }
                at++;
                expression(open + 1);
                must(')');
            } else if (c >= '0' && c <= '9') {
                int digits = 0;
                while (peek() >= '0' && peek() <= '9') {
                    digits++;
                    if (digits == 4) {
                        throw new Fault(2, at);
                    }
                    at++;
                }
            } else {
                throw new Fault(1, at);
            }
        }
    }

    /** Drapes by reading the text again and again. */
    static final class Draper {
        final String text;
        int at = 0;
        final int[] widths;
        final int length;
        final int height;
        final int[] names = new int[3];
        final List<Layer> laid = new ArrayList<>();
        final List<Integer> pinActs = new ArrayList<>();
        int cell;
        int ring;
        int sector;
        int way = 1;
        int side;
        int acts;
        int notLaid;
        boolean hung;
        int fall = NONE;
        int why;
        int brokenAt = NONE;
        int begun;

        Draper(String text, int[] widths, int length, int height, int z) {
            this.text = text;
            this.widths = widths;
            this.length = length;
            this.height = height;
            names[2] = z;
            try {
                steps();
            } catch (Break b) {
                why = b.why;
                brokenAt = begun - 1;
            }
        }

        char peek() {
            return at < text.length() ? text.charAt(at) : (char) 0xFFFF;
        }

        void steps() {
            step();
            while (peek() == ';') {
                at++;
                step();
            }
        }

        int left() {
            return length - cell;
        }

        int width() {
            int most = 0;
            for (int r = ring; r < ring + height; r++) {
                most = Math.max(most, widths[r]);
            }
            return most;
        }

        void number(int n, int least) {
            if (n < least || n > 200) {
                throw new Break(4);
            }
        }

        void need(int cells) {
            if (cells > left()) {
                throw new Break(1);
            }
        }

        void room(int layers) {
            if (laid.size() + layers > 400) {
                throw new Break(6);
            }
        }

        void lay(int low, int cells, int rows, int which) {
            Layer l = new Layer();
            l.act = acts;
            l.low = low;
            l.sector = sector;
            l.first = cell;
            l.cells = cells;
            l.rows = rows;
            l.side = which;
            laid.add(l);
            cell += cells;
        }

        void step() {
            begun++;
            if (begun == 2001) {
                throw new Break(6);
            }
            char c = peek();
            at++;
            switch (c) {
                case 'w': {
                    int n = sum();
                    number(n, 0);
                    need(n * width());
                    room(n);
                    for (int i = 0; i < n; i++) {
                        lay(ring, width(), height, side);
                        sector = Math.floorMod(sector + way, 8);
                    }
                    acts++;
                    break;
                }
                case 'p': {
                    int n = sum();
                    at++;
                    int depth = sum();
                    number(n, 0);
                    number(depth, 1);
                    need(2 * n * depth);
                    room(2 * n);
                    for (int i = 0; i < n; i++) {
                        lay(ring, depth, height, side == 0 ? 1 : 0);
                        lay(ring, depth, height, side);
                    }
                    acts++;
                    break;
                }
                case 't':
                    if (laid.isEmpty()) {
                        throw new Break(6);
                    }
                    pinActs.add(laid.get(laid.size() - 1).act);
                    break;
                case 'u':
                case 'd': {
                    int n = sum();
                    number(n, 0);
                    int to = c == 'u' ? ring + n : ring - n;
                    if (to < 0 || to + height - 1 > 7) {
                        throw new Break(2);
                    }
                    need(n);
                    cell += n;
                    notLaid += n;
                    ring = to;
                    acts++;
                    break;
                }
                case 'r':
                    way = -way;
                    break;
                case 'f':
                    side = side == 0 ? 1 : 0;
                    break;
                case 's':
                    if (ring + height - 1 != 7) {
                        throw new Break(3);
                    }
                    need(2 * widths[7]);
                    cell += 2 * widths[7];
                    notLaid += 2 * widths[7];
                    sector = (sector + 4) % 8;
                    acts++;
                    break;
                case 'h': {
                    int n = sum();
                    number(n, 0);
                    need(n);
                    int rest = n;
                    int to = ring;
                    int layers = 0;
                    while (rest > 0 && to > 0) {
                        to--;
                        layers++;
                        rest -= Math.min(5, rest);
                    }
                    room(layers);
                    rest = n;
                    for (int i = 1; i <= layers; i++) {
                        int here = Math.min(5, rest);
                        lay(ring - i, here, 1, side);
                        rest -= here;
                    }
                    cell += rest;
                    notLaid += rest;
                    hung = true;
                    fall = rest > 0 ? -1 : to;
                    acts++;
                    break;
                }
                case '[': {
                    int n = sum();
                    number(n, 0);
                    int body = at + 1;
                    for (int i = 0; i < n; i++) {
                        at = body;
                        steps();
                    }
                    at = body;
                    int open = 1;
                    while (open > 0) {
                        open += peek() == '[' ? 1 : peek() == ']' ? -1 : 0;
                        at++;
                    }
                    break;
                }
                default: {
                    at++;
                    names[c - 'x'] = sum();
                    break;
                }
            }
        }

        int sum() {
            int value = product();
            while (peek() == '+' || peek() == '-') {
                char op = peek();
                at++;
                int other = product();
                value = op == '+' ? value + other : value - other;
            }
            return value;
        }

        int product() {
            int value = factor();
            while (peek() == '*' || peek() == '/') {
                char op = peek();
                at++;
                int other = factor();
                if (op == '/' && other == 0) {
                    throw new Break(5);
                }
                value = op == '*' ? value * other : value / other;
            }
            return value;
        }

        int factor() {
            char c = peek();
            at++;
            switch (c) {
                case '(':
                    int inner = sum();
                    at++;
                    return inner;
                case 'x':
                case 'y':
                case 'z':
                    return names[c - 'x'];
                case 'l':
                    return left();
                case 'g':
                    return width();
                case 'k':
                    return sector;
                case 'i':
                    return ring;
                default:
                    int value = c - '0';
                    while (peek() >= '0' && peek() <= '9') {
                        value = value * 10 + peek() - '0';
                        at++;
                    }
                    return value;
            }
        }
    }

    final List<int[]> bodies = new ArrayList<>();
    final List<Cloth> cloths = new ArrayList<>();
    final List<String> styles = new ArrayList<>();
    final List<Integer> letters = new ArrayList<>();
    final int[][] stretches = new int[6][8];
    String tape = "";
    Draper drape = null;
    Cloth worn = null;
    int[][] row = null;
    List<Integer> slips = new ArrayList<>();
    int[] wrote = new int[0];

    int body(int... w) {
        for (int x : w) {
            if (x < 1 || x > 9) {
                return NONE;
            }
        }
        if (bodies.size() == 6) {
            return NONE;
        }
        bodies.add(w.clone());
        return bodies.size() - 1;
    }

    int cloth(int length, int height) {
        if (length < 10 || length > 400 || height < 1 || height > 4 || cloths.size() == 6) {
            return NONE;
        }
        Cloth c = new Cloth();
        c.length = length;
        c.height = height;
        cloths.add(c);
        return cloths.size() - 1;
    }

    static boolean in(int i, int n) {
        return i >= 0 && i < n;
    }

    boolean colour(int c, int row, int n) {
        if (!in(c, cloths.size()) || !in(row, 6) || !in(n, 8)) {
            return false;
        }
        cloths.get(c).colours[row] = n;
        return true;
    }

    boolean end(int c, int cells) {
        if (!in(c, cloths.size()) || !in(cells, cloths.get(c).length + 1)) {
            return false;
        }
        cloths.get(c).end = cells;
        return true;
    }

    int feed(int a, int b, int c, int d, int e) {
        if (tape.length() + 20 > 120) {
            return NONE;
        }
        for (int w : new int[] {a, b, c, d, e}) {
            tape += "" + (char) (w >>> 24) + (char) (w >>> 16 & 255) + (char) (w >>> 8 & 255) + (char) (w & 255);
        }
        return tape.length();
    }

    int style(int n) {
        if (styles.size() == 10 || n < 1 || n > tape.length()) {
            return NONE;
        }
        String text = tape.substring(0, n);
        tape = "";
        Checker checker = new Checker(text);
        try {
            checker.all();
        } catch (Fault f) {
            return f.code;
        }
        styles.add(text);
        letters.add(checker.letters);
        return styles.size() - 1;
    }

    int drape(int s, int b, int c, int z) {
        if (!in(s, styles.size()) || !in(b, bodies.size()) || !in(c, cloths.size()) || !in(z, 61)) {
            return NONE;
        }
        worn = cloths.get(c);
        drape = new Draper(styles.get(s), bodies.get(b), worn.length, worn.height, z);
        row = null;
        slips = new ArrayList<>();
        return drape.why == 0 ? drape.acts : -10 - drape.why;
    }

    static int shown(Draper d, Cloth cloth, List<Integer> gone, int ring, int sector) {
        int colour = 8;
        for (Layer l : d.laid) {
            if (l.lies(ring, sector) && !gone.contains(l.act)) {
                boolean ends = l.first >= cloth.length - cloth.end;
                colour = l.side == 1 ? cloth.colours[5] : ends ? cloth.colours[4] : cloth.colours[ring - l.low];
            }
        }
        return colour;
    }

    boolean noPlace(int ring, int sector) {
        return drape == null || !in(ring, 8) || !in(sector, 8);
    }

    int shows(int ring, int sector) {
        return noPlace(ring, sector) ? NONE : shown(drape, worn, new ArrayList<>(), ring, sector);
    }

    int layers(int ring, int sector) {
        if (noPlace(ring, sector)) {
            return NONE;
        }
        int many = 0;
        for (Layer l : drape.laid) {
            many += l.lies(ring, sector) ? 1 : 0;
        }
        return many;
    }

    int layer(int i, int what) {
        if (drape == null || !in(i, drape.laid.size()) || !in(what, 7)) {
            return NONE;
        }
        Layer l = drape.laid.get(i);
        return new int[] {l.act, l.low, l.sector, l.first, l.cells, l.rows, l.side}[what];
    }

    int look(int what) {
        if (drape == null || !in(what, 12)) {
            return NONE;
        }
        Draper d = drape;
        return new int[] {d.left(), d.acts, d.laid.size(), d.pinActs.size(), d.ring, d.sector, d.way, d.side,
            d.hung ? d.fall : NONE, d.notLaid, d.why, d.brokenAt}[what];
    }

    int strengthWith(int a, List<Integer> gone, int morePinsOn) {
        int most = 0;
        for (int i = 0; i < drape.laid.size(); i++) {
            Layer l = drape.laid.get(i);
            for (int r = l.low; l.act == a && r < l.low + l.rows; r++) {
                int upon = 0;
                for (int j = i + 1; j < drape.laid.size(); j++) {
                    Layer o = drape.laid.get(j);
                    upon += o.act != a && !gone.contains(o.act) && o.lies(r, l.sector) ? 1 : 0;
                }
                most = Math.max(most, upon);
            }
        }
        int pins = a == morePinsOn ? 1 : 0;
        for (int p : drape.pinActs) {
            pins += p == a ? 1 : 0;
        }
        return 4 * pins + most;
    }

    int strength(int a) {
        return drape == null || !in(a, drape.acts) ? NONE : strengthWith(a, new ArrayList<>(), NONE);
    }

    boolean stretch(int m, int r, int n) {
        if (!in(m, 6) || !in(r, 8) || !in(n, 10)) {
            return false;
        }
        stretches[m][r] = n;
        return true;
    }

    int pullOf(int[] stretch, int a) {
        int pull = 0;
        for (Layer l : drape.laid) {
            int most = 0;
            for (int r = l.low; r < l.low + l.rows; r++) {
                most = Math.max(most, stretch[r]);
            }
            pull += l.act == a ? most : 0;
        }
        return pull;
    }

    int pull(int m, int a) {
        return drape == null || !in(m, 6) || !in(a, drape.acts) ? NONE : pullOf(stretches[m], a);
    }

    List<Integer> play(int morePinsOn) {
        List<Integer> gone = new ArrayList<>();
        for (int[] stretch : row) {
            boolean again = true;
            while (again) {
                again = false;
                for (int a = drape.acts - 1; a >= 0 && !again; a--) {
                    if (!gone.contains(a) && pullOf(stretch, a) > strengthWith(a, gone, morePinsOn)) {
                        gone.add(a);
                        again = true;
                    }
                }
            }
        }
        return gone;
    }

    int moves(int n) {
        if (drape == null || n < 1 || n > 6 || n > tape.length()) {
            return NONE;
        }
        String told = tape.substring(0, n);
        tape = "";
        for (int i = 0; i < n; i++) {
            if (told.charAt(i) > 5) {
                return NONE;
            }
        }
        row = new int[n][];
        for (int i = 0; i < n; i++) {
            row[i] = stretches[told.charAt(i)].clone();
        }
        slips = play(NONE);
        return slips.size();
    }

    int slipped(int i) {
        return in(i, slips.size()) ? slips.get(i) : NONE;
    }

    int after(int ring, int sector) {
        return noPlace(ring, sector) || row == null ? NONE : shown(drape, worn, slips, ring, sector);
    }

    int fix() {
        if (row == null) {
            return NONE;
        }
        if (slips.isEmpty()) {
            return -2;
        }
        int answer = NONE;
        for (int a = drape.acts - 1; a >= 0 && answer == NONE; a--) {
            boolean has = false;
            for (Layer l : drape.laid) {
                has = has || l.act == a;
            }
            answer = has && play(a).isEmpty() ? a : NONE;
        }
        return answer;
    }

    int breaths() {
        return drape == null ? NONE : 1 + drape.pinActs.size();
    }

    int shortest(int s, int b, int height, int z) {
        if (!in(s, styles.size()) || !in(b, bodies.size()) || !in(height - 1, 4) || !in(z, 61)) {
            return NONE;
        }
        for (int length = 10; length <= 400; length++) {
            if (new Draper(styles.get(s), bodies.get(b), length, height, z).why == 0) {
                return length;
            }
        }
        return NONE;
    }

    int solve(int s, int b, int c, int left, int fall) {
        boolean known = in(s, styles.size()) && in(b, bodies.size()) && in(c, cloths.size());
        if (!known || !in(left, 401) || !in(fall + 1, 9)) {
            return NONE;
        }
        Cloth cloth = cloths.get(c);
        for (int z = 0; z <= 60; z++) {
            Draper d = new Draper(styles.get(s), bodies.get(b), cloth.length, cloth.height, z);
            if (d.why == 0 && d.left() <= left && d.hung && d.fall == fall) {
                return z;
            }
        }
        return NONE;
    }

    int read(int b, int c) {
        if (!in(b, bodies.size()) || !in(c, cloths.size()) || tape.length() < 64) {
            return NONE;
        }
        String signs = tape.substring(0, 64);
        tape = "";
        for (int i = 0; i < 64; i++) {
            if ("012345678?".indexOf(signs.charAt(i)) < 0) {
                return NONE;
            }
        }
        wrote = new int[0];
        int found = 0;
        int rows = 1;
        for (int acts = 1; acts <= 4; acts++) {
            rows *= 11;
            for (int n = 0; n < rows; n++) {
                int[] row = new int[acts];
                for (int k = acts - 1, rest = n; k >= 0; k--, rest /= 11) {
                    row[k] = rest % 11;
                }
                if (showsIt(row, b, c, signs)) {
                    wrote = found == 0 ? row : wrote;
                    found++;
                }
            }
        }
        return found;
    }

    boolean showsIt(int[] row, int b, int c, String signs) {
        StringBuilder text = new StringBuilder();
        for (int a : row) {
            text.append(text.length() == 0 ? "" : ";").append(ACTS[a]);
        }
        Cloth cloth = cloths.get(c);
        Draper d = new Draper(text.toString(), bodies.get(b), cloth.length, cloth.height, 0);
        for (int i = 0; i < 64 && d.why == 0; i++) {
            char sign = signs.charAt(i);
            if (sign != '?' && sign - '0' != shown(d, cloth, new ArrayList<>(), i / 8, i % 8)) {
                return false;
            }
        }
        return d.why == 0;
    }

    int wrote(int k) {
        return in(k, wrote.length) ? wrote[k] : NONE;
    }

    int count(int what) {
        if (in(what, 4)) {
            return new int[] {bodies.size(), cloths.size(), styles.size(), tape.length()}[what];
        }
        if (in(what - 10, 48)) {
            int b = (what - 10) / 8;
            return b < bodies.size() ? bodies.get(b)[(what - 10) % 8] : NONE;
        }
        if (in(what - 100, 60)) {
            int k = (what - 100) % 10;
            if ((what - 100) / 10 >= cloths.size() || k == 9) {
                return NONE;
            }
            Cloth c = cloths.get((what - 100) / 10);
            int[] all = c.colours;
            return new int[] {c.length, c.height, all[0], all[1], all[2], all[3], c.end, all[4], all[5]}[k];
        }
        return in(what - 200, styles.size()) ? letters.get(what - 200) : NONE;
    }
}
