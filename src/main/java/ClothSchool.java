import java.util.Arrays;

/** A draper's school; what each call answers and changes stands in ../shared/DOC.md. */
public final class ClothSchool {
    public static final int NONE = -1;

    private static final int RINGS = 8;
    private static final int SECTORS = 8;
    private static final int PLACES = 64;
    private static final int NOTHING_SHOWS = 8;

    private static final int MOST_BODIES = 6;
    private static final int MOST_CLOTHS = 6;
    private static final int MOST_STYLES = 10;
    private static final int MOST_WIDTH = 9;
    private static final int LEAST_LENGTH = 10;
    private static final int MOST_LENGTH = 400;
    private static final int MOST_HEIGHT = 4;
    private static final int MOST_COLOUR = 7;
    private static final int END_COLOUR = 4;
    private static final int WRONG_COLOUR = 5;
    private static final int MOST_TAPE = 120;
    private static final int FED = 20;
    private static final int MOST_Z = 60;
    private static final int MOVES = 6;
    private static final int MOST_STRETCH = 9;
    private static final int A_PIN_HOLDS = 4;
    private static final int MOST_LAYERS = 400;

    private static final int CELLS_TOO_FEW = 1;
    private static final int OFF_THE_RINGS = 2;
    private static final int NO_SHOULDER = 3;
    private static final int NUMBER_OFF = 4;
    private static final int BY_NOTHING = 5;
    private static final int TOO_MUCH = 6;

    private final int[] widths = new int[MOST_BODIES * RINGS];
    private int bodies = 0;
    private final Cloth[] cloths = new Cloth[MOST_CLOTHS];
    private int clothsMade = 0;
    private final Style[] styles = new Style[MOST_STYLES];
    private int stylesMade = 0;
    private final int[] tape = new int[MOST_TAPE];
    private int taped = 0;
    private final int[] stretches = new int[MOVES * RINGS];

    private final Scribe scribe = new Scribe();
    private final Hand hand = new Hand();
    private final Drape draped = new Drape();
    private final Drape trial = new Drape();
    private final Holding holding = new Holding();
    private final Picture picture = new Picture();
    /** The cloth of the drape; null as long as nothing was draped. */
    private Cloth worn = null;

    public ClothSchool() {
    }

    public int body(int a, int b, int c, int d, int e, int f, int g, int h) {
        boolean low = isWidth(a) && isWidth(b) && isWidth(c) && isWidth(d);
        boolean high = isWidth(e) && isWidth(f) && isWidth(g) && isWidth(h);
        if (!low || !high || bodies >= MOST_BODIES) {
            return NONE;
        }
        setWidth(0, a);
        setWidth(1, b);
        setWidth(2, c);
        setWidth(3, d);
        setWidth(4, e);
        setWidth(5, f);
        setWidth(6, g);
        setWidth(7, h);
        bodies++;
        return bodies - 1;
    }

    public int cloth(int length, int height) {
        boolean fits = length >= LEAST_LENGTH && length <= MOST_LENGTH && isHeight(height);
        if (!fits || !within(clothsMade, cloths.length)) {
            return NONE;
        }
        cloths[clothsMade] = new Cloth(length, height);
        clothsMade++;
        return clothsMade - 1;
    }

    public boolean colour(int c, int row, int n) {
        Cloth cloth = clothAt(c);
        if (cloth == null || !within(row, cloth.colours.length) || !within(n, MOST_COLOUR + 1)) {
            return false;
        }
        cloth.colours[row] = n;
        return true;
    }

    public boolean end(int c, int cells) {
        Cloth cloth = clothAt(c);
        if (cloth == null || cells < 0 || cells > cloth.length) {
            return false;
        }
        cloth.endCells = cells;
        return true;
    }

    public int feed(int a, int b, int c, int d, int e) {
        if (taped > MOST_TAPE - FED) {
            return NONE;
        }
        putOnTape(a);
        putOnTape(b);
        putOnTape(c);
        putOnTape(d);
        putOnTape(e);
        return taped;
    }

    public int style(int n) {
        if (!within(stylesMade, styles.length) || n < 1 || n > taped) {
            return NONE;
        }
        taped = 0;
        Style told = scribe.write(tape, n);
        if (told == null) {
            return -1000 * scribe.fault - scribe.place;
        }
        styles[stylesMade] = told;
        stylesMade++;
        return stylesMade - 1;
    }

    public int drape(int s, int b, int c, int z) {
        Style style = styleAt(s);
        Cloth cloth = clothAt(c);
        if (style == null || cloth == null || !within(b, bodies) || !within(z, MOST_Z + 1)) {
            return NONE;
        }
        draped.begin(widths, b, cloth.length, cloth.height);
        hand.work(style, draped, z);
        worn = cloth;
        holding.forget();
        return draped.why == 0 ? draped.acts : -10 - draped.why;
    }

    public int shows(int ring, int sector) {
        if (worn == null || !isPlace(ring, sector)) {
            return NONE;
        }
        return draped.laid.shown(draped.laid.last(ring, sector), ring, worn);
    }

    public int layers(int ring, int sector) {
        if (worn == null || !isPlace(ring, sector)) {
            return NONE;
        }
        return draped.laid.howMany(ring, sector);
    }

    public int layer(int i, int what) {
        if (worn == null) {
            return NONE;
        }
        return draped.laid.told(i, what);
    }

    public int look(int what) {
        if (worn == null) {
            return NONE;
        }
        return draped.told(what);
    }

    public int strength(int a) {
        if (worn == null || !within(a, draped.acts)) {
            return NONE;
        }
        return holding.strengthOf(draped.laid, a);
    }

    public boolean stretch(int m, int r, int n) {
        if (!within(m, MOVES) || !within(r, RINGS) || !within(n, MOST_STRETCH + 1)) {
            return false;
        }
        stretches[m * RINGS + r] = n;
        return true;
    }

    public int pull(int m, int a) {
        if (worn == null || !within(m, MOVES) || !within(a, draped.acts)) {
            return NONE;
        }
        Layers laid = draped.laid;
        int last = laid.lastOf(a);
        return laid.pulled(laid.firstWith(last), last, stretches, m * RINGS);
    }

    public int moves(int n) {
        if (worn == null || n < 1 || n > MOVES || n > taped) {
            return NONE;
        }
        taped = 0;
        if (!allWithin(n, MOVES)) {
            return NONE;
        }
        holding.forget();
        for (int i = 0; i < n && i < tape.length; i++) {
            holding.add(stretches, tape[i]);
        }
        return holding.play(draped.laid, NONE);
    }

    public int slipped(int i) {
        return within(i, holding.slips) && i < MOST_LAYERS ? holding.slipped[i] : NONE;
    }

    public int after(int ring, int sector) {
        if (worn == null || !isPlace(ring, sector) || holding.moves == 0) {
            return NONE;
        }
        return draped.laid.shown(holding.lastLeft(draped.laid, ring, sector), ring, worn);
    }

    public int fix() {
        if (worn == null || holding.moves == 0) {
            return NONE;
        }
        if (holding.slips == 0) {
            return -2;
        }
        return holding.fixedBy(draped.laid);
    }

    public int breaths() {
        return worn == null ? NONE : draped.pins + 1;
    }

    public int shortest(int s, int b, int height, int z) {
        Style style = styleAt(s);
        if (style == null || !within(b, bodies) || !isHeight(height) || !within(z, MOST_Z + 1)) {
            return NONE;
        }
        for (int length = LEAST_LENGTH; length <= MOST_LENGTH; length++) {
            trial.begin(widths, b, length, height);
            hand.work(style, trial, z);
            if (trial.why == 0) {
                return length;
            }
            // A break that no count of cells had a part in comes with every longer cloth too.
            if (trial.why != CELLS_TOO_FEW && !hand.askedLeft) {
                return NONE;
            }
        }
        return NONE;
    }

    public int solve(int s, int b, int c, int left, int fall) {
        Style style = styleAt(s);
        Cloth cloth = clothAt(c);
        if (style == null || cloth == null || !within(b, bodies)) {
            return NONE;
        }
        if (left < 0 || left > MOST_LENGTH || fall < -1 || fall >= RINGS) {
            return NONE;
        }
        for (int z = 0; z <= MOST_Z; z++) {
            trial.begin(widths, b, cloth.length, cloth.height);
            hand.work(style, trial, z);
            if (trial.why == 0 && trial.left() <= left && trial.hung && trial.fall == fall) {
                return z;
            }
        }
        return NONE;
    }

    public int read(int b, int c) {
        Cloth cloth = clothAt(c);
        if (cloth == null || !within(b, bodies) || taped < PLACES) {
            return NONE;
        }
        taped = 0;
        if (!picture.take(tape)) {
            return NONE;
        }
        trial.begin(widths, b, cloth.length, cloth.height);
        return picture.search(trial, cloth);
    }

    public int wrote(int k) {
        return within(k, picture.firstActs) && k < Picture.MOST_ACTS ? picture.first[k] : NONE;
    }

    public int count(int what) {
        if (what >= 200) {
            Style style = styleAt(what - 200);
            return style == null ? NONE : style.letters;
        }
        if (what >= 100) {
            Cloth cloth = clothAt((what - 100) / 10);
            return cloth == null ? NONE : cloth.told((what - 100) % 10);
        }
        if (what >= 10) {
            return within(what - 10, bodies * RINGS) ? widths[what - 10] : NONE;
        }
        switch (what) {
            case 0:
                return bodies;
            case 1:
                return clothsMade;
            case 2:
                return stylesMade;
            case 3:
                return taped;
            default:
                return NONE;
        }
    }

    private static boolean within(int i, int n) {
        return i >= 0 && i < n;
    }

    private static boolean isWidth(int w) {
        return w >= 1 && w <= MOST_WIDTH;
    }

    private static boolean isHeight(int h) {
        return h >= 1 && h <= MOST_HEIGHT;
    }

    private static boolean isPlace(int ring, int sector) {
        return within(ring, RINGS) && within(sector, SECTORS);
    }

    private void setWidth(int ring, int width) {
        int at = bodies * RINGS + ring;
        if (within(at, widths.length)) {
            widths[at] = width;
        }
    }

    private Cloth clothAt(int c) {
        return within(c, clothsMade) && c < cloths.length ? cloths[c] : null;
    }

    private Style styleAt(int s) {
        return within(s, stylesMade) && s < styles.length ? styles[s] : null;
    }

    private void putOnTape(int word) {
        for (int shift = 24; shift >= 0; shift -= 8) {
            if (within(taped, tape.length)) {
                tape[taped] = (word >>> shift) & 255;
                taped++;
            }
        }
    }

    private boolean allWithin(int n, int bound) {
        for (int i = 0; i < n && i < tape.length; i++) {
            if (!within(tape[i], bound)) {
                return false;
            }
        }
        return true;
    }

    private static final class Cloth {
        final int length;
        final int height;
        /** Those of the four rows, of the end and of the wrong side. */
        final int[] colours = new int[6];
        int endCells = 0;

        Cloth(int length, int height) {
            this.length = length;
            this.height = height;
        }

        int shown(int row, int cell, int side) {
            if (side != 0) {
                return colours[WRONG_COLOUR];
            }
            if (cell >= length - endCells) {
                return colours[END_COLOUR];
            }
            return within(row, MOST_HEIGHT) ? colours[row] : 0;
        }

        int told(int what) {
            switch (what) {
                case 0:
                    return length;
                case 1:
                    return height;
                case 6:
                    return endCells;
                case 7:
                    return colours[END_COLOUR];
                case 8:
                    return colours[WRONG_COLOUR];
                default:
                    return within(what - 2, MOST_HEIGHT) ? colours[what - 2] : NONE;
            }
        }
    }

    /** A text without faults, as marks that a Hand obeys one behind the other. */
    private static final class Style {
        final int[] marks;
        final int letters;

        Style(int[] marks, int letters) {
            this.marks = marks;
            this.letters = letters;
        }
    }

    /**
     * Makes a style's text into marks. What is reckoned stands ahead of the sign that takes it,
     * so that a Hand needs a pile of numbers and no calls within calls.
     */
    private static final class Scribe {
        static final int STEP_BEGINS = ';';
        static final int NAME_IS_GIVEN = 128;
        static final int NUMBER = 256;
        static final int NO_SIGN = -1;
        static final int MOST_MARKS = 2 * MOST_TAPE + 8;
        static final int MOST_LETTERS = 40;
        static final int MOST_ROWS_OPEN = 3;
        static final int MOST_BRACKETS_OPEN = 8;

        static final int CANT_STAND = 1;
        static final int FOURTH_DIGIT = 2;
        static final int FOURTH_ROW = 3;
        static final int NINTH_BRACKET = 4;
        static final int LETTER_41 = 5;

        private final int[] text = new int[MOST_TAPE];
        private int length = 0;
        private int at = 0;
        private final int[] marks = new int[MOST_MARKS];
        private int size = 0;
        private int letters = 0;
        int fault = 0;
        int place = 0;

        /** The style of the first n bytes; null if there is a fault, which is then told. */
        Style write(int[] bytes, int n) {
            length = Math.max(0, Math.min(n, Math.min(bytes.length, text.length)));
            System.arraycopy(bytes, 0, text, 0, length);
            at = 0;
            size = 0;
            letters = 0;
            fault = 0;
            place = 0;
            steps(0);
            if (fault == 0 && at < length) {
                blame(CANT_STAND);
            }
            if (fault != 0 || size < 0 || size > marks.length) {
                return null;
            }
            return new Style(Arrays.copyOf(marks, size), letters);
        }

        private int sign() {
            return within(at, length) && at < text.length ? text[at] : NO_SIGN;
        }

        private void blame(int number) {
            if (fault == 0) {
                fault = number;
                place = at;
            }
        }

        private void put(int mark) {
            if (fault == 0 && within(size, marks.length)) {
                marks[size] = mark;
                size++;
            }
        }

        private void pass(int due) {
            if (sign() == due) {
                at++;
            } else {
                blame(CANT_STAND);
            }
        }

        private void steps(int rowsOpen) {
            boolean more = fault == 0;
            for (int i = 0; more && i <= MOST_TAPE; i++) {
                step(rowsOpen);
                more = fault == 0 && sign() == ';';
                if (more) {
                    at++;
                }
            }
        }

        private void step(int rowsOpen) {
            int letter = sign();
            if (!isLetterOfStep(letter)) {
                blame(CANT_STAND);
            } else if (letter == '[' && rowsOpen >= MOST_ROWS_OPEN) {
                blame(FOURTH_ROW);
            } else if (letters >= MOST_LETTERS) {
                blame(LETTER_41);
            } else {
                letters++;
                at++;
                put(STEP_BEGINS);
                restOfStep(letter, rowsOpen);
            }
        }

        private void restOfStep(int letter, int rowsOpen) {
            switch (letter) {
                case 'w':
                case 'u':
                case 'd':
                case 'h':
                    sum(0);
                    put(letter);
                    break;
                case 'p':
                    sum(0);
                    pass('.');
                    sum(0);
                    put(letter);
                    break;
                case 'x':
                case 'y':
                case 'z':
                    pass('=');
                    sum(0);
                    put(letter + NAME_IS_GIVEN);
                    break;
                case '[':
                    restOfRow(rowsOpen);
                    break;
                default:
                    put(letter);
                    break;
            }
        }

        private void restOfRow(int rowsOpen) {
            sum(0);
            pass(':');
            put('[');
            int whereTo = size;
            put(0);
            steps(rowsOpen + 1);
            pass(']');
            put(']');
            if (fault == 0 && within(whereTo, marks.length)) {
                marks[whereTo] = size;
            }
        }

        private void sum(int bracketsOpen) {
            product(bracketsOpen);
            for (int i = 0; i < MOST_TAPE && fault == 0 && (sign() == '+' || sign() == '-'); i++) {
                int operator = sign();
                at++;
                product(bracketsOpen);
                put(operator);
            }
        }

        private void product(int bracketsOpen) {
            factor(bracketsOpen);
            for (int i = 0; i < MOST_TAPE && fault == 0 && (sign() == '*' || sign() == '/'); i++) {
                int operator = sign();
                at++;
                factor(bracketsOpen);
                put(operator);
            }
        }

        private void factor(int bracketsOpen) {
            int sign = sign();
            if (fault != 0) {
                return;
            }
            if (isDigit(sign)) {
                number();
            } else if (isLetterOfFactor(sign)) {
                put(sign);
                at++;
            } else if (sign != '(') {
                blame(CANT_STAND);
            } else if (bracketsOpen >= MOST_BRACKETS_OPEN) {
                blame(NINTH_BRACKET);
            } else {
                at++;
                sum(bracketsOpen + 1);
                pass(')');
            }
        }

        private void number() {
            int value = 0;
            for (int digits = 0; digits < 3 && isDigit(sign()); digits++) {
                value = 10 * value + sign() - '0';
                at++;
            }
            if (isDigit(sign())) {
                blame(FOURTH_DIGIT);
            }
            put(NUMBER + value);
        }

        private static boolean isDigit(int sign) {
            return sign >= '0' && sign <= '9';
        }

        private static boolean isLetterOfStep(int sign) {
            switch (sign) {
                case 'w':
                case 'p':
                case 't':
                case 'u':
                case 'd':
                case 'r':
                case 'f':
                case 's':
                case 'h':
                case 'x':
                case 'y':
                case 'z':
                case '[':
                    return true;
                default:
                    return false;
            }
        }

        private static boolean isLetterOfFactor(int sign) {
            switch (sign) {
                case 'x':
                case 'y':
                case 'z':
                case 'l':
                case 'g':
                case 'k':
                case 'i':
                    return true;
                default:
                    return false;
            }
        }
    }

    /** Does the marks of a style with a drape. */
    private static final class Hand {
        static final int MOST_STEPS = 2000;
        /** No style of 120 bytes has so many marks done before its 2001st step. */
        static final int MOST_TURNS = 1000000;

        private final int[] pile = new int[32];
        private int high = 0;
        private final int[] again = new int[Scribe.MOST_ROWS_OPEN];
        private final int[] backTo = new int[Scribe.MOST_ROWS_OPEN];
        private int rows = 0;
        private final int[] names = new int[3];
        private int[] marks = new int[0];
        private int next = 0;
        private int step = -1;
        boolean askedLeft = false;

        /** Drapes the style from the drape's beginning on, as far as it goes. */
        void work(Style style, Drape with, int z) {
            marks = style.marks;
            high = 0;
            rows = 0;
            names[0] = 0;
            names[1] = 0;
            names[2] = z;
            next = 0;
            step = -1;
            askedLeft = false;
            for (int turn = 0; turn < MOST_TURNS && with.why == 0 && within(next, marks.length); turn++) {
                int mark = marks[next];
                next++;
                int why = obey(mark, with);
                if (why != 0) {
                    with.why = why;
                    with.brokenStep = step;
                }
            }
        }

        private int obey(int mark, Drape with) {
            if (mark >= Scribe.NUMBER) {
                return push(mark - Scribe.NUMBER);
            }
            if (mark >= Scribe.NAME_IS_GIVEN) {
                return name(mark - Scribe.NAME_IS_GIVEN - 'x');
            }
            switch (mark) {
                case Scribe.STEP_BEGINS:
                    step++;
                    return step >= MOST_STEPS ? TOO_MUCH : 0;
                case '+':
                case '-':
                case '*':
                case '/':
                    return reckon(mark);
                case '[':
                    return beginRow();
                case ']':
                    return endOfRow();
                case 'l':
                case 'g':
                case 'k':
                case 'i':
                case 'x':
                case 'y':
                case 'z':
                    return push(valueOf(mark, with));
                default:
                    return act(mark, with);
            }
        }

        private int act(int mark, Drape with) {
            switch (mark) {
                case 'w':
                    return with.wind(pop());
                case 'p':
                    return pleat(with);
                case 't':
                    return with.tuck();
                case 'u':
                    return with.climb(pop(), 1);
                case 'd':
                    return with.climb(pop(), -1);
                case 'r':
                    return with.turn();
                case 'f':
                    return with.flip();
                case 's':
                    return with.cross();
                case 'h':
                    return with.hang(pop());
                default:
                    return 0;
            }
        }

        private int pleat(Drape with) {
            int depth = pop();
            int times = pop();
            return with.pleat(times, depth);
        }

        private int valueOf(int letter, Drape with) {
            switch (letter) {
                case 'l':
                    askedLeft = true;
                    return with.left();
                case 'g':
                    return with.width();
                case 'k':
                    return with.sector;
                case 'i':
                    return with.ring;
                default:
                    return within(letter - 'x', names.length) ? names[letter - 'x'] : 0;
            }
        }

        private int name(int which) {
            int value = pop();
            if (within(which, names.length)) {
                names[which] = value;
            }
            return 0;
        }

        private int reckon(int operator) {
            int right = pop();
            int left = pop();
            switch (operator) {
                case '+':
                    return push(left + right);
                case '-':
                    return push(left - right);
                case '*':
                    return push(left * right);
                default:
                    return right == 0 ? BY_NOTHING : push(left / right);
            }
        }

        private int beginRow() {
            int times = pop();
            if (!Drape.isNumber(times)) {
                return NUMBER_OFF;
            }
            if (!within(next, marks.length)) {
                return 0;
            }
            if (times == 0) {
                next = marks[next];
                return 0;
            }
            next++;
            if (within(rows, again.length) && rows < backTo.length) {
                again[rows] = times - 1;
                backTo[rows] = next;
                rows++;
            }
            return 0;
        }

        private int endOfRow() {
            int row = rows - 1;
            if (!within(row, again.length) || row >= backTo.length) {
                return 0;
            }
            if (again[row] == 0) {
                rows--;
            } else {
                again[row]--;
                next = backTo[row];
            }
            return 0;
        }

        private int push(int value) {
            if (within(high, pile.length)) {
                pile[high] = value;
                high++;
            }
            return 0;
        }

        private int pop() {
            if (!within(high - 1, pile.length)) {
                return 0;
            }
            high--;
            return pile[high];
        }
    }

    /** A cloth on its way about a body; what can't be done answers why it breaks, else 0. */
    private static final class Drape {
        static final int MOST_NUMBER = 200;
        static final int CELLS_A_RING = 5;

        final Layers laid = new Layers();
        private final int[] girths = new int[RINGS];
        private int length = 0;
        private int height = 1;
        int cell = 0;
        int ring = 0;
        int sector = 0;
        int way = 1;
        int side = 0;
        int acts = 0;
        int pins = 0;
        boolean hung = false;
        int fall = NONE;
        int notLaid = 0;
        int why = 0;
        int brokenStep = NONE;

        void begin(int[] widths, int b, int cells, int rows) {
            for (int r = 0; r < RINGS; r++) {
                int at = b * RINGS + r;
                girths[r] = within(at, widths.length) ? widths[at] : 0;
            }
            length = cells;
            height = rows;
            notLaid = 0;
            acts = 0;
            pins = 0;
            hung = false;
            fall = NONE;
            why = 0;
            brokenStep = NONE;
            goTo(0, 0, 0);
            way = 1;
            side = 0;
            laid.size = 0;
        }

        void goTo(int toRing, int toSector, int toCell) {
            ring = toRing;
            sector = toSector;
            cell = toCell;
        }

        int left() {
            return length - cell;
        }

        int width() {
            int most = 0;
            for (int r = Math.max(0, ring); r < ring + height && r < RINGS; r++) {
                most = Math.max(most, girths[r]);
            }
            return most;
        }

        static boolean isNumber(int n) {
            return n >= 0 && n <= MOST_NUMBER;
        }

        int wind(int times) {
            if (!isNumber(times)) {
                return NUMBER_OFF;
            }
            int wide = width();
            if (times * wide > left()) {
                return CELLS_TOO_FEW;
            }
            if (laid.size + times > MOST_LAYERS) {
                return TOO_MUCH;
            }
            for (int i = 0; i < times; i++) {
                laid.add(acts, ring, sector, cell, wide, height, side);
                cell += wide;
                sector = (sector + way) & (SECTORS - 1);
            }
            acts++;
            return 0;
        }

        int pleat(int times, int depth) {
            if (!isNumber(times) || !isNumber(depth) || depth == 0) {
                return NUMBER_OFF;
            }
            if (2 * times * depth > left()) {
                return CELLS_TOO_FEW;
            }
            if (laid.size + 2 * times > MOST_LAYERS) {
                return TOO_MUCH;
            }
            for (int i = 0; i < times; i++) {
                laid.add(acts, ring, sector, cell, depth, height, 1 - side);
                laid.add(acts, ring, sector, cell + depth, depth, height, side);
                cell += 2 * depth;
            }
            acts++;
            return 0;
        }

        int tuck() {
            if (!laid.tuckLast()) {
                return TOO_MUCH;
            }
            pins++;
            return 0;
        }

        int climb(int rings, int upOrDown) {
            if (!isNumber(rings)) {
                return NUMBER_OFF;
            }
            int to = ring + upOrDown * rings;
            if (to < 0 || to + height > RINGS) {
                return OFF_THE_RINGS;
            }
            if (rings > left()) {
                return CELLS_TOO_FEW;
            }
            goTo(to, sector, cell + rings);
            notLaid += rings;
            acts++;
            return 0;
        }

        int turn() {
            way = -way;
            return 0;
        }

        int flip() {
            side = 1 - side;
            return 0;
        }

        int cross() {
            if (ring + height != RINGS) {
                return NO_SHOULDER;
            }
            int cells = 2 * girths[RINGS - 1];
            if (cells > left()) {
                return CELLS_TOO_FEW;
            }
            goTo(ring, (sector + SECTORS / 2) & (SECTORS - 1), cell + cells);
            notLaid += cells;
            acts++;
            return 0;
        }

        int hang(int cells) {
            if (!isNumber(cells)) {
                return NUMBER_OFF;
            }
            if (cells > left()) {
                return CELLS_TOO_FEW;
            }
            int deep = (cells + CELLS_A_RING - 1) / CELLS_A_RING;
            int seen = Math.min(deep, ring);
            if (laid.size + seen > MOST_LAYERS) {
                return TOO_MUCH;
            }
            for (int i = 0; i < seen; i++) {
                int before = i * CELLS_A_RING;
                int cellsHere = Math.min(CELLS_A_RING, cells - before);
                laid.add(acts, ring - 1 - i, sector, cell + before, cellsHere, 1, side);
            }
            cell += cells;
            notLaid += Math.max(0, cells - CELLS_A_RING * seen);
            hung = true;
            fall = Math.max(-1, ring - deep);
            acts++;
            return 0;
        }

        int told(int what) {
            switch (what) {
                case 0:
                    return left();
                case 1:
                    return acts;
                case 2:
                    return laid.size;
                case 3:
                    return pins;
                case 4:
                    return ring;
                case 5:
                    return sector;
                case 6:
                    return way;
                case 7:
                    return side;
                case 8:
                    return fall;
                case 9:
                    return notLaid;
                case 10:
                    return why;
                case 11:
                    return brokenStep;
                default:
                    return NONE;
            }
        }
    }

    /** What was laid, in its order; the layers of one act lie side by side in it. */
    private static final class Layers {
        private final int[] acts = new int[MOST_LAYERS];
        private final int[] lows = new int[MOST_LAYERS];
        private final int[] sectors = new int[MOST_LAYERS];
        private final int[] firstCells = new int[MOST_LAYERS];
        private final int[] cells = new int[MOST_LAYERS];
        private final int[] rows = new int[MOST_LAYERS];
        private final int[] sides = new int[MOST_LAYERS];
        private final int[] pins = new int[MOST_LAYERS];
        int size = 0;

        void add(int act, int low, int sector, int firstCell, int many, int high, int side) {
            if (size < 0 || size >= MOST_LAYERS) {
                return;
            }
            acts[size] = act;
            lows[size] = low;
            sectors[size] = sector;
            firstCells[size] = firstCell;
            cells[size] = many;
            rows[size] = high;
            sides[size] = side;
            pins[size] = 0;
            size++;
        }

        boolean has(int i) {
            return i >= 0 && i < size && i < MOST_LAYERS;
        }

        boolean tuckLast() {
            if (!has(size - 1)) {
                return false;
            }
            pins[size - 1]++;
            return true;
        }

        int told(int i, int what) {
            if (!has(i)) {
                return NONE;
            }
            switch (what) {
                case 0:
                    return acts[i];
                case 1:
                    return lows[i];
                case 2:
                    return sectors[i];
                case 3:
                    return firstCells[i];
                case 4:
                    return cells[i];
                case 5:
                    return rows[i];
                case 6:
                    return sides[i];
                default:
                    return NONE;
            }
        }

        boolean lies(int i, int ring, int sector) {
            return has(i) && sectors[i] == sector && ring >= lows[i] && ring < lows[i] + rows[i];
        }

        int last(int ring, int sector) {
            for (int i = size - 1; i >= 0; i--) {
                if (lies(i, ring, sector)) {
                    return i;
                }
            }
            return NONE;
        }

        int howMany(int ring, int sector) {
            int many = 0;
            for (int i = 0; i < size; i++) {
                many += lies(i, ring, sector) ? 1 : 0;
            }
            return many;
        }

        int shown(int i, int ring, Cloth cloth) {
            return has(i) ? cloth.shown(ring - lows[i], firstCells[i], sides[i]) : NOTHING_SHOWS;
        }

        int actOf(int i) {
            return has(i) ? acts[i] : NONE;
        }

        int lowOf(int i) {
            return has(i) ? lows[i] : 0;
        }

        /** The ring above the highest on which the layer lies. */
        int topOf(int i) {
            return has(i) ? lows[i] + rows[i] : 0;
        }

        int place(int i, int ring) {
            return has(i) ? ring * SECTORS + sectors[i] : NONE;
        }

        int lastOf(int act) {
            for (int i = size - 1; i >= 0; i--) {
                if (actOf(i) == act) {
                    return i;
                }
            }
            return NONE;
        }

        /** The first layer of the act of the layer last; 0 if there is none, so that no layers lie from it to last. */
        int firstWith(int last) {
            int first = Math.max(0, last);
            for (int i = last; i >= 0 && actOf(i) == actOf(last); i--) {
                first = i;
            }
            return first;
        }

        int pulled(int from, int to, int[] stretches, int move) {
            int pull = 0;
            for (int i = from; i <= to; i++) {
                int most = 0;
                for (int ring = lowOf(i); ring < topOf(i); ring++) {
                    int at = move + ring;
                    most = within(at, stretches.length) ? Math.max(most, stretches[at]) : most;
                }
                pull += most;
            }
            return pull;
        }

        int held(int from, int to, int[] upon) {
            int held = 0;
            int most = 0;
            for (int i = from; i <= to; i++) {
                held += has(i) ? A_PIN_HOLDS * pins[i] : 0;
                for (int ring = lowOf(i); ring < topOf(i); ring++) {
                    int at = place(i, ring);
                    most = within(at, upon.length) ? Math.max(most, upon[at]) : most;
                }
            }
            return held + most;
        }

        void heap(int from, int to, int[] upon) {
            for (int i = from; i <= to; i++) {
                for (int ring = lowOf(i); ring < topOf(i); ring++) {
                    int at = place(i, ring);
                    if (within(at, upon.length)) {
                        upon[at]++;
                    }
                }
            }
        }
    }

    /** The row of moves told last and what slipped by it. */
    private static final class Holding {
        private final int[] stretches = new int[MOVES * RINGS];
        int moves = 0;
        private final boolean[] gone = new boolean[MOST_LAYERS];
        final int[] slipped = new int[MOST_LAYERS];
        int slips = 0;
        private final int[] upon = new int[PLACES];

        void forget() {
            moves = 0;
            slips = 0;
        }

        void add(int[] told, int move) {
            for (int r = 0; r < RINGS; r++) {
                int from = move * RINGS + r;
                int to = moves * RINGS + r;
                if (within(from, told.length) && within(to, stretches.length)) {
                    stretches[to] = told[from];
                }
            }
            moves++;
        }

        int strengthOf(Layers laid, int act) {
            int last = laid.lastOf(act);
            if (last == NONE) {
                return 0;
            }
            Arrays.fill(upon, 0);
            laid.heap(last + 1, laid.size - 1, upon);
            return laid.held(laid.firstWith(last), last, upon);
        }

        /** Does the row with one pin more on an act (or on none). */
        int play(Layers laid, int pinned) {
            for (int i = 0; i < gone.length; i++) {
                gone[i] = false;
            }
            slips = 0;
            for (int m = 0; m < moves && m < MOVES; m++) {
                doMove(laid, m, pinned);
            }
            return slips;
        }

        /** One way from the last act down does: an act that slips bares none but those laid before it. */
        private void doMove(Layers laid, int move, int pinned) {
            Arrays.fill(upon, 0);
            int last = laid.size - 1;
            for (int i = 0; i < MOST_LAYERS && last >= 0; i++) {
                int first = laid.firstWith(last);
                if (within(last, gone.length) && !gone[last]) {
                    int holds = laid.held(first, last, upon) + (laid.actOf(last) == pinned ? A_PIN_HOLDS : 0);
                    if (laid.pulled(first, last, stretches, move * RINGS) > holds) {
                        slip(first, last, laid.actOf(last));
                    } else {
                        laid.heap(first, last, upon);
                    }
                }
                last = first - 1;
            }
        }

        private void slip(int first, int last, int act) {
            for (int i = first; i <= last; i++) {
                if (within(i, gone.length)) {
                    gone[i] = true;
                }
            }
            if (within(slips, slipped.length)) {
                slipped[slips] = act;
                slips++;
            }
        }

        int lastLeft(Layers laid, int ring, int sector) {
            for (int i = laid.size - 1; i >= 0; i--) {
                if (within(i, gone.length) && !gone[i] && laid.lies(i, ring, sector)) {
                    return i;
                }
            }
            return NONE;
        }

        /** Without a pin on the act that slips first it slips again, so no other can be enough. */
        int fixedBy(Layers laid) {
            int act = slipped[0];
            int slipsThen = play(laid, act);
            play(laid, NONE);
            return slipsThen == 0 ? act : NONE;
        }
    }

    /** Finds the rows of acts by which a picture shows. */
    private static final class Picture {
        static final int ACTS = 11;
        static final int MOST_ACTS = 4;
        static final int ANYTHING = 9;
        /** Four acts of at most eight layers with at most four rows. */
        static final int MOST_PAINTED = 128;

        private final int[] wanted = new int[PLACES];
        private final int[] seen = new int[PLACES];
        private int differ = 0;
        private final int[] paintedPlace = new int[MOST_PAINTED];
        private final int[] paintedOver = new int[MOST_PAINTED];
        private int painted = 0;
        private final int[] row = new int[MOST_ACTS];
        private int found = 0;
        final int[] first = new int[MOST_ACTS];
        int firstActs = 0;

        /** Whether every sign can be. */
        boolean take(int[] signs) {
            boolean can = signs.length >= PLACES;
            for (int i = 0; i < PLACES && can; i++) {
                int sign = signs[i];
                can = sign == '?' || sign >= '0' && sign <= '8';
                wanted[i] = sign == '?' ? ANYTHING : sign - '0';
            }
            return can;
        }

        int search(Drape drape, Cloth cloth) {
            Arrays.fill(seen, NOTHING_SHOWS);
            differ = 0;
            for (int i = 0; i < PLACES; i++) {
                differ += isOff(i) ? 1 : 0;
            }
            painted = 0;
            found = 0;
            firstActs = 0;
            tryFrom(0, drape, cloth);
            return found;
        }

        private void tryFrom(int done, Drape drape, Cloth cloth) {
            if (!within(done, MOST_ACTS)) {
                return;
            }
            int ring = drape.ring;
            int sector = drape.sector;
            int cell = drape.cell;
            int way = drape.way;
            int side = drape.side;
            int size = drape.laid.size;
            int before = painted;
            for (int act = 0; act < ACTS; act++) {
                row[done] = act;
                if (perform(act, drape) == 0) {
                    paint(drape.laid, size, cloth);
                    keepIfShown(done + 1);
                    tryFrom(done + 1, drape, cloth);
                    unpaint(before);
                }
                drape.goTo(ring, sector, cell);
                drape.way = way;
                drape.side = side;
                drape.laid.size = size;
            }
        }

        private static int perform(int act, Drape drape) {
            switch (act) {
                case 0:
                case 1:
                case 2:
                case 3:
                    return drape.wind(1 << act);
                case 4:
                    return drape.pleat(2, 2);
                case 5:
                    return drape.climb(1, 1);
                case 6:
                    return drape.climb(1, -1);
                case 7:
                    return drape.turn();
                case 8:
                    return drape.flip();
                case 9:
                    return drape.cross();
                default:
                    return drape.hang(9);
            }
        }

        /** Rows come in their order, so of rows with as many acts the one that comes first is the least. */
        private void keepIfShown(int acts) {
            if (differ != 0) {
                return;
            }
            found++;
            if (firstActs == 0 || acts < firstActs) {
                firstActs = acts;
                System.arraycopy(row, 0, first, 0, Math.min(acts, MOST_ACTS));
            }
        }

        private boolean isOff(int place) {
            return within(place, PLACES) && wanted[place] != ANYTHING && wanted[place] != seen[place];
        }

        private void see(int place, int colour) {
            if (within(place, PLACES)) {
                differ -= isOff(place) ? 1 : 0;
                seen[place] = colour;
                differ += isOff(place) ? 1 : 0;
            }
        }

        private void paint(Layers laid, int from, Cloth cloth) {
            for (int i = from; i < laid.size; i++) {
                for (int ring = laid.lowOf(i); ring < laid.topOf(i); ring++) {
                    int place = laid.place(i, ring);
                    if (within(place, PLACES) && within(painted, MOST_PAINTED)) {
                        paintedPlace[painted] = place;
                        paintedOver[painted] = seen[place];
                        painted++;
                        see(place, laid.shown(i, ring, cloth));
                    }
                }
            }
        }

        private void unpaint(int to) {
            for (int i = painted - 1; i >= to && i >= 0; i--) {
                if (i < MOST_PAINTED) {
                    see(paintedPlace[i], paintedOver[i]);
                }
            }
            painted = to;
        }
    }
}
