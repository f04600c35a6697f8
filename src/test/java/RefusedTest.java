import java.util.ArrayList;
import java.util.LinkedHashMap;
import java.util.List;
import java.util.Map;
import java.util.function.ToIntFunction;

/**
 * "A call that is refused (NONE, false) changes nothing but the tape, where it is told": after each refused call, and
 * after each that only asks, an object answers as a twin that never had it, now and by what comes later.
 */
public final class RefusedTest {
    private static final int NONE = ClothSchool.NONE;
    private static final String PICTURE = "8".repeat(64);

    /** How a twin is made, so that a call finds nothing, something, or all places taken. */
    private enum Made { NEW, LITTLE, ALL, BROKEN }

    private static final Map<String, ToIntFunction<ClothSchool>> REFUSED = new LinkedHashMap<>();
    private static final Map<String, ToIntFunction<ClothSchool>> ASKED = new LinkedHashMap<>();

    public static void main(String[] args) {
        refusedStores();
        refusedDrapes();
        refusedPlaces();
        refusedFinds();
        asked();
        for (Made made : Made.values()) {
            REFUSED.forEach((name, call) -> refusedAs(name, call, made));
            ASKED.forEach((name, call) -> changesNothing(name, call, made));
        }
        tapeTold();
        Due.close();
    }

    private static int bit(boolean b) {
        return b ? 1 : NONE;
    }

    private static void refusedStores() {
        REFUSED.put("body, width 0", x -> x.body(1, 1, 1, 1, 1, 1, 1, 0));
        REFUSED.put("body, width 10", x -> x.body(10, 1, 1, 1, 1, 1, 1, 1));
        REFUSED.put("cloth, length 9", x -> x.cloth(9, 1));
        REFUSED.put("cloth, length 401", x -> x.cloth(401, 1));
        REFUSED.put("cloth, height 0", x -> x.cloth(10, 0));
        REFUSED.put("cloth, height 5", x -> x.cloth(10, 5));
        REFUSED.put("colour, cloth -1", x -> bit(x.colour(-1, 0, 7)));
        REFUSED.put("colour, cloth 6", x -> bit(x.colour(6, 0, 7)));
        REFUSED.put("colour, row -1", x -> bit(x.colour(0, -1, 7)));
        REFUSED.put("colour, row 6", x -> bit(x.colour(0, 6, 7)));
        REFUSED.put("colour, n -1", x -> bit(x.colour(0, 0, -1)));
        REFUSED.put("colour, n 8", x -> bit(x.colour(0, 0, 8)));
        REFUSED.put("end, cloth -1", x -> bit(x.end(-1, 0)));
        REFUSED.put("end, cloth 6", x -> bit(x.end(6, 0)));
        REFUSED.put("end, -1", x -> bit(x.end(0, -1)));
        REFUSED.put("end, 401", x -> bit(x.end(0, 401)));
        REFUSED.put("style, n 0", x -> x.style(0));
        REFUSED.put("style, n -1", x -> x.style(-1));
        REFUSED.put("style, n 121", x -> x.style(121));
        REFUSED.put("stretch, move -1", x -> bit(x.stretch(-1, 0, 9)));
        REFUSED.put("stretch, move 6", x -> bit(x.stretch(6, 0, 9)));
        REFUSED.put("stretch, ring -1", x -> bit(x.stretch(0, -1, 9)));
        REFUSED.put("stretch, ring 8", x -> bit(x.stretch(0, 8, 9)));
        REFUSED.put("stretch, n -1", x -> bit(x.stretch(0, 0, -1)));
        REFUSED.put("stretch, n 10", x -> bit(x.stretch(0, 0, 10)));
    }

    private static void refusedDrapes() {
        REFUSED.put("drape, style -1", x -> x.drape(-1, 0, 0, 0));
        REFUSED.put("drape, style 10", x -> x.drape(10, 0, 0, 0));
        REFUSED.put("drape, body -1", x -> x.drape(0, -1, 0, 0));
        REFUSED.put("drape, body 6", x -> x.drape(0, 6, 0, 0));
        REFUSED.put("drape, cloth -1", x -> x.drape(0, 0, -1, 0));
        REFUSED.put("drape, cloth 6", x -> x.drape(0, 0, 6, 0));
        REFUSED.put("drape, z -1", x -> x.drape(0, 0, 0, -1));
        REFUSED.put("drape, z 61", x -> x.drape(0, 0, 0, 61));
        REFUSED.put("moves, n 0", x -> x.moves(0));
        REFUSED.put("moves, n 7", x -> x.moves(7));
        REFUSED.put("moves, n -1", x -> x.moves(-1));
        REFUSED.put("shortest, style 10", x -> x.shortest(10, 0, 1, 0));
        REFUSED.put("shortest, body 6", x -> x.shortest(0, 6, 1, 0));
        REFUSED.put("shortest, height 0", x -> x.shortest(0, 0, 0, 0));
        REFUSED.put("shortest, height 5", x -> x.shortest(0, 0, 5, 0));
        REFUSED.put("shortest, z 61", x -> x.shortest(0, 0, 1, 61));
        REFUSED.put("solve, style 10", x -> x.solve(10, 0, 0, 400, 0));
        REFUSED.put("solve, body 6", x -> x.solve(0, 6, 0, 400, 0));
        REFUSED.put("solve, cloth 6", x -> x.solve(0, 0, 6, 400, 0));
        REFUSED.put("solve, left -1", x -> x.solve(0, 0, 0, -1, 0));
        REFUSED.put("solve, left 401", x -> x.solve(0, 0, 0, 401, 0));
        REFUSED.put("solve, fall -2", x -> x.solve(0, 0, 0, 400, -2));
        REFUSED.put("solve, fall 8", x -> x.solve(0, 0, 0, 400, 8));
    }

    private static void refusedPlaces() {
        REFUSED.put("shows, ring 8", x -> x.shows(8, 0));
        REFUSED.put("shows, sector -1", x -> x.shows(0, -1));
        REFUSED.put("layers, ring -1", x -> x.layers(-1, 0));
        REFUSED.put("layers, sector 8", x -> x.layers(0, 8));
        REFUSED.put("layer 400", x -> x.layer(400, 0));
        REFUSED.put("layer, what 7", x -> x.layer(0, 7));
        REFUSED.put("look 12", x -> x.look(12));
        REFUSED.put("strength 2001", x -> x.strength(2001));
        REFUSED.put("pull, move 6", x -> x.pull(6, 0));
        REFUSED.put("pull, act -1", x -> x.pull(0, -1));
        REFUSED.put("slipped -1", x -> x.slipped(-1));
        REFUSED.put("slipped 400", x -> x.slipped(400));
        REFUSED.put("after, ring 8", x -> x.after(8, 0));
        REFUSED.put("after, sector -1", x -> x.after(0, -1));
        REFUSED.put("wrote 4", x -> x.wrote(4));
        REFUSED.put("wrote -1", x -> x.wrote(-1));
        REFUSED.put("count 210", x -> x.count(210));
        REFUSED.put("count -1", x -> x.count(-1));
    }

    private static void refusedFinds() {
        REFUSED.put("read, body 6", x -> x.read(6, 0));
        REFUSED.put("read, body -1", x -> x.read(-1, 0));
        REFUSED.put("read, cloth 6", x -> x.read(0, 6));
        REFUSED.put("read, cloth -1", x -> x.read(0, -1));
        REFUSED.put("shortest, none does", x -> x.shortest(2, 0, 1, 0));
        REFUSED.put("solve, none is", x -> x.solve(2, 0, 0, 400, 0));
        REFUSED.put("solve, none leaves so few", x -> x.solve(0, 0, 0, 0, 7));
    }

    private static void asked() {
        ASKED.put("shows", x -> x.shows(0, 0));
        ASKED.put("layers", x -> x.layers(0, 0));
        ASKED.put("layer", x -> x.layer(0, 3));
        ASKED.put("look", x -> x.look(2));
        ASKED.put("strength", x -> x.strength(0));
        ASKED.put("pull", x -> x.pull(0, 0));
        ASKED.put("slipped", x -> x.slipped(0));
        ASKED.put("after", x -> x.after(0, 0));
        ASKED.put("fix", ClothSchool::fix);
        ASKED.put("breaths", ClothSchool::breaths);
        ASKED.put("shortest", x -> x.shortest(1, 1, 2, 9));
        ASKED.put("solve", x -> x.solve(1, 0, 0, 400, -1));
        ASKED.put("wrote", x -> x.wrote(0));
        ASKED.put("count", x -> x.count(0));
    }

    private static ClothSchool make(Made made) {
        ClothSchool x = new ClothSchool();
        if (made == Made.NEW) {
            return x;
        }
        x.body(1, 1, 1, 1, 1, 1, 1, 1);
        x.body(2, 3, 1, 4, 2, 1, 1, 9);
        x.cloth(70, 2);
        for (int row = 0; row < 6; row++) {
            x.colour(0, row, row + 1);
        }
        x.end(0, 55);
        Due.style(x, "w3;t;u2;w5;h8;d1;r;w2;t;t;f;p1.2;d1;w2");
        Due.style(x, "u2;hz;[z:w1]");
        Due.style(x, "w3;u1;w2;d9");
        if (made == Made.ALL) {
            fill(x);
        }
        x.stretch(0, 0, 3);
        x.stretch(0, 1, 2);
        x.stretch(5, 3, 1);
        Due.feed(x, PICTURE.substring(0, 62) + "??");
        x.read(0, 0);
        x.drape(made == Made.BROKEN ? 2 : 0, 0, 0, 0);
        Due.moves(x, 0, 5);
        if (made == Made.ALL) {
            Due.feed(x, "1".repeat(120));
        } else {
            Due.feed(x, "r;f");
        }
        return x;
    }

    private static void fill(ClothSchool x) {
        for (int b = 2; b < 6; b++) {
            x.body(b, 1, 1, 1, 1, 1, 1, b);
        }
        for (int c = 1; c < 6; c++) {
            x.cloth(10 + c, 1 + c % 4);
        }
        for (int s = 3; s < 10; s++) {
            Due.style(x, "w" + s);
        }
    }

    /** What can be seen of an object without changing it. */
    private static List<Integer> seen(ClothSchool x) {
        List<Integer> all = new ArrayList<>();
        for (int what = 0; what < 12; what++) {
            all.add(x.look(what));
            all.add(x.count(what < 4 ? what : 6 + what));
            all.add(x.count(100 + what));
            all.add(x.count(200 + what));
        }
        for (int i = 0; i < 8; i++) {
            all.add(x.layer(2 * i, i % 7));
            all.add(x.layer(2 * i + 1, 3));
            all.add(x.count(10 + 9 * i));
            all.add(x.count(101 + 11 * i));
        }
        for (int i = 0; i < 24; i++) {
            all.add(x.shows(i / 8, i % 8));
            all.add(x.after(i / 8, i % 8));
        }
        for (int a = 0; a < 8; a++) {
            all.add(x.strength(a));
            all.add(x.pull(0, a));
            all.add(x.pull(5, a));
            all.add(x.slipped(a));
        }
        for (int k = 0; k < 4; k++) {
            all.add(x.wrote(k));
        }
        all.add(x.breaths());
        all.add(x.fix());
        return all;
    }

    /** What an object answers to calls that change it, to tell what lay hidden. */
    private static List<Integer> later(ClothSchool x) {
        List<Integer> all = new ArrayList<>();
        all.add(x.moves(1));
        all.add(x.style(3));
        all.add(x.feed(0, 0, 0, 0, 0));
        all.add(x.moves(2));
        all.add(x.slipped(0));
        all.add(x.slipped(1));
        all.add(x.fix());
        all.add(x.body(2, 2, 2, 2, 2, 2, 2, 2));
        all.add(x.cloth(60, 1));
        all.add(Due.style(x, "u1;h6;w2"));
        for (int s = 0; s < 4; s++) {
            all.add(x.shortest(s, 0, 1, 0));
            all.add(x.solve(s, 0, 0, 400, -1));
            all.add(x.drape(s, 0, 0, 7));
            all.add(x.look(0));
            all.add(x.look(9));
            all.add(x.shows(0, 0));
        }
        Due.feed(x, PICTURE);
        all.add(x.count(3));
        all.add(x.read(0, 0));
        all.add(x.wrote(0));
        return all;
    }

    private static void alike(String call, List<Integer> want, List<Integer> got) {
        for (int i = 0; i < want.size(); i++) {
            Due.is(call + ", what is seen by " + i, want.get(i), got.get(i));
        }
    }

    private static void refusedAs(String name, ToIntFunction<ClothSchool> call, Made made) {
        ClothSchool x = make(made);
        Due.is(name + " is refused, " + made, NONE, call.applyAsInt(x));
        changesNothing(name, call, made);
    }

    private static void changesNothing(String name, ToIntFunction<ClothSchool> call, Made made) {
        ClothSchool x = make(made);
        call.applyAsInt(x);
        call.applyAsInt(x);
        ClothSchool twin = make(made);
        alike(name + ", " + made, seen(twin), seen(x));
        alike(name + ", " + made + ", later", later(twin), later(x));
    }

    /** Refused calls that empty the tape change nothing else: the twin's tape is emptied another way. */
    private static void tapeTold() {
        ToIntFunction<ClothSchool> fault = x -> x.style(2);
        ToIntFunction<ClothSchool> noMove = x -> x.moves(1);
        for (Made made : new Made[] {Made.LITTLE, Made.BROKEN}) {
            emptied("style with a fault", made, fault, -1002, noMove);
            emptied("moves, the first is none", made, noMove, NONE, fault);
            emptied("moves, all are none", made, x -> x.moves(6), NONE, fault);
            emptied("read, a sign is none", made, RefusedTest::readNoSign, NONE, fault);
        }
        stays("six bodies", x -> x.body(1, 1, 1, 1, 1, 1, 1, 1));
        stays("six cloths", x -> x.cloth(10, 1));
        stays("ten styles", x -> x.style(1));
        stays("ten styles", x -> x.style(120));
        stays("120 bytes", x -> x.feed(0, 0, 0, 0, 0));
    }

    private static int readNoSign(ClothSchool x) {
        Due.feed(x, PICTURE);
        return x.read(0, 0);
    }

    private static void emptied(String name, Made made, ToIntFunction<ClothSchool> call, int want, ToIntFunction<ClothSchool> other) {
        ClothSchool x = make(made);
        Due.is("the tape ahead of " + name, 20, x.count(3));
        Due.is(name + ", " + made, want, call.applyAsInt(x));
        Due.is(name + ", the tape", 0, x.count(3));
        ClothSchool twin = make(made);
        other.applyAsInt(twin);
        alike(name + ", " + made, seen(twin), seen(x));
        alike(name + ", " + made + ", later", later(twin), later(x));
    }

    private static void stays(String name, ToIntFunction<ClothSchool> call) {
        Due.is(name + " are there", NONE, call.applyAsInt(make(Made.ALL)));
        changesNothing(name, call, Made.ALL);
        Due.is(name + ": the tape is full", 120, make(Made.ALL).count(3));
    }
}
