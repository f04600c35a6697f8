import com.sun.management.ThreadMXBean;
import java.lang.management.ManagementFactory;

/** Nothing that a run makes is given back, so 440 of the dearest calls must make next to nothing. */
public final class RoomTest {
    private static final long MOST_BYTES_A_SCHOOL = 64 * 1024;
    private static final long MOST_BYTES_A_RUN = 16 * 1024;
    private static final int CALLS = 440;

    private static final ThreadMXBean THREADS = (ThreadMXBean) ManagementFactory.getThreadMXBean();

    public static void main(String[] args) {
        // the classes' own loading is no room of a school
        school(7);
        for (int kind = 0; kind < 9; kind++) {
            run(kind);
        }
        Due.close();
    }

    private static long bytes() {
        return THREADS.getThreadAllocatedBytes(Thread.currentThread().getId());
    }

    private static ClothSchool school(int more) {
        ClothSchool x = new ClothSchool();
        x.body(1, 1, 1, 1, 1, 1, 1, 1);
        x.cloth(400, 4);
        Due.style(x, "w200;p50.1;[9:t];h9");
        Due.style(x, "[200:[200:x=l]]");
        Due.style(x, "u3;[z:w1];h200-z");
        for (int i = 0; i < more; i++) {
            Due.style(x, "t;".repeat(39) + "t");
        }
        return x;
    }

    private static void run(int kind) {
        long before = bytes();
        ClothSchool made = new ClothSchool();
        long one = bytes() - before;
        Due.is("a school's room: " + one, true, one <= MOST_BYTES_A_SCHOOL);
        Due.is("a school", 0, made.count(0));
        // with ten styles there style looks at no text
        ClothSchool x = school(kind == 5 ? 0 : 7);
        x.drape(0, 0, 0, 0);
        x.stretch(0, 0, 1);
        before = bytes();
        for (int i = 0; i < CALLS; i++) {
            call(x, kind, i);
        }
        long used = bytes() - before;
        Due.is("room of " + CALLS + " calls, kind " + kind + ": " + used, true, used <= MOST_BYTES_A_RUN);
    }

    private static void call(ClothSchool x, int kind, int i) {
        switch (kind) {
            case 0:
                x.drape(i % 3, 0, 0, i % 61);
                break;
            case 1:
                if (i % 5 < 4) {
                    x.feed(0x3F3F3F3F, 0x3F3F3F3F, 0x3F3F3F3F, 0x3F3F3F3F, 0x3F3F3F3F);
                } else {
                    x.read(0, 0);
                }
                break;
            case 2:
                if (i % 3 == 0) {
                    x.feed(0x01020304, 0x05000000, 0, 0, 0);
                } else if (i % 3 == 1) {
                    x.moves(6);
                } else {
                    x.fix();
                }
                break;
            case 3:
                x.shortest(i % 2, 0, 1, 0);
                break;
            case 4:
                x.solve(2, 0, 0, i % 401, -1);
                break;
            case 5:
                if (i % 2 == 0) {
                    x.feed(0x773B773B, 0, 0, 0, 0);
                } else {
                    x.style(1 + i % 20);
                }
                break;
            case 6:
                if (i % 2 == 0) {
                    x.body(1, 1, 1, 1, 1, 1, 1, 1);
                } else {
                    x.cloth(10, 1);
                }
                break;
            case 7:
                look(x, i);
                break;
            default:
                x.count(i);
                break;
        }
    }

    private static void look(ClothSchool x, int i) {
        switch (i % 6) {
            case 0:
                x.shows(i % 8, i / 8 % 8);
                break;
            case 1:
                x.after(i % 8, i / 8 % 8);
                break;
            case 2:
                x.strength(i % 5);
                break;
            case 3:
                x.pull(0, i % 5);
                break;
            case 4:
                x.layer(i, i % 7);
                break;
            default:
                x.look(i % 12);
                break;
        }
    }
}
