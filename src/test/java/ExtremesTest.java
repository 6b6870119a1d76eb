import java.util.Random;

/**
 * No call may throw or fail to end, whatever it is told: all pairs of extreme numbers for each call on a new object and
 * on a full one, and many more than 512 calls on one object.
 */
public final class ExtremesTest {
    private static final int[] NUMBERS = {Integer.MIN_VALUE, Integer.MIN_VALUE + 1, -100001, -101, -100, -11, -10, -9,
        -8, -3, -2, -1, 0, 1, 2, 3, 4, 5, 6, 7, 8, 9, 10, 11, 12, 13, 15, 16, 17, 39, 40, 41, 77, 78, 80, 100, 101, 112,
        255, 256, 300, 400, 500, 501, 512, 912, 1000, 1001, 9999, 10000, 99999, 100000, 100001,
        Integer.MAX_VALUE - 16, Integer.MAX_VALUE - 1, Integer.MAX_VALUE};
    private static final Due DUE = new Due();

    public static void main(String[] args) {
        pairs(new NewsWire(), "new");
        pairs(full(), "full");
        manyCalls();
        DUE.end();
    }

    private static NewsWire full() {
        Desk d = new Desk();
        NewsWire x = d.wire;
        for (int i = 0; i < 6; i++) {
            x.wire(0, 255, 1 + i);
        }
        for (int i = 0; i < 40; i++) {
            d.piece(i < 8 ? Desk.TAKE : i % 6, i < 8 ? i : i % 8, 0, 1, 2, 3, 4, 5, 6, 7, 8, 9, 10, 11, 12);
        }
        for (int i = 0; i < 40; i++) {
            x.file(i, i % 6);
            x.garble(i % 6, i);
        }
        for (int i = 0; i < 10; i++) {
            d.rule("rank " + i + " if words>3 and paper<9 and kind=0");
        }
        d.row(1, 2, 3);
        return x;
    }

    private static void pairs(NewsWire x, String which) {
        Random random = new Random(1);
        for (String name : Calls.NAMES) {
            for (int a : NUMBERS) {
                for (int b : NUMBERS) {
                    int c = NUMBERS[random.nextInt(NUMBERS.length)];
                    int d = NUMBERS[random.nextInt(NUMBERS.length)];
                    DUE.so(which + " " + name + "(" + a + ", " + b + ", " + c + ", " + d + ")", ends(x, name, a, b, c, d));
                }
            }
        }
    }

    private static boolean ends(NewsWire x, String name, int a, int b, int c, int d) {
        try {
            Calls.call(x, name, a, b, c, d);
            return true;
        } catch (RuntimeException thrown) {
            thrown.printStackTrace(System.out);
            return false;
        }
    }

    private static void manyCalls() {
        for (int seed = 0; seed < 20; seed++) {
            Random random = new Random(seed);
            NewsWire x = seed % 2 == 0 ? new NewsWire() : full();
            for (int i = 0; i < 50000; i++) {
                String name = Calls.NAMES[random.nextInt(Calls.NAMES.length)];
                int a = number(random);
                DUE.so(name, ends(x, name, a, number(random), number(random), number(random)));
            }
        }
        NewsWire x = new NewsWire();
        x.wire(0, 1, 1);
        for (int i = 0; i < 5000000; i++) {
            x.run(500);
        }
        DUE.so("a text when the tick has wrapped around", ends(x, "text", 0, 0, 0, 0));
        DUE.so("a garbling when the tick has wrapped around", ends(x, "garble", 0, 100000, 0, 0));
        DUE.so("a run when the tick has wrapped around", ends(x, "run", 500, 0, 0, 0));
    }

    private static int number(Random random) {
        return random.nextInt(4) == 0 ? NUMBERS[random.nextInt(NUMBERS.length)] : random.nextInt(14);
    }
}
