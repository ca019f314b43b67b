import java.util.List;
import java.util.Random;

/** Calls by chance with any arguments: what they throw is listed, and a call that throws changes nothing. */
public final class WildTest {
    private static final List<Class<?>> LISTED = List.of(
            IndexOutOfBoundsException.class, IllegalArgumentException.class, IllegalStateException.class);
    private static final int[] EDGES = {Integer.MIN_VALUE, Integer.MIN_VALUE + 1, -1000000, -21, -20, -2, -1, 0, 1, 2, 3,
        4, 5, 19, 20, 21, 25, 26, 29, 30, 31, 59, 60, 61, 79, 80, 81, 99, 100, 101, 999, 1000, 1001, 1000000,
        Integer.MAX_VALUE - 1, Integer.MAX_VALUE};

    private final Random random;
    private final String name;
    private final LayoutPress press = new LayoutPress();
    private final int[] picked = new int[4];

    private WildTest(long seed) {
        random = new Random(seed);
        name = "seed " + seed + " ";
    }

    public static void main(String[] arguments) {
        for (int seed = 0; seed < 300; seed++) {
            new WildTest(seed).run();
        }
        Check.end();
    }

    private void run() {
        for (int call = 0; call < 512; call++) {
            String before = Answers.all(press);
            int kind = random.nextInt(30);
            for (int i = 0; i < picked.length; i++) {
                picked[i] = pick();
            }
            try {
                call(kind);
            } catch (RuntimeException e) {
                String what = name + "call " + call + " of kind " + kind;
                Check.that(what + " throws " + e, LISTED.contains(e.getClass()));
                Check.sameText(what + " throws and changes", Answers.all(press), before);
            }
        }
    }

    private int pick() {
        int kind = random.nextInt(8);
        if (kind == 0) {
            return EDGES[random.nextInt(EDGES.length)];
        }
        return kind == 1 ? random.nextInt(90) : random.nextInt(1 + Math.max(1, press.nodes()));
    }

    private void call(int kind) {
        int a = picked[0];
        int b = picked[1];
        int c = picked[2];
        switch (kind) {
            case 0 -> press.text(a, b);
            case 1 -> press.remark(a, b);
            case 2 -> press.line();
            case 3 -> press.soft();
            case 4 -> press.hard();
            case 5 -> press.tab(a);
            case 6, 7, 8 -> press.pair(a, b);
            case 9 -> press.nest(a, b);
            case 10 -> press.align(a);
            case 11, 12 -> press.group(a);
            case 13 -> press.choice(a, b);
            case 14 -> press.flat(a);
            case 15 -> press.broken(a, b);
            case 16 -> press.price(a, b);
            case 17 -> press.keep(a, b);
            case 18 -> press.cell(a, b, c);
            case 19 -> press.size(a);
            case 20 -> press.layouts(a);
            case 21 -> press.print(a, b, c, picked[3]);
            case 22 -> press.printByAll(a, b, c, picked[3]);
            case 23 -> press.printGreedy(a, b, c, picked[3]);
            case 24 -> press.length(a);
            case 25 -> press.signAt(a, b);
            case 26 -> press.nodeAt(a, b);
            case 27 -> press.placeOf(a);
            case 28 -> press.wayAt(a);
            default -> {
                if (a % 2 == 0) {
                    press.breakPages(b);
                } else {
                    press.pageOf(b);
                }
            }
        }
    }
}
