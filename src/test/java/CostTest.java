import java.util.Random;

/**
 * What print() looks for costs what it comes to: a document without ways costs as much as it is
 * printed for, so beside one word of a price it is taken if that price is higher, and not otherwise.
 */
public final class CostTest {
    private final Random random;
    private final String name;
    private final LayoutPress press = new LayoutPress();

    private CostTest(long seed) {
        random = new Random(seed);
        name = "seed " + seed + " ";
    }

    public static void main(String[] arguments) {
        int compared = 0;
        for (int seed = 0; seed < 20000; seed++) {
            compared += new CostTest(seed).run();
        }
        System.out.println(compared + " documents");
        Check.that("there were documents: " + compared, compared > 5000);
        Check.end();
    }

    private int run() {
        int word = press.text(25, 1);
        press.line();
        press.hard();
        int calls = 5 + random.nextInt(40);
        for (int i = 0; i < calls && press.nodes() < 50; i++) {
            try {
                make();
            } catch (IllegalStateException e) {
                // it would be too large, or can stand in no cell
            }
        }
        int document = press.nodes() - 1;
        int width = 1 + random.nextInt(random.nextBoolean() ? 60 : 10);
        int ribbon = 1 + random.nextInt(random.nextBoolean() ? 60 : 10);
        int price = random.nextInt(30);
        try {
            int cost = press.print(document, width, ribbon, price);
            if (press.size(document) == 30 || cost < 1 || cost >= 1000) {
                return 0;
            }
            for (int other = cost - 1; other <= cost + 1; other++) {
                int choice = press.choice(press.price(other, word), document);
                Check.same(name + "beside " + other, press.print(choice, width, ribbon, price), Math.min(cost, other));
                Check.same(name + "way beside " + other, press.wayAt(0), cost < other ? 1 : 0);
            }
            return 1;
        } catch (IllegalStateException e) {
            return 0;
        }
    }

    private int part() {
        int count = press.nodes();
        return random.nextInt(3) == 0 ? random.nextInt(count) : count - 1 - random.nextInt(Math.min(4, count));
    }

    private void make() {
        switch (random.nextInt(22)) {
            case 0, 1 -> press.text(random.nextInt(26), 1 + random.nextInt(6));
            case 2 -> press.line();
            case 3 -> press.hard();
            case 4 -> press.soft();
            case 5 -> press.tab(random.nextInt(30));
            case 6 -> press.price(random.nextInt(40), part());
            case 7 -> press.keep(1, part());
            case 8 -> press.flat(part());
            case 9 -> press.broken(part(), part());
            case 10 -> press.cell(0, random.nextInt(2), part());
            case 11, 12 -> press.nest(random.nextInt(21) - 8, part());
            case 13, 14, 15 -> press.align(part());
            case 16 -> press.remark(1, 1 + random.nextInt(5));
            default -> press.pair(part(), part());
        }
    }
}
