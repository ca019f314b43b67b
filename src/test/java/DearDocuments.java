import java.util.Random;

/** Documents that are made to have many states: main prints what print() answers for them. */
public final class DearDocuments {
    private DearDocuments() {
    }

    public static void main(String[] arguments) {
        System.out.print(answers(Integer.parseInt(arguments[0])));
    }

    /** What print() answers for documents of each sort, so many of each that goes by chance. */
    static String answers(int count) {
        StringBuilder all = new StringBuilder();
        for (int seed = 0; seed < count; seed++) {
            LayoutPress press = new LayoutPress();
            Random random = new Random(seed);
            int root = levels(press, random);
            for (int i = 0; i < 3; i++) {
                answer(press, root, 1 + random.nextInt(80), 1 + random.nextInt(80), i == 0 ? 0 : random.nextInt(101), all);
            }
        }
        for (int digits = 2; digits <= 4; digits++) {
            for (boolean tab : new boolean[] {false, true}) {
                LayoutPress press = new LayoutPress();
                int root = blocks(press, digits, 3, tab);
                answer(press, root, 1, 1, 0, all);
                answer(press, root, 12, 2, 1, all);
            }
        }
        return all.toString();
    }

    private static void answer(LayoutPress press, int root, int width, int ribbon, int price, StringBuilder all) {
        try {
            all.append(press.print(root, width, ribbon, price)).append(Answers.of(press));
        } catch (IllegalStateException e) {
            all.append("impossible");
        }
        all.append('\n');
    }

    /** The run that issue 5 tells: three ways to go on at each of ten ALIGNs, and ten GROUPs in the innermost. */
    static int tenAligns(LayoutPress press) {
        int line = press.line();
        int group = press.group(line);
        int ways = press.pair(press.nest(5, group), press.nest(9, group));
        int part = line;
        for (int i = 0; i < 10; i++) {
            part = press.group(part);
        }
        for (int i = 0; i < 9; i++) {
            part = press.pair(press.align(press.pair(ways, part)), line);
        }
        return press.align(press.pair(ways, part));
    }

    /** Documents of that kind: other NESTs, ALIGNs and GROUPs, CHOICEs, and TEXTs, REMARKs and TABs between. */
    static int levels(LayoutPress press, Random random) {
        int line = press.line();
        int end = random.nextInt(3) == 0 ? press.soft() : line;
        int fork = random.nextInt(3) == 0 ? press.choice(end, press.text(1, 1 + random.nextInt(20))) : press.group(end);
        int ways = press.nest(random.nextInt(41) - 20, fork);
        for (int i = random.nextInt(3); i > 0; i--) {
            int more = random.nextInt(4) == 0 ? press.choice(line, end) : fork;
            ways = press.pair(ways, press.nest(random.nextInt(41) - 20, more));
        }
        int between = switch (random.nextInt(6)) {
            case 0 -> press.text(2, 1 + random.nextInt(20));
            case 1 -> press.remark(3, 1 + random.nextInt(20));
            case 2 -> press.tab(random.nextInt(81));
            case 3 -> press.price(random.nextInt(20), line);
            default -> -1;
        };
        int part = end;
        for (int i = random.nextInt(12); i > 0; i--) {
            part = random.nextInt(5) == 0 ? press.choice(part, line) : press.group(part);
        }
        part = press.pair(ways, part);
        int whole = part;
        try {
            while (press.nodes() < 50) {
                whole = part;
                part = level(press, part, ways, between, line, random);
            }
        } catch (IllegalStateException e) {
            // one level more would be too large
        }
        return last(press, whole, random);
    }

    private static int level(LayoutPress press, int inner, int ways, int between, int line, Random random) {
        int part = inner;
        if (between >= 0 && random.nextInt(3) == 0) {
            part = random.nextBoolean() ? press.pair(between, part) : press.pair(part, between);
        }
        int end = random.nextInt(5) == 0 ? press.pair(press.tab(random.nextInt(81)), line) : line;
        part = press.pair(press.align(part), end);
        if (random.nextInt(3) == 0) {
            part = press.pair(part, press.text(4, 1 + random.nextInt(20)));
        }
        return press.pair(ways, part);
    }

    private static int last(LayoutPress press, int whole, Random random) {
        int root = whole;
        try {
            for (int i = 0; i < 3; i++) {
                root = switch (random.nextInt(4)) {
                    case 0 -> press.pair(root, press.text(5, 1 + random.nextInt(20)));
                    case 1 -> press.pair(root, press.tab(random.nextInt(81)));
                    case 2 -> press.group(root);
                    default -> press.align(root);
                };
            }
        } catch (IllegalStateException e) {
            // it is as large as it can be
        }
        return root;
    }

    /**
     * A block that ends in twice as many columns with each digit, once outside and once within an
     * ALIGN; ahead of them are line ends that lead to nothing; a tab behind makes that no column is
     * better than another one.
     */
    static int blocks(LayoutPress press, int digits, int ahead, boolean tab) {
        int hard = press.hard();
        int text = press.text(0, 1);
        int shifted = press.soft();
        int fork = press.group(shifted);
        int shift = 0;
        int block = -1;
        for (int digit = 0; digit < digits; digit++) {
            while (shift < 1 << digit) {
                int more = Math.min(20, (1 << digit) - shift);
                shifted = press.nest(more, shifted);
                shift += more;
            }
            int one = press.align(press.group(shifted));
            block = block < 0 ? one : press.pair(block, one);
        }
        int end = tab ? press.pair(text, press.pair(press.tab(30), text)) : press.pair(text, text);
        int root = press.pair(block, press.align(press.pair(block, press.pair(hard, end))));
        for (int i = 0; i < ahead; i++) {
            root = press.pair(fork, i == 0 ? press.pair(hard, root) : root);
        }
        return root;
    }
}
