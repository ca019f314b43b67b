import java.util.Random;

/** Documents by chance: all that can be asked of them is compared with the reference. */
public final class RandomTest {
    private static final Reference.Kind[] KINDS = Reference.Kind.values();

    private final Random random;
    private final String name;
    private LayoutPress press = new LayoutPress();
    private final Reference reference = new Reference();
    private final int[] weights = new int[KINDS.length];

    // Dense documents have many layouts in which the indentations, the columns and the costs differ;
    // those with many tabs have narrow lines, and small prices for choices of their widths.
    private final boolean dense;
    private final boolean tabs;

    private RandomTest(long seed) {
        dense = seed % 10 == 0;
        tabs = seed % 10 == 1;
        random = new Random(seed);
        name = "seed " + seed + " ";
    }

    public static void main(String[] arguments) {
        int count = arguments.length > 0 ? Integer.parseInt(arguments[0]) : 3000;
        int first = arguments.length > 1 ? Integer.parseInt(arguments[1]) : 0;
        for (int seed = first; seed < first + count; seed++) {
            new RandomTest(seed).run();
        }
        Check.end();
    }

    private void run() {
        for (int i = 0; i < weights.length; i++) {
            weights[i] = random.nextInt(4) == 0 ? 0 : 1 + random.nextInt(4);
        }
        weights[Reference.Kind.TEXT.ordinal()] += 3;
        weights[Reference.Kind.PAIR.ordinal()] += 6;
        weights[Reference.Kind.REMARK.ordinal()] = random.nextInt(3) == 0 ? 1 : 0;
        weights[Reference.Kind.HARD.ordinal()] = random.nextInt(3) == 0 ? 1 : 0;
        if (dense) {
            thicken(Reference.Kind.ALIGN, Reference.Kind.GROUP, Reference.Kind.LINE, Reference.Kind.CHOICE);
        }
        if (tabs) {
            thicken(Reference.Kind.TAB, Reference.Kind.PRICE, Reference.Kind.CHOICE, Reference.Kind.PAIR);
        }
        int calls = dense ? 30 + random.nextInt(31) : 8 + random.nextInt(45);
        for (int i = 0; i < calls; i++) {
            make();
        }
        Check.same(name + "nodes", press.nodes(), reference.nodes.size());
        for (int node = 0; node < press.nodes(); node++) {
            Check.same(name + "size " + node, press.size(node), reference.size(node));
            double count = Math.min(1000000, reference.count(node, false));
            Check.same(name + "layouts " + node, press.layouts(node), (long) count);
        }
        for (int i = 0; i < (dense ? 3 : 6); i++) {
            printAll(press.nodes() - 1 - (i < 3 ? i : random.nextInt(press.nodes())));
        }
    }

    private void thicken(Reference.Kind... kinds) {
        for (Reference.Kind kind : kinds) {
            weights[kind.ordinal()] += 3;
        }
    }

    private Reference.Kind randomKind() {
        int sum = 0;
        for (int weight : weights) {
            sum += weight;
        }
        int at = random.nextInt(sum);
        for (int i = 0; i < weights.length; i++) {
            at -= weights[i];
            if (at < 0) {
                return KINDS[i];
            }
        }
        return Reference.Kind.TEXT;
    }

    // The younger nodes more often than the older ones, so that documents become deep.
    private int randomNode() {
        int count = press.nodes();
        return random.nextInt(3) == 0 ? random.nextInt(count) : count - 1 - random.nextInt(Math.min(5, count));
    }

    private void make() {
        Reference.Kind kind = press.nodes() < 3 ? KINDS[random.nextInt(5)] : randomKind();
        int a = 0;
        int b = 0;
        int first = -1;
        int second = -1;
        switch (kind) {
            case TEXT, REMARK -> {
                a = random.nextInt(26);
                b = 1 + random.nextInt(random.nextBoolean() ? 20 : 5);
            }
            case LINE, SOFT, HARD -> {
            }
            case TAB -> a = random.nextInt(!tabs && random.nextBoolean() ? 81 : 20);
            default -> {
                first = randomNode();
                second = switch (kind) {
                    case PAIR, CHOICE, BROKEN -> randomNode();
                    default -> -1;
                };
                a = switch (kind) {
                    case NEST -> random.nextInt(41) - 20;
                    case PRICE, KEEP -> random.nextInt(random.nextBoolean() ? 1001 : 10);
                    case CELL -> random.nextInt(random.nextBoolean() ? 4 : 1);
                    default -> 0;
                };
                b = kind == Reference.Kind.CELL ? random.nextInt(random.nextBoolean() ? 5 : 1) : 0;
            }
        }
        makeBoth(new Reference.Node(kind, a, b, first, second));
    }

    private void makeBoth(Reference.Node node) {
        int number = reference.nodes.size();
        reference.nodes.add(node);
        boolean refused = number >= 60 || reference.size(number) > 30 || reference.mostWays(number, false) > 30
                || node.kind() == Reference.Kind.CELL && reference.refusedByCells(node.first());
        if (refused) {
            reference.nodes.remove(number);
            Check.failsState(name + node, () -> call(press, node));
        } else {
            Check.same(name + node, call(press, node), number);
        }
    }

    static int call(LayoutPress press, Reference.Node node) {
        return switch (node.kind()) {
            case TEXT -> press.text(node.a(), node.b());
            case REMARK -> press.remark(node.a(), node.b());
            case LINE -> press.line();
            case SOFT -> press.soft();
            case HARD -> press.hard();
            case TAB -> press.tab(node.a());
            case PAIR -> press.pair(node.first(), node.second());
            case NEST -> press.nest(node.a(), node.first());
            case ALIGN -> press.align(node.first());
            case GROUP -> press.group(node.first());
            case CHOICE -> press.choice(node.first(), node.second());
            case FLAT -> press.flat(node.first());
            case BROKEN -> press.broken(node.first(), node.second());
            case PRICE -> press.price(node.a(), node.first());
            case KEEP -> press.keep(node.a(), node.first());
            case CELL -> press.cell(node.a(), node.b(), node.first());
        };
    }

    private void printAll(int root) {
        int node = Math.max(0, root);
        int width = 1 + random.nextInt(!tabs && random.nextBoolean() ? 80 : 25);
        int ribbon = 1 + random.nextInt(random.nextBoolean() ? 80 : 15);
        int price = random.nextInt(random.nextBoolean() ? 101 : 4);
        String what = name + "node " + node + " by " + width + " " + ribbon + " " + price + " ";
        double count = reference.count(node, false);
        if (count <= (dense ? 20000 : 2000)) {
            Reference.Printout best = reference.best(node, width, ribbon, price);
            compare(what + "print", best, width, ribbon, price, () -> press.print(node, width, ribbon, price));
            compare(what + "printByAll", count > 100 ? null : best, width, ribbon, price,
                    () -> press.printByAll(node, width, ribbon, price));
        } else if (count > 100) {
            Check.failsState(what + "printByAll", () -> press.printByAll(node, width, ribbon, price));
        }
        compare(what + "printGreedy", reference.greedy(node, width, ribbon), width, ribbon, price,
                () -> press.printGreedy(node, width, ribbon, price));
    }

    private void compare(String what, Reference.Printout due, int width, int ribbon, int price, Check.Call call) {
        if (due == null) {
            String before = Answers.of(press);
            Check.failsState(what, call);
            Check.sameText(what + " changes", Answers.of(press), before);
            return;
        }
        Check.same(what, call.run(), due.cost(width, ribbon, price));
        Check.sameText(what + " prints", Answers.of(press), Answers.of(due, press.nodes()));
        if (due.signs.size() <= 10) {
            comparePages(what, due);
        }
    }

    private void comparePages(String what, Reference.Printout due) {
        Check.failsState(what + " pageOf", () -> press.pageOf(0));
        for (int height = 1; height <= 20; height += 1 + random.nextInt(4)) {
            int[] pages = Reference.pages(due, height);
            Check.same(what + " breakPages " + height, press.breakPages(height), pages[0]);
            int line = 0;
            for (int page = 1; page < pages.length; page++) {
                for (int i = 0; i < pages[page]; i++) {
                    Check.same(what + " pageOf " + line, press.pageOf(line), page - 1);
                    line++;
                }
            }
        }
    }
}
