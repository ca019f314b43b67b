import com.sun.management.ThreadMXBean;
import java.lang.management.ManagementFactory;
import java.util.Random;

/** All calls of one run live in one room: dear documents, printed as often as calls are allowed. */
public final class RoomTest {
    // The room has 7300000; what a run makes is kept small.
    private static final long MOST_ELEMENTS = 150000;
    private static final int MOST_CALLS = 512;

    private RoomTest() {
    }

    public static void main(String[] arguments) {
        // the virtual machine makes objects of its own when a class is first used
        run(RoomTest::small, 60);
        measure("small", 4000, RoomTest::small, MOST_CALLS);
        measure("many groups", 4000, RoomTest::manyGroups, MOST_CALLS);
        measure("choices of widths", 4000, RoomTest::choicesOfWidths, MOST_CALLS);
        measure("aligned choices", MOST_ELEMENTS, RoomTest::alignedChoices, MOST_CALLS);
        measure("nested groups", MOST_ELEMENTS, RoomTest::nestedGroups, MOST_CALLS);
        measure("groups of choices in aligns", MOST_ELEMENTS, RoomTest::groupsOfChoicesInAligns, MOST_CALLS);
        measure("refused nodes", MOST_ELEMENTS, RoomTest::refusedNodes, MOST_CALLS);
        tenAligns();
        documentsOfItsKind();
        blocks();
        Check.end();
    }

    /** A run of calls that makes nodes, and answers which one is the document. */
    private interface Run {
        int make(LayoutPress press);
    }

    private static long measure(String name, long elements, Run run, int calls) {
        ThreadMXBean bean = (ThreadMXBean) ManagementFactory.getThreadMXBean();
        long id = Thread.currentThread().getId();
        long before = bean.getThreadAllocatedBytes(id);
        run(run, calls);
        // four bytes an element at the least
        long made = (bean.getThreadAllocatedBytes(id) - before) / 4;
        if (calls == MOST_CALLS) {
            System.out.println(name + ": at most " + made + " elements");
        }
        Check.that(name + ": " + made + " elements", made <= elements);
        return made;
    }

    private static void run(Run run, int calls) {
        LayoutPress press = new LayoutPress();
        int root = run.make(press);
        for (int call = press.nodes(); call < calls; call++) {
            int width = 1 + call % 80;
            int kind = call % 4;
            try {
                if (kind == 0) {
                    press.printGreedy(root, width, 81 - width, call % 101);
                } else {
                    press.print(root, width, 1 + call * 7 % 80, kind == 1 ? 0 : call % 101);
                }
            } catch (IllegalStateException e) {
                // its layouts are impossible
            }
        }
    }

    private static int small(LayoutPress press) {
        int text = press.text(0, 9);
        return press.group(press.pair(text, press.pair(press.line(), text)));
    }

    private static int manyGroups(LayoutPress press) {
        int gap = press.group(press.line());
        int row = press.text(0, 3);
        for (int i = 0; i < 14; i++) {
            row = press.pair(row, press.pair(gap, press.text(i, 1 + i)));
        }
        return press.align(row);
    }

    private static int choicesOfWidths(LayoutPress press) {
        int row = press.choice(press.text(0, 1), press.text(1, 20));
        for (int i = 0; i < 13; i++) {
            row = press.pair(row, press.choice(press.text(i, 1 + i), press.pair(0, 0)));
            if (press.size(row) > 24) {
                break;
            }
        }
        return press.group(press.pair(row, press.pair(press.line(), 0)));
    }

    private static int alignedChoices(LayoutPress press) {
        int line = press.line();
        int inner = press.text(25, 5);
        int wide = press.nest(17, line);
        for (int i = 0; i < 6; i++) {
            int way = press.choice(press.text(i, 3 * i + 1), press.nest(i, wide));
            int level = press.pair(way, press.pair(inner, press.group(line)));
            inner = press.align(level);
        }
        return inner;
    }

    private static int nestedGroups(LayoutPress press) {
        int line = press.line();
        int way = press.group(press.nest(20, press.choice(press.text(0, 11), press.align(line))));
        int row = press.align(press.pair(way, press.group(press.nest(9, way))));
        for (int i = 0; i < 3; i++) {
            row = press.group(press.align(press.pair(row, press.nest(i, press.choice(line, row)))));
            if (press.size(row) > 14) {
                break;
            }
        }
        return row;
    }

    // Found by looking for documents with many states: 882816 layouts
    private static int groupsOfChoicesInAligns(LayoutPress press) {
        int ends = press.nest(4, press.choice(press.line(), press.text(0, 19)));
        int aligned = press.align(press.choice(press.nest(1, press.text(1, 16)), ends));
        int start = press.choice(press.soft(), press.text(2, 1));
        int core = press.choice(start, press.group(press.pair(ends, aligned)));
        int group = press.group(core);
        int groups = press.group(press.group(group));
        int last = press.align(press.pair(press.nest(3, group), groups));
        int middle = press.align(press.pair(press.choice(start, press.group(groups)), last));
        return press.nest(6, press.pair(press.nest(3, group), middle));
    }

    private static int refusedNodes(LayoutPress press) {
        int text = press.text(0, 1);
        int row = text;
        while (press.nodes() < 30) {
            row = press.pair(row, text);
        }
        for (int i = 0; i < 300; i++) {
            try {
                press.pair(row, row);
            } catch (IllegalStateException e) {
                // it would be too large
            }
        }
        return row;
    }

    // Issue 5: the run that it tells, with the answers that were right
    private static void tenAligns() {
        LayoutPress press = new LayoutPress();
        int root = DearDocuments.tenAligns(press);
        Check.same("node of ten aligns", root, 43);
        Check.same("size of ten aligns", press.size(root), 30);
        Check.same("print of ten aligns", press.print(root, 80, 80, 0), 0);
        Check.same("lines of ten aligns", press.lines(), 10);
        Check.same("decisions of ten aligns", press.decisions(), 21);
        measure("ten aligns", 4000, DearDocuments::tenAligns, MOST_CALLS);
    }

    private static void documentsOfItsKind() {
        long most = 0;
        for (int seed = 0; seed < 300; seed++) {
            Random random = new Random(seed);
            int calls = seed % 30 == 0 ? MOST_CALLS : 100;
            most = Math.max(most, measure("levels by seed " + seed, MOST_ELEMENTS,
                    press -> DearDocuments.levels(press, random), calls));
        }
        System.out.println("levels: at most " + most + " elements");
    }

    // More states than there is room for: they are gone through in portions
    private static void blocks() {
        long most = 0;
        for (int digits = 4; digits <= 8; digits++) {
            for (int ahead = 0; ahead <= 6; ahead += 3) {
                int count = digits;
                int ends = ahead;
                most = Math.max(most, measure("blocks of " + digits + " behind " + ahead, MOST_ELEMENTS,
                        press -> DearDocuments.blocks(press, count, ends, true), 70));
            }
        }
        System.out.println("blocks: at most " + most + " elements");
        Check.that("blocks fill the room: " + most, most > 50000);
    }
}
