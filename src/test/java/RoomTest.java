import com.sun.management.ThreadMXBean;
import java.lang.management.ManagementFactory;

/** All calls of one run live in one room: dear documents, printed as often as calls are allowed. */
public final class RoomTest {
    private static final long MOST_ELEMENTS = 7300000;
    private static final int MOST_CALLS = 512;

    private RoomTest() {
    }

    public static void main(String[] arguments) {
        // the virtual machine makes objects of its own when a class is first used
        small(new LayoutPress());
        measure("small", 40000, RoomTest::small);
        measure("many groups", 200000, RoomTest::manyGroups);
        measure("choices of widths", 1000000, RoomTest::choicesOfWidths);
        measure("aligned choices", 1000000, RoomTest::alignedChoices);
        measure("nested groups", 1000000, RoomTest::nestedGroups);
        measure("groups of choices in aligns", 2000000, RoomTest::groupsOfChoicesInAligns);
        Check.end();
    }

    /** A run of calls that makes nodes, the last of which is the document. */
    private interface Run {
        void make(LayoutPress press);
    }

    private static void measure(String name, long elements, Run run) {
        ThreadMXBean bean = (ThreadMXBean) ManagementFactory.getThreadMXBean();
        long id = Thread.currentThread().getId();
        long before = bean.getThreadAllocatedBytes(id);
        LayoutPress press = new LayoutPress();
        run.make(press);
        int root = press.nodes() - 1;
        for (int call = press.nodes(); call < MOST_CALLS; call++) {
            int width = 1 + call % 80;
            if (call % 3 == 0) {
                press.printGreedy(root, width, 81 - width, call % 101);
            } else {
                press.print(root, width, 1 + call * 7 % 80, call % 5);
            }
        }
        long bytes = bean.getThreadAllocatedBytes(id) - before;
        // four bytes an element at the least
        System.out.println(name + ": at most " + bytes / 4 + " elements");
        Check.that(name + ": " + bytes / 4 + " elements", bytes / 4 <= Math.min(elements, MOST_ELEMENTS));
    }

    private static void small(LayoutPress press) {
        int text = press.text(0, 9);
        press.group(press.pair(text, press.pair(press.line(), text)));
    }

    private static void manyGroups(LayoutPress press) {
        int gap = press.group(press.line());
        int row = press.text(0, 3);
        for (int i = 0; i < 14; i++) {
            row = press.pair(row, press.pair(gap, press.text(i, 1 + i)));
        }
        press.align(row);
    }

    private static void choicesOfWidths(LayoutPress press) {
        int row = press.choice(press.text(0, 1), press.text(1, 20));
        for (int i = 0; i < 13; i++) {
            row = press.pair(row, press.choice(press.text(i, 1 + i), press.pair(0, 0)));
            if (press.size(row) > 24) {
                break;
            }
        }
        press.group(press.pair(row, press.pair(press.line(), 0)));
    }

    private static void alignedChoices(LayoutPress press) {
        int line = press.line();
        int inner = press.text(25, 5);
        int wide = press.nest(17, line);
        for (int i = 0; i < 6; i++) {
            int way = press.choice(press.text(i, 3 * i + 1), press.nest(i, wide));
            int level = press.pair(way, press.pair(inner, press.group(line)));
            inner = press.align(level);
        }
    }

    private static void nestedGroups(LayoutPress press) {
        int line = press.line();
        int way = press.group(press.nest(20, press.choice(press.text(0, 11), press.align(line))));
        int row = press.align(press.pair(way, press.group(press.nest(9, way))));
        for (int i = 0; i < 3; i++) {
            row = press.group(press.align(press.pair(row, press.nest(i, press.choice(line, row)))));
            if (press.size(row) > 14) {
                break;
            }
        }
    }

    // Found by looking for documents with many states: 882816 layouts
    private static void groupsOfChoicesInAligns(LayoutPress press) {
        int ends = press.nest(4, press.choice(press.line(), press.text(0, 19)));
        int aligned = press.align(press.choice(press.nest(1, press.text(1, 16)), ends));
        int start = press.choice(press.soft(), press.text(2, 1));
        int core = press.choice(start, press.group(press.pair(ends, aligned)));
        int group = press.group(core);
        int groups = press.group(press.group(group));
        int last = press.align(press.pair(press.nest(3, group), groups));
        int middle = press.align(press.pair(press.choice(start, press.group(groups)), last));
        press.nest(6, press.pair(press.nest(3, group), middle));
    }
}
