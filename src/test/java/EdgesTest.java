/**
 * What the document says of the edges of each call, call by call: both ends of each range and what
 * is outside, nodes that there are not, sixty nodes and one more, nodes that are as large as they
 * can be and one above, what comes first if several exceptions apply; and that a call that throws
 * changes nothing.
 */
public final class EdgesTest {
    private static final Class<IndexOutOfBoundsException> INDEX = IndexOutOfBoundsException.class;
    private static final Class<IllegalArgumentException> ARGUMENT = IllegalArgumentException.class;
    private static final Class<IllegalStateException> STATE = IllegalStateException.class;

    private EdgesTest() {
    }

    /** A call with one argument that is looked at; all others are in their ranges. */
    private interface Call {
        long run(LayoutPress press, int argument);
    }

    /** A call that makes a node, of one that there is, or of a number that is no node. */
    private interface Maker {
        int make(LayoutPress press, int part);
    }

    public static void main(String[] arguments) {
        ranges();
        makerNodes();
        otherNodes();
        sixtyNodes();
        thirtyLeaves();
        thirtyWays();
        thirtyWaysInOnePair();
        thirtyWaysWithin();
        orderOfMakers();
        orderOfCells();
        orderOfPrintings();
        orderOfPages();
        aboutAMillionLayouts();
        aboutAHundredLayouts();
        nothingPrinted();
        printedLines();
        printedWays();
        everyLetter();
        everyCount();
        everyTab();
        everyIndentation();
        everyCell();
        Check.end();
    }

    /** An object whose node 0 is a TEXT, with a document printed and broken into pages. */
    private static LayoutPress ready() {
        LayoutPress press = new LayoutPress();
        int text = press.text(0, 3);
        int row = press.pair(text, press.pair(press.group(press.line()), text));
        press.print(row, 3, 80, 1);
        press.breakPages(1);
        return press;
    }

    private static LayoutPress full() {
        LayoutPress press = ready();
        while (press.nodes() < 60) {
            press.soft();
        }
        return press;
    }

    private static void range(String name, int least, int most, Call call) {
        for (int argument : new int[] {least, most}) {
            LayoutPress press = ready();
            int before = press.nodes();
            long answer = call.run(press, argument);
            boolean makes = press.nodes() > before;
            Check.that(name + " by " + argument + " answers " + answer, makes ? answer == before : answer >= 0);
        }
        for (int argument : new int[] {least - 1, most + 1, Integer.MIN_VALUE, Integer.MAX_VALUE}) {
            LayoutPress press = ready();
            Check.refuses(name + " by " + argument, press, ARGUMENT, () -> call.run(press, argument));
        }
    }

    // "Throws IllegalArgumentException if .. is out of range"
    private static void ranges() {
        range("text's letter", 0, 25, (press, value) -> press.text(value, 1));
        range("text's count", 1, 20, (press, value) -> press.text(0, value));
        range("remark's letter", 0, 25, (press, value) -> press.remark(value, 1));
        range("remark's count", 1, 20, (press, value) -> press.remark(0, value));
        range("tab's column", 0, 80, (press, value) -> press.tab(value));
        range("nest's by", -20, 20, (press, value) -> press.nest(value, 0));
        range("price's cost", 0, 1000, (press, value) -> press.price(value, 0));
        range("keep's cost", 0, 1000, (press, value) -> press.keep(value, 0));
        range("cell's table", 0, 3, (press, value) -> press.cell(value, 0, 0));
        range("cell's column", 0, 4, (press, value) -> press.cell(0, value, 0));
        range("print's width", 1, 80, (press, value) -> press.print(0, value, 1, 0));
        range("print's ribbon", 1, 80, (press, value) -> press.print(0, 1, value, 0));
        range("print's price", 0, 100, (press, value) -> press.print(0, 1, 1, value));
        range("printByAll's width", 1, 80, (press, value) -> press.printByAll(0, value, 1, 0));
        range("printByAll's ribbon", 1, 80, (press, value) -> press.printByAll(0, 1, value, 0));
        range("printByAll's price", 0, 100, (press, value) -> press.printByAll(0, 1, 1, value));
        range("printGreedy's width", 1, 80, (press, value) -> press.printGreedy(0, value, 1, 0));
        range("printGreedy's ribbon", 1, 80, (press, value) -> press.printGreedy(0, 1, value, 0));
        range("printGreedy's price", 0, 100, (press, value) -> press.printGreedy(0, 1, 1, value));
        range("breakPages' height", 1, 20, LayoutPress::breakPages);
    }

    private static void nodes(String name, Call call) {
        LayoutPress fresh = new LayoutPress();
        for (int node : new int[] {-1, 0, 1, 59, 60, Integer.MIN_VALUE, Integer.MAX_VALUE}) {
            Check.refuses(name + " of " + node + " without nodes", fresh, INDEX, () -> call.run(fresh, node));
        }
        LayoutPress one = new LayoutPress();
        one.text(0, 1);
        for (int node : new int[] {-1, 1, 2, 60, Integer.MIN_VALUE, Integer.MAX_VALUE}) {
            Check.refuses(name + " of " + node + " with one node", one, INDEX, () -> call.run(one, node));
        }
        Check.that(name + " of the only node", call.run(one, 0) >= LayoutPress.NONE);
        LayoutPress press = ready();
        int count = press.nodes();
        for (int node : new int[] {-1, count, count + 1, Integer.MIN_VALUE, Integer.MAX_VALUE}) {
            Check.refuses(name + " of " + node, press, INDEX, () -> call.run(press, node));
        }
        call.run(press, count - 1);
        LayoutPress full = full();
        for (int node : new int[] {-1, 60, 61}) {
            Check.refuses(name + " of " + node + " with 60 nodes", full, INDEX, () -> call.run(full, node));
        }
    }

    // "Throws IndexOutOfBoundsException if there is no such node"
    private static void makerNodes() {
        nodes("pair's first", (press, node) -> press.pair(node, 0));
        nodes("pair's second", (press, node) -> press.pair(0, node));
        nodes("nest", (press, node) -> press.nest(1, node));
        nodes("align", LayoutPress::align);
        nodes("group", LayoutPress::group);
        nodes("choice's first", (press, node) -> press.choice(node, 0));
        nodes("choice's second", (press, node) -> press.choice(0, node));
        nodes("flat", LayoutPress::flat);
        nodes("broken's first", (press, node) -> press.broken(node, 0));
        nodes("broken's second", (press, node) -> press.broken(0, node));
        nodes("price", (press, node) -> press.price(1, node));
        nodes("keep", (press, node) -> press.keep(1, node));
        nodes("cell", (press, node) -> press.cell(0, 0, node));
    }

    private static void otherNodes() {
        nodes("size", LayoutPress::size);
        nodes("layouts", LayoutPress::layouts);
        nodes("print", (press, node) -> press.print(node, 9, 9, 9));
        nodes("printByAll", (press, node) -> press.printByAll(node, 9, 9, 9));
        nodes("printGreedy", (press, node) -> press.printGreedy(node, 9, 9, 9));
        nodes("placeOf", LayoutPress::placeOf);
        LayoutPress full = full();
        Check.same("size of the last of 60", full.size(59), 1);
        Check.same("layouts of the last of 60", full.layouts(59), 1);
        Check.same("place of the last of 60", full.placeOf(59), LayoutPress.NONE);
        Check.same("print of the last of 60", full.print(59, 9, 9, 9), 9);
        Check.same("place of the last of 60, printed", full.placeOf(59), 0);
    }

    private static final Maker[] MAKERS = {
        (press, part) -> press.text(1, 2), (press, part) -> press.remark(1, 2), (press, part) -> press.line(),
        (press, part) -> press.soft(), (press, part) -> press.hard(), (press, part) -> press.tab(3),
        (press, part) -> press.pair(part, part), (press, part) -> press.nest(1, part),
        (press, part) -> press.align(part), (press, part) -> press.group(part),
        (press, part) -> press.choice(part, part), (press, part) -> press.flat(part),
        (press, part) -> press.broken(part, part), (press, part) -> press.price(1, part),
        (press, part) -> press.keep(1, part), (press, part) -> press.cell(1, 2, part)};
    private static final int FIRST_WITH_PARTS = 6;

    // "Nodes are numbered from 0 as they are made, at most 60"
    private static void sixtyNodes() {
        for (int kind = 0; kind < MAKERS.length; kind++) {
            Maker maker = MAKERS[kind];
            LayoutPress press = ready();
            while (press.nodes() < 59) {
                press.soft();
            }
            Check.same("kind " + kind + " as the 60th", maker.make(press, 0), 59);
            Check.same("60 with kind " + kind, press.nodes(), 60);
            Check.refuses("kind " + kind + " as the 61st", press, STATE, () -> maker.make(press, 0));
            Check.refuses("kind " + kind + " as the 61st, of the 60th", press, STATE, () -> maker.make(press, 59));
        }
    }

    private static int leaves(LayoutPress press, int count) {
        int row = 0;
        for (int i = 1; i < count; i++) {
            row = press.pair(row, 0);
        }
        return row;
    }

    // "A node is too large, if its size is above 30"
    private static void thirtyLeaves() {
        for (int kind = FIRST_WITH_PARTS; kind < MAKERS.length; kind++) {
            Maker maker = MAKERS[kind];
            LayoutPress press = ready();
            int two = maker.make(press, 0);
            boolean hasTwoParts = press.size(two) == 2;
            int fifteen = leaves(press, 15);
            int sixteen = press.pair(fifteen, 0);
            if (hasTwoParts) {
                int thirty = maker.make(press, fifteen);
                Check.same("kind " + kind + " with 30 leaves", press.size(thirty), 30);
                Check.refuses("kind " + kind + " with 32 leaves", press, STATE, () -> maker.make(press, sixteen));
                Check.refuses("kind " + kind + " with 60 leaves", press, STATE, () -> maker.make(press, thirty));
            } else {
                int thirty = press.pair(fifteen, fifteen);
                int node = maker.make(press, thirty);
                Check.same("kind " + kind + " of 30 leaves", press.size(node), 30);
            }
        }
        LayoutPress press = ready();
        int fifteen = leaves(press, 15);
        int sixteen = press.pair(fifteen, 0);
        Check.refuses("a pair of 31", press, STATE, () -> press.pair(fifteen, sixteen));
        Check.refuses("a pair of 31, the larger first", press, STATE, () -> press.pair(sixteen, fifteen));
        Check.refuses("a choice of 31", press, STATE, () -> press.choice(fifteen, sixteen));
        Check.refuses("a broken of 31", press, STATE, () -> press.broken(sixteen, fifteen));
        Check.same("a pair of 30", press.size(press.pair(fifteen, fifteen)), 30);
        Check.same("a choice of 30", press.size(press.choice(fifteen, fifteen)), 30);
        Check.same("a broken of 30", press.size(press.broken(fifteen, fifteen)), 30);
    }

    private static int groups(LayoutPress press, int part, int count) {
        int node = part;
        for (int i = 0; i < count; i++) {
            node = press.group(node);
        }
        return node;
    }

    // "or if one of its layouts could tell more than 30 ways"
    private static void thirtyWays() {
        for (int kind = FIRST_WITH_PARTS; kind < MAKERS.length; kind++) {
            Maker maker = MAKERS[kind];
            LayoutPress press = new LayoutPress();
            int text = press.text(0, 1);
            int most = groups(press, text, 30);
            boolean tellsOne = press.layouts(maker.make(press, text)) == 2;
            boolean isPair = press.layouts(maker.make(press, press.group(text))) == 4;
            if (tellsOne || isPair) {
                Check.refuses("kind " + kind + " of 30 ways", press, STATE, () -> maker.make(press, most));
            } else {
                Check.same("kind " + kind + " of 30 ways", maker.make(press, most), press.nodes() - 1);
            }
        }
        LayoutPress press = new LayoutPress();
        int text = press.text(0, 1);
        int less = groups(press, text, 29);
        Check.same("a choice of 30 ways", press.layouts(press.choice(less, text)), 31);
        Check.same("a choice of 30 ways behind", press.layouts(press.choice(text, less)), 31);
        int most = press.group(less);
        Check.refuses("a choice of 31 ways", press, STATE, () -> press.choice(most, text));
        Check.refuses("a choice of 31 ways behind", press, STATE, () -> press.choice(text, most));
        Check.refuses("a group of 31 ways", press, STATE, () -> press.group(most));
    }

    private static void thirtyWaysInOnePair() {
        LayoutPress press = new LayoutPress();
        int line = press.line();
        int fifteen = groups(press, line, 15);
        int sixteen = press.group(fifteen);
        Check.refuses("a pair of 31 ways", press, STATE, () -> press.pair(fifteen, sixteen));
        Check.refuses("a pair of 31 ways, the more ahead", press, STATE, () -> press.pair(sixteen, fifteen));
        int most = press.pair(fifteen, fifteen);
        Check.same("layouts of 30 ways", press.layouts(most), 256);
        Check.refuses("a group around 30 ways", press, STATE, () -> press.group(most));
        // each of the 15 groups but the innermost takes the second way, twice
        int hard = press.hard();
        int deep = groups(press, hard, 15);
        int both = press.pair(deep, deep);
        Check.same("print of 30 ways", press.print(both, 80, 80, 1), 2);
        Check.same("30 ways", press.decisions(), 30);
        for (int way = 0; way < 30; way++) {
            Check.same("way " + way, press.wayAt(way), 1);
        }
        Check.refuses("way 30", press, INDEX, () -> press.wayAt(30));
        Check.refuses("way -1", press, INDEX, () -> press.wayAt(-1));
        // the impossible layouts could tell ways, too: two choices, flat within a group around a hard
        LayoutPress other = new LayoutPress();
        int leaf = other.text(0, 1);
        int two = other.pair(other.choice(leaf, leaf), other.choice(leaf, leaf));
        int flatImpossible = other.broken(leaf, other.pair(other.hard(), two));
        int outer = groups(other, flatImpossible, 28);
        Check.same("28 groups around two choices", other.layouts(outer), 28 * 4 + 1);
        Check.refuses("29 groups around two choices", other, STATE, () -> other.group(outer));
    }

    private static int groupsAround(LayoutPress press, int part) {
        int node = part;
        for (int groups = 0; groups < 60; groups++) {
            try {
                node = press.group(node);
            } catch (IllegalStateException e) {
                return groups;
            }
        }
        return 60;
    }

    // What a part could tell, as it is or flat, the nodes around it could tell
    private static void thirtyWaysWithin() {
        // a part with 10 ways, or none if it is flat; and one with 4 ways if it is flat alone
        int[] dueAsItIs = {10, 20, 20, 19, 19, 30, 20, 20, 20, 30};
        int[] dueFlat = {22, 26, 26, 25, 25, 26, 26, 26, 26};
        for (int kind = FIRST_WITH_PARTS; kind < MAKERS.length; kind++) {
            int at = kind - FIRST_WITH_PARTS;
            LayoutPress press = new LayoutPress();
            int ten = groups(press, press.text(0, 1), 10);
            int around = MAKERS[kind].make(press, ten);
            Check.same("groups around kind " + kind, groupsAround(press, around), dueAsItIs[at]);
            LayoutPress other = new LayoutPress();
            int text = other.text(0, 1);
            int two = other.choice(text, other.choice(text, text));
            int four = other.broken(text, other.pair(two, two));
            if (at < dueFlat.length) {
                int flatAround = MAKERS[kind].make(other, four);
                Check.same("groups around flat kind " + kind, groupsAround(other, flatAround), dueFlat[at]);
            } else {
                Check.refuses("a cell with a choice in it", other, STATE, () -> other.cell(0, 0, four));
            }
        }
    }

    // "If several exceptions of a throws clause apply, the one that is listed first is thrown."
    private static void orderOfMakers() {
        LayoutPress full = full();
        Check.refuses("text: argument, state", full, ARGUMENT, () -> full.text(26, 1));
        Check.refuses("text: count, state", full, ARGUMENT, () -> full.text(0, 0));
        Check.refuses("text: both arguments, state", full, ARGUMENT, () -> full.text(-1, 21));
        Check.refuses("text: state", full, STATE, () -> full.text(25, 20));
        Check.refuses("remark: argument, state", full, ARGUMENT, () -> full.remark(-1, 1));
        Check.refuses("remark: count, state", full, ARGUMENT, () -> full.remark(0, 21));
        Check.refuses("tab: argument, state", full, ARGUMENT, () -> full.tab(81));
        Check.refuses("tab: argument below, state", full, ARGUMENT, () -> full.tab(-1));
        for (int kind = FIRST_WITH_PARTS; kind < MAKERS.length; kind++) {
            Maker maker = MAKERS[kind];
            Check.refuses("kind " + kind + ": node, state", full, INDEX, () -> maker.make(full, 60));
            Check.refuses("kind " + kind + ": node below, state", full, INDEX, () -> maker.make(full, -1));
            Check.refuses("kind " + kind + ": state", full, STATE, () -> maker.make(full, 59));
        }
        Check.refuses("nest: node, argument, state", full, INDEX, () -> full.nest(21, 60));
        Check.refuses("nest: argument, state", full, ARGUMENT, () -> full.nest(-21, 0));
        Check.refuses("price: node, argument, state", full, INDEX, () -> full.price(1001, -1));
        Check.refuses("price: argument, state", full, ARGUMENT, () -> full.price(-1, 0));
        Check.refuses("keep: node, argument, state", full, INDEX, () -> full.keep(-1, 60));
        Check.refuses("keep: argument, state", full, ARGUMENT, () -> full.keep(1001, 0));
        LayoutPress press = ready();
        int most = leaves(press, 30);
        int none = press.nodes();
        Check.refuses("pair: node, too large", press, INDEX, () -> press.pair(most, none));
        Check.refuses("pair: node ahead, too large", press, INDEX, () -> press.pair(-1, most));
        Check.refuses("choice: node, too large", press, INDEX, () -> press.choice(most, none));
        Check.refuses("broken: node, too large", press, INDEX, () -> press.broken(none, most));
    }

    private static void orderOfCells() {
        LayoutPress press = ready();
        int hard = press.hard();
        Check.refuses("cell: node, table", press, INDEX, () -> press.cell(4, 0, press.nodes()));
        Check.refuses("cell: node, column", press, INDEX, () -> press.cell(0, -1, -1));
        Check.refuses("cell: table, what is in it", press, ARGUMENT, () -> press.cell(-1, 0, hard));
        Check.refuses("cell: column, what is in it", press, ARGUMENT, () -> press.cell(0, 5, hard));
        Check.refuses("cell: what is in it", press, STATE, () -> press.cell(3, 4, hard));
        LayoutPress full = full();
        Check.refuses("cell: node, table, state", full, INDEX, () -> full.cell(4, 0, 60));
        Check.refuses("cell: table, state", full, ARGUMENT, () -> full.cell(4, 0, 0));
        Check.refuses("cell: column, state", full, ARGUMENT, () -> full.cell(0, -1, 0));
        Check.refuses("cell: state", full, STATE, () -> full.cell(0, 0, 0));
    }

    private static void orderOfPrintings() {
        LayoutPress press = ready();
        int wrong = press.flat(press.hard());
        int none = press.nodes();
        int[][] arguments = {{0, 1, 0}, {81, 1, 0}, {1, 0, 0}, {1, 81, 0}, {1, 1, -1}, {1, 1, 101}, {0, 0, -1}};
        for (int[] by : arguments) {
            String name = " by " + by[0] + " " + by[1] + " " + by[2];
            Check.refuses("print: node" + name, press, INDEX, () -> press.print(none, by[0], by[1], by[2]));
            Check.refuses("printByAll: node" + name, press, INDEX, () -> press.printByAll(none, by[0], by[1], by[2]));
            Check.refuses("printGreedy: node" + name, press, INDEX, () -> press.printGreedy(-1, by[0], by[1], by[2]));
            Check.refuses("print: impossible" + name, press, ARGUMENT, () -> press.print(wrong, by[0], by[1], by[2]));
            Check.refuses("printByAll: impossible" + name, press, ARGUMENT,
                    () -> press.printByAll(wrong, by[0], by[1], by[2]));
            Check.refuses("printGreedy: impossible" + name, press, ARGUMENT,
                    () -> press.printGreedy(wrong, by[0], by[1], by[2]));
        }
        Check.refuses("print: impossible", press, STATE, () -> press.print(wrong, 1, 1, 0));
        Check.refuses("printByAll: impossible", press, STATE, () -> press.printByAll(wrong, 80, 80, 100));
        Check.refuses("printGreedy: impossible", press, STATE, () -> press.printGreedy(wrong, 80, 80, 100));
    }

    private static void orderOfPages() {
        LayoutPress fresh = new LayoutPress();
        for (int height : new int[] {0, -1, 21, Integer.MIN_VALUE, Integer.MAX_VALUE}) {
            Check.refuses("breakPages: height, state", fresh, ARGUMENT, () -> fresh.breakPages(height));
        }
        Check.refuses("breakPages 1: state", fresh, STATE, () -> fresh.breakPages(1));
        Check.refuses("breakPages 20: state", fresh, STATE, () -> fresh.breakPages(20));
        Check.refuses("pageOf: line, nothing printed", fresh, INDEX, () -> fresh.pageOf(0));
        LayoutPress press = ready();
        press.print(press.nodes() - 1, 3, 80, 1);
        for (int line : new int[] {-1, 2, Integer.MIN_VALUE, Integer.MAX_VALUE}) {
            Check.refuses("pageOf: line " + line + ", no pages", press, INDEX, () -> press.pageOf(line));
        }
        Check.refuses("pageOf 0: no pages", press, STATE, () -> press.pageOf(0));
        Check.refuses("pageOf 1: no pages", press, STATE, () -> press.pageOf(1));
        press.breakPages(2);
        Check.same("pageOf 1", press.pageOf(1), 0);
        Check.refuses("pageOf -1", press, INDEX, () -> press.pageOf(-1));
        Check.refuses("pageOf 2", press, INDEX, () -> press.pageOf(2));
        Check.refuses("breakPages that throws", press, ARGUMENT, () -> press.breakPages(0));
        Check.same("pageOf 1 behind it", press.pageOf(1), 0);
    }

    /** A node with so many layouts: a text beside what has one less. */
    private static int oneMore(LayoutPress press, int node) {
        return press.choice(node, 0);
    }

    // "how many, 1000000 if there are so many or more"; 999999 is 3 3 3 7 11 13 37
    private static void aboutAMillionLayouts() {
        LayoutPress press = new LayoutPress();
        press.text(0, 1);
        int two = press.group(press.line());
        int three = press.group(two);
        int four = press.pair(two, two);
        int nine = press.pair(three, three);
        int seven = oneMore(press, press.pair(three, two));
        int eleven = oneMore(press, press.pair(two, oneMore(press, four)));
        int thirteen = oneMore(press, press.pair(four, three));
        int many = oneMore(press, press.pair(four, nine));
        int all = press.pair(press.pair(press.pair(nine, three), seven), press.pair(press.pair(eleven, thirteen), many));
        Check.same("999999 layouts", press.layouts(all), 999999);
        int exact = oneMore(press, all);
        Check.same("1000000 layouts", press.layouts(exact), 1000000);
        int above = oneMore(press, exact);
        Check.same("1000001 layouts", press.layouts(above), 1000000);
        Check.same("1000002 layouts", press.layouts(press.choice(press.text(1, 1), above)), 1000000);
        Check.same("999999 layouts once more", press.layouts(press.align(all)), 999999);
        Check.same("their flat ones", press.layouts(press.flat(all)), 1 * 2 * 3 * 2 * 2);
        LayoutPress other = new LayoutPress();
        int pair = other.group(other.soft());
        int ten = other.pair(pair, groups(other, other.soft(), 4));
        int thousand = other.pair(ten, other.pair(ten, ten));
        Check.same("1000 layouts", other.layouts(thousand), 1000);
        Check.same("1000 times 1000 layouts", other.layouts(other.pair(thousand, thousand)), 1000000);
        Check.same("a broken has its first part's", other.layouts(other.broken(thousand, pair)), 1000);
    }

    // "or there are more than 100"
    private static void aboutAHundredLayouts() {
        for (int ways = 98; ways <= 102; ways++) {
            LayoutPress press = new LayoutPress();
            int text = press.text(0, 1);
            // the only possible one is the last: 7 times 14 layouts, or more
            int seven = groups(press, press.hard(), 6);
            int fourteen = groups(press, press.hard(), 13);
            int node = press.pair(seven, fourteen);
            int wrong = press.flat(press.hard());
            for (int i = 98; i < ways; i++) {
                node = press.choice(wrong, node);
            }
            int root = node;
            Check.same("layouts", press.layouts(root), ways);
            press.print(text, 80, 80, 0);
            if (ways <= 100) {
                Check.same("the last of " + ways, press.printByAll(root, 80, 80, 7), 14);
                Check.same("all second ways of " + ways, press.decisions(), 19 + ways - 98);
                Check.same("the last way of " + ways, press.wayAt(press.decisions() - 1), 1);
            } else {
                Check.refuses("printByAll of " + ways, press, STATE, () -> press.printByAll(root, 80, 80, 7));
            }
            Check.same("print of " + ways, press.print(root, 80, 80, 7), 14);
        }
        LayoutPress press = new LayoutPress();
        int gap = press.group(press.line());
        int most = gap;
        for (int i = 1; i < 30; i++) {
            most = press.pair(most, gap);
        }
        int many = most;
        Check.refuses("printByAll of a million", press, STATE, () -> press.printByAll(many, 80, 80, 0));
    }

    // "lines: 0 if nothing was printed"
    private static void nothingPrinted() {
        LayoutPress press = new LayoutPress();
        int text = press.text(0, 1);
        int wrong = press.flat(press.hard());
        for (int turn = 0; turn < 2; turn++) {
            Check.same("lines", press.lines(), 0);
            Check.same("decisions", press.decisions(), 0);
            Check.same("placeOf", press.placeOf(text), LayoutPress.NONE);
            Check.refuses("placeOf no node", press, INDEX, () -> press.placeOf(3));
            Check.refuses("length", press, INDEX, () -> press.length(0));
            Check.refuses("signAt", press, INDEX, () -> press.signAt(0, 0));
            Check.refuses("nodeAt", press, INDEX, () -> press.nodeAt(0, 0));
            Check.refuses("wayAt", press, INDEX, () -> press.wayAt(0));
            Check.refuses("pageOf", press, INDEX, () -> press.pageOf(0));
            Check.refuses("breakPages", press, STATE, () -> press.breakPages(1));
            // a printing that throws prints nothing
            Check.refuses("print", press, STATE, () -> press.print(wrong, 1, 1, 0));
            Check.refuses("printByAll", press, STATE, () -> press.printByAll(wrong, 1, 1, 0));
            Check.refuses("printGreedy", press, STATE, () -> press.printGreedy(wrong, 1, 1, 0));
        }
        press.print(text, 1, 1, 0);
        Check.same("lines of what was printed", press.lines(), 1);
    }

    // "Throws IndexOutOfBoundsException if there is no such line", "or column"
    private static void printedLines() {
        LayoutPress press = new LayoutPress();
        int text = press.text(3, 2);
        int hard = press.hard();
        press.print(press.pair(press.nest(4, press.pair(text, press.pair(hard, text))), hard), 80, 80, 0);
        int[] lengths = {2, 6, 0};
        Check.same("lines", press.lines(), lengths.length);
        for (int line = 0; line < lengths.length; line++) {
            int at = line;
            int length = lengths[line];
            Check.same("length of " + at, press.length(at), length);
            for (int column : new int[] {-1, length, length + 1, Integer.MIN_VALUE, Integer.MAX_VALUE}) {
                Check.refuses("signAt " + at + " " + column, press, INDEX, () -> press.signAt(at, column));
                Check.refuses("nodeAt " + at + " " + column, press, INDEX, () -> press.nodeAt(at, column));
            }
            for (int column = 0; column < length; column++) {
                boolean isSign = column >= length - 2;
                Check.same("signAt " + at + " " + column, press.signAt(at, column), isSign ? 'd' : ' ');
                Check.same("nodeAt " + at + " " + column, press.nodeAt(at, column), isSign ? text : LayoutPress.NONE);
            }
        }
        for (int line : new int[] {-1, 3, 4, Integer.MIN_VALUE, Integer.MAX_VALUE}) {
            Check.refuses("length of " + line, press, INDEX, () -> press.length(line));
            Check.refuses("signAt " + line, press, INDEX, () -> press.signAt(line, 0));
            Check.refuses("nodeAt " + line, press, INDEX, () -> press.nodeAt(line, 0));
            Check.refuses("pageOf " + line, press, INDEX, () -> press.pageOf(line));
        }
    }

    // "Throws IndexOutOfBoundsException if there are not so many"
    private static void printedWays() {
        LayoutPress press = ready();
        Check.same("decisions", press.decisions(), 1);
        Check.same("wayAt 0", press.wayAt(0), 1);
        for (int way : new int[] {-1, 1, 2, 30, Integer.MIN_VALUE, Integer.MAX_VALUE}) {
            Check.refuses("wayAt " + way, press, INDEX, () -> press.wayAt(way));
        }
        press.print(press.nodes() - 1, 80, 80, 1);
        Check.same("wayAt 0 of the first way", press.wayAt(0), 0);
        press.print(0, 80, 80, 1);
        Check.refuses("wayAt 0 without ways", press, INDEX, () -> press.wayAt(0));
    }

    // "0 to 25, for a to z", "for A to Z"
    private static void everyLetter() {
        LayoutPress press = new LayoutPress();
        for (int letter = 0; letter < 26; letter++) {
            int text = press.text(letter, 1);
            press.print(text, 1, 1, 0);
            Check.same("text " + letter, press.signAt(0, 0), "abcdefghijklmnopqrstuvwxyz".charAt(letter));
            Check.same("owner of text " + letter, press.nodeAt(0, 0), text);
            int remark = press.remark(letter, 1);
            press.print(remark, 1, 1, 0);
            Check.same("remark " + letter, press.signAt(0, 0), "ABCDEFGHIJKLMNOPQRSTUVWXYZ".charAt(letter));
            Check.same("owner of remark " + letter, press.nodeAt(0, 0), remark);
        }
    }

    // "1 to 20: how many times"; "A line costs the square of how many columns it goes beyond the width"
    private static void everyCount() {
        LayoutPress press = new LayoutPress();
        for (int count = 1; count <= 20; count++) {
            int text = press.text(0, count);
            for (int width = 1; width <= 25; width++) {
                int beyond = Math.max(0, count - width);
                Check.same("width " + width, press.print(text, width, 80, 0), beyond * beyond);
                Check.same("ribbon " + width, press.print(text, 80, width, 0), beyond * beyond);
                Check.same("both " + width, press.printGreedy(text, width, width, 100), 2 * beyond * beyond);
            }
            Check.same("length of " + count, press.length(0), count);
            Check.refuses("column " + count, press, INDEX, () -> press.signAt(0, press.length(0)));
        }
    }

    // "blanks up to a column; one blank, if this is not behind the present one"
    private static void everyTab() {
        for (int column = 0; column <= 80; column++) {
            LayoutPress press = new LayoutPress();
            int text = press.text(0, 20);
            int mark = press.text(1, 1);
            int tab = press.tab(column);
            press.print(press.pair(text, press.pair(tab, mark)), 80, 80, 0);
            Check.same("tab " + column + " behind 20", press.placeOf(mark), Math.max(21, column));
            press.print(press.pair(tab, mark), 80, 80, 0);
            Check.same("tab " + column + " at the margin", press.placeOf(mark), Math.max(1, column));
            press.print(press.pair(tab, press.pair(tab, mark)), 80, 80, 0);
            Check.same("tab " + column + " twice", press.placeOf(mark), Math.max(1, column) + 1);
            press.print(press.nest(7, press.pair(press.hard(), press.pair(tab, mark))), 80, 80, 0);
            Check.same("tab " + column + " behind 7 blanks", press.placeOf(mark), 1000 + Math.max(8, column));
        }
    }

    // "Behind a line end the column is the indentation (0 if that is below 0) at first."
    private static void everyIndentation() {
        for (int by = -20; by <= 20; by++) {
            LayoutPress press = new LayoutPress();
            int text = press.text(0, 3);
            int mark = press.text(1, 1);
            int[] ends = {press.line(), press.soft(), press.hard()};
            for (int end : ends) {
                int next = press.pair(end, mark);
                press.print(press.nest(by, next), 80, 80, 0);
                Check.same("nest " + by, press.placeOf(mark), 1000 + Math.max(0, by));
                press.print(press.pair(text, press.align(press.nest(by, next))), 80, 80, 0);
                Check.same("nest " + by + " behind 3", press.placeOf(mark), 1000 + Math.max(0, 3 + by));
                press.print(press.nest(2, press.nest(by, next)), 80, 80, 0);
                Check.same("nest " + by + " in 2", press.placeOf(mark), 1000 + Math.max(0, 2 + by));
                press.print(press.nest(by, press.align(next)), 80, 80, 0);
                Check.same("align in nest " + by, press.placeOf(mark), 1000);
            }
        }
    }

    // "as wide as the widest cell of the same table and column": all tables and columns are apart
    private static void everyCell() {
        for (int table = 0; table < 4; table++) {
            for (int column = 0; column < 5; column++) {
                LayoutPress press = new LayoutPress();
                int slim = press.text(0, 1);
                int wide = press.text(1, 5);
                int mark = press.text(2, 1);
                int end = press.hard();
                int cell = press.cell(table, column, slim);
                int shown = press.pair(cell, mark);
                for (int other = 0; other < 20; other++) {
                    int one = press.cell(other / 5, other % 5, wide);
                    boolean isSame = other == 5 * table + column;
                    press.print(press.pair(shown, press.pair(end, one)), 80, 80, 0);
                    Check.same("cell " + table + " " + column + " and " + other, press.placeOf(mark), isSame ? 5 : 1);
                    if (press.nodes() > 56) {
                        press = new LayoutPress();
                        slim = press.text(0, 1);
                        wide = press.text(1, 5);
                        mark = press.text(2, 1);
                        end = press.hard();
                        shown = press.pair(press.cell(table, column, slim), mark);
                    }
                }
                press.print(press.pair(shown, end), 80, 80, 0);
                Check.same("cells that are not in the document do not count", press.placeOf(mark), 1);
            }
        }
    }
}
