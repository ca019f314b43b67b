/** Promises 21 to 30: the printings, and what can be asked of what was printed last. */
public final class PrintingTest {
    private PrintingTest() {
    }

    /** One of the three calls that print. */
    private interface Printing {
        int run(LayoutPress press, int node, int width, int ribbon, int price);
    }

    public static void main(String[] arguments) {
        wrongArguments("print", LayoutPress::print);
        wrongArguments("printByAll", LayoutPress::printByAll);
        wrongArguments("printGreedy", LayoutPress::printGreedy);
        lineCosts("print", LayoutPress::print);
        lineCosts("printByAll", LayoutPress::printByAll);
        lineCosts("printGreedy", LayoutPress::printGreedy);
        impossible("print", LayoutPress::print);
        impossible("printByAll", LayoutPress::printByAll);
        impossible("printGreedy", LayoutPress::printGreedy);
        bestByCost();
        bestByLineEnds();
        bestByWays();
        blanksCountInCosts();
        longerLinesCanGoOnBetter();
        pricesWithinAligns();
        blanksBehindRemarks();
        cellsThatAreNotPrinted();
        partsOfGroups();
        dearest();
        manyLayouts();
        hundredLayouts();
        greedyWidth();
        greedyRibbon();
        greedyLooksToTheLineEnd();
        greedyAndTheImpossible();
        whatWasPrinted();
        places();
        ways();
        failuresChangeNothing();
        newNodesChangeNothing();
        Check.end();
    }

    // Promises 21, 22 and 23: exceptions
    private static void wrongArguments(String name, Printing printing) {
        LayoutPress press = new LayoutPress();
        int text = press.text(0, 3);
        int impossible = press.flat(press.hard());
        Check.same(name + " at the least", printing.run(press, text, 1, 1, 0), 8);
        Check.same(name + " at the most", printing.run(press, text, 80, 80, 100), 0);
        Check.failsIndex(name + " of -1", () -> printing.run(press, -1, 9, 9, 9));
        Check.failsIndex(name + " of none", () -> printing.run(press, 3, 9, 9, 9));
        Check.failsIndex(name + " of none, ahead of arguments", () -> printing.run(press, 3, 0, 0, -1));
        int[][] wrong = {{0, 9, 9}, {81, 9, 9}, {9, 0, 9}, {9, 81, 9}, {9, 9, -1}, {9, 9, 101},
            {Integer.MIN_VALUE, Integer.MAX_VALUE, 0}};
        for (int[] one : wrong) {
            String what = name + " by " + one[0] + " " + one[1] + " " + one[2];
            Check.failsArgument(what, () -> printing.run(press, text, one[0], one[1], one[2]));
            Check.failsArgument(what + ", impossible", () -> printing.run(press, impossible, one[0], one[1], one[2]));
        }
        Check.failsState(name + " of the impossible", () -> printing.run(press, impossible, 9, 9, 9));
        Check.same(name + " left what was there", press.length(0), 3);
    }

    // What a line costs
    private static void lineCosts(String name, Printing printing) {
        LayoutPress press = new LayoutPress();
        int text = press.text(0, 10);
        Check.same(name + " of 10 by 10", printing.run(press, text, 10, 10, 7), 0);
        Check.same(name + " of 10 by 9", printing.run(press, text, 9, 80, 7), 1);
        Check.same(name + " of 10 by 7", printing.run(press, text, 7, 80, 7), 9);
        Check.same(name + " of 10 by ribbon 9", printing.run(press, text, 80, 9, 7), 1);
        Check.same(name + " of 10 by ribbon 6", printing.run(press, text, 80, 6, 7), 16);
        Check.same(name + " of both", printing.run(press, text, 8, 7, 7), 13);
        int shifted = press.pair(press.tab(20), text);
        Check.same(name + " behind blanks by width", printing.run(press, shifted, 28, 80, 7), 4);
        Check.same(name + " behind blanks by ribbon", printing.run(press, shifted, 80, 10, 7), 0);
        int apart = press.pair(shifted, press.pair(press.tab(40), text));
        Check.same(name + " of blanks between", printing.run(press, apart, 80, 28, 7), 4);
        int trailing = press.pair(text, press.tab(60));
        Check.same(name + " of blanks behind", printing.run(press, trailing, 10, 10, 7), 0);
        int two = press.pair(text, press.pair(press.hard(), text));
        Check.same(name + " of two lines", printing.run(press, two, 80, 80, 7), 7);
        Check.same(name + " of two long lines", printing.run(press, two, 9, 8, 7), 17);
        Check.same(name + " of an indented line", printing.run(press, press.nest(5, two), 12, 10, 0), 9);
        Check.same(name + " of no signs", printing.run(press, press.nest(20, press.hard()), 1, 1, 3), 3);
        Check.same(name + " of far blanks alone", printing.run(press, press.tab(80), 1, 1, 3), 0);
        Check.same(name + " lines", press.lines(), 1);
    }

    private static void impossible(String name, Printing printing) {
        LayoutPress press = new LayoutPress();
        int text = press.text(0, 1);
        int remark = press.remark(1, 2);
        int hard = press.hard();
        int line = press.line();
        Check.same(name + " of a remark", printing.run(press, remark, 80, 80, 0), 0);
        printing.run(press, press.pair(text, press.pair(remark, press.pair(line, text))), 80, 80, 0);
        Check.sameText(name + " of a remark at the end", Answers.lines(press), "|aBB|a");
        printing.run(press, press.pair(remark, press.tab(9)), 80, 80, 0);
        Check.sameText(name + " of blanks behind a remark", Answers.lines(press), "|BB");
        int[] wrong = {press.pair(remark, text), press.pair(remark, remark),
            press.pair(remark, press.pair(press.tab(9), text)), press.flat(remark), press.flat(hard),
            press.pair(press.flat(hard), text), press.pair(text, press.flat(press.price(3, hard))),
            press.pair(remark, press.pair(press.flat(line), text)),
            press.choice(press.flat(hard), press.flat(remark))};
        for (int node : wrong) {
            Check.failsState(name + " of " + node, () -> printing.run(press, node, 80, 80, 0));
        }
        printing.run(press, press.choice(press.pair(remark, text), text), 80, 80, 0);
        Check.same(name + " of the other way", press.wayAt(0), 1);
        printing.run(press, press.group(press.pair(text, hard)), 80, 80, 0);
        Check.same(name + " of a hard in a group", press.wayAt(0), 1);
        printing.run(press, press.group(press.pair(text, remark)), 80, 80, 0);
        Check.same(name + " of a remark in a group", press.wayAt(0), 1);
        printing.run(press, press.pair(remark, press.pair(press.group(line), text)), 80, 80, 5);
        Check.same(name + " of a group behind a remark", press.lines(), 2);
    }

    // Promise 21: the cost goes first
    private static void bestByCost() {
        LayoutPress press = new LayoutPress();
        int text = press.text(0, 4);
        int gap = press.group(press.line());
        int row = press.pair(text, press.pair(gap, press.pair(text, press.pair(gap, text))));
        Check.same("a line end for nothing", press.print(row, 8, 80, 0), 0);
        Check.sameText("breaks twice", Answers.lines(press), "|aaaa|aaaa|aaaa");
        Check.same("a line end or a line too long by 1", press.print(row, 8, 80, 1), 2);
        Check.sameText("the fewest line ends", Answers.lines(press), "|aaaa aaaa|aaaa");
        Check.same("a line end for 2", press.print(row, 8, 80, 2), 3);
        Check.sameText("breaks once", Answers.lines(press), "|aaaa aaaa|aaaa");
        Check.same("a line end for 60", press.print(row, 8, 80, 60), 36);
        Check.sameText("breaks never", Answers.lines(press), "|aaaa aaaa aaaa");
        Check.same("a ribbon of 9", press.print(row, 80, 9, 1), 1);
        Check.same("a wide one", press.print(row, 14, 14, 1), 0);
        int priced = press.choice(press.price(5, text), press.text(1, 7));
        Check.same("a price or a width", press.print(priced, 5, 80, 0), 4);
        Check.same("the wide one", press.wayAt(0), 1);
        Check.same("a width or a price", press.print(priced, 4, 80, 0), 5);
        Check.same("the priced one", press.wayAt(0), 0);
        Check.same("a dear best one", press.print(press.price(1000, row), 1, 1, 100), 1246);
    }

    // Promise 21: of several the one with the fewest line ends
    private static void bestByLineEnds() {
        LayoutPress press = new LayoutPress();
        int text = press.text(0, 4);
        int end = press.hard();
        int broken = press.pair(text, press.pair(end, text));
        int choice = press.choice(broken, press.pair(text, text));
        Check.same("both cost nothing", press.print(choice, 80, 80, 0), 0);
        Check.same("the one without line end", press.wayAt(0), 1);
        press.print(choice, 7, 80, 0);
        Check.same("cost goes ahead of line ends", press.wayAt(0), 0);
        int same = press.choice(press.price(1, press.pair(text, text)), broken);
        Check.same("a price or a line end", press.print(same, 80, 80, 1), 1);
        Check.same("the price is none", press.lines(), 1);
    }

    // Promise 21: of these the one that takes the first way first
    private static void bestByWays() {
        LayoutPress press = new LayoutPress();
        int text = press.text(0, 2);
        int gap = press.group(press.line());
        int row = press.pair(text, press.pair(gap, press.pair(text, press.pair(gap, text))));
        press.print(row, 5, 80, 3);
        Check.sameText("the later line end", Answers.lines(press), "|aa aa|aa");
        Check.same("first way", press.wayAt(0), 0);
        Check.same("second way", press.wayAt(1), 1);
        int same = press.choice(text, press.text(1, 2));
        press.print(press.pair(same, press.pair(same, same)), 80, 80, 0);
        Check.sameText("first ways", Answers.lines(press), "|aaaaaa");
        press.print(press.group(press.group(text)), 80, 80, 0);
        Check.same("the outer group is flat", press.decisions(), 1);
        // 01 goes ahead of 1, though it tells more ways
        int late = press.choice(press.choice(press.flat(press.hard()), text), text);
        press.print(late, 80, 80, 0);
        Check.same("the first place counts", press.wayAt(0), 0);
        Check.same("two ways", press.decisions(), 2);
    }

    // The cost that print() looks for is the one that it comes to: tabs, cells and flat lines
    private static void blanksCountInCosts() {
        LayoutPress press = new LayoutPress();
        int text = press.text(0, 4);
        int[] gaps = {press.tab(0), press.tab(5), press.flat(press.line()), press.cell(0, 0, press.flat(press.line()))};
        for (int gap : gaps) {
            int row = press.pair(text, press.pair(gap, text));
            for (int cost = 0; cost < 3; cost++) {
                int choice = press.choice(press.price(cost, text), row);
                Check.same("price " + cost + " or a gap " + gap, press.print(choice, 8, 80, 0), Math.min(cost, 1));
                Check.same("way by " + cost + " or a gap " + gap, press.wayAt(0), cost < 2 ? 0 : 1);
            }
        }
        int padded = press.cell(1, 1, text);
        int wide = press.cell(1, 1, press.text(2, 6));
        int table = press.pair(press.broken(padded, wide), text);
        int table2 = press.choice(press.price(3, text), table);
        Check.same("a price or a padded cell", press.print(table2, 8, 80, 0), 3);
        Check.same("the price", press.wayAt(0), 0);
        Check.same("a price or a cell padded less", press.print(table2, 9, 80, 0), 1);
        Check.same("the cell", press.wayAt(0), 1);
    }

    // What a line costs already does not matter any more if signs come behind its blanks
    private static void longerLinesCanGoOnBetter() {
        LayoutPress press = new LayoutPress();
        int near = press.text(0, 5);
        int far = press.text(1, 12);
        int tab = press.tab(40);
        int rest = press.pair(tab, press.text(2, 1));
        int priced = press.choice(press.price(3, near), far);
        Check.same("a price is less than a long line", press.print(press.pair(priced, tab), 10, 80, 0), 3);
        Check.same("the priced way", press.wayAt(0), 0);
        Check.same("a price is more than no price", press.print(press.pair(priced, rest), 10, 80, 0), 961);
        Check.same("the way without price", press.wayAt(0), 1);
        int same = press.choice(far, near);
        Check.same("a long line is more", press.print(press.pair(same, tab), 10, 80, 0), 0);
        Check.same("the short one", press.wayAt(0), 1);
        Check.same("both are as long", press.print(press.pair(same, rest), 10, 80, 0), 961);
        Check.same("the first way of both", press.wayAt(0), 0);
        // the line that begins further right is the shorter one behind a tab, if its ribbon counts
        int shift = press.choice(press.price(1, press.tab(9)), press.tab(2));
        int row = press.pair(shift, press.pair(near, rest));
        Check.same("a price, or a ribbon longer by 7", press.print(row, 80, 20, 0), 145);
        Check.same("the price", press.wayAt(0), 0);
        Check.same("nothing, or a price", press.print(row, 80, 80, 0), 0);
        Check.same("nothing", press.wayAt(0), 1);
    }

    // Several ways lead to the same column within an ALIGN, some of them dear: the cheap one counts
    private static void pricesWithinAligns() {
        LayoutPress press = new LayoutPress();
        int hard = press.hard();
        int one = press.text(0, 1);
        int wide = press.pair(hard, press.text(1, 17));
        int inner = press.align(press.choice(wide, press.price(8, press.pair(hard, one))));
        int outer = press.pair(press.tab(10), press.pair(inner, press.pair(press.text(2, 6), press.pair(hard, one))));
        int start = press.choice(one, press.price(8, press.text(3, 2)));
        int real = press.pair(start, press.align(outer));
        int other = press.price(1, press.pair(press.text(4, 20), press.pair(press.text(5, 20), press.text(6, 20))));
        Check.same("a price of 8, or a line too long by 3", press.print(press.choice(real, other), 30, 80, 0), 8);
        Check.sameText("its ways", Answers.of(press).replaceAll(".* ways | places.*", ""), "001");
        Check.same("the same by all", press.printByAll(press.choice(real, other), 30, 80, 0), 8);
    }

    // "if a sign stands behind a remark in its line": blanks can
    private static void blanksBehindRemarks() {
        LayoutPress press = new LayoutPress();
        int text = press.text(0, 1);
        int remark = press.remark(1, 1);
        int hard = press.hard();
        int[] blanks = {press.flat(press.line()), press.flat(press.soft()), press.tab(0), press.tab(40),
            press.cell(0, 0, press.line())};
        for (int blank : blanks) {
            int row = press.pair(remark, blank);
            Check.same("blanks behind a remark", press.print(row, 1, 1, 0), 0);
            Check.same("the remark alone", press.length(0), 1);
            int wrong = press.pair(row, text);
            Check.failsState("a text behind a remark and " + blank, () -> press.print(wrong, 80, 80, 0));
            Check.failsState("by all, a text behind a remark and " + blank, () -> press.printByAll(wrong, 80, 80, 0));
            Check.failsState("greedily, a text behind a remark and " + blank,
                    () -> press.printGreedy(wrong, 80, 80, 0));
            Check.same("in the next line", press.print(press.pair(row, press.pair(hard, text)), 80, 80, 3), 3);
        }
        int again = press.pair(remark, press.pair(blanks[0], remark));
        Check.failsState("a remark behind a remark", () -> press.print(again, 80, 80, 0));
    }

    // "of all that are in the document, printed or not"
    private static void cellsThatAreNotPrinted() {
        LayoutPress press = new LayoutPress();
        int slim = press.cell(2, 3, press.text(0, 1));
        int wide = press.cell(2, 3, press.text(1, 6));
        int mark = press.text(2, 1);
        int shown = press.pair(slim, mark);
        int way = press.choice(mark, wide);
        Check.same("a cell of the other way", press.print(press.pair(shown, way), 80, 80, 0), 0);
        Check.same("the first way", press.wayAt(0), 0);
        Check.same("its place", press.placeOf(mark), 6);
        press.print(press.pair(shown, press.broken(mark, wide)), 80, 80, 0);
        Check.same("a cell of a broken", press.placeOf(mark), 6);
        press.print(press.pair(shown, press.group(press.broken(wide, mark))), 80, 80, 0);
        Check.same("a cell of a flat broken", press.placeOf(mark), 6);
        press.print(press.pair(shown, shown), 80, 80, 0);
        Check.same("no other cell", press.placeOf(mark), 1);
        // a cell's blanks behind its part, at the end of the line
        Check.same("a cell that is too wide by its blanks alone",
                press.print(press.pair(slim, press.broken(press.soft(), wide)), 1, 1, 0), 0);
    }

    // "GROUP: its part flat, or as it is"; "BROKEN: its first part; flat its second one"
    private static void partsOfGroups() {
        LayoutPress press = new LayoutPress();
        int text = press.text(0, 2);
        int comma = press.text(2, 1);
        int mark = press.text(3, 5);
        int group = press.group(press.pair(text, press.broken(press.pair(comma, press.line()), mark)));
        press.print(group, 7, 80, 1);
        Check.sameText("flat: the second part", Answers.lines(press), "|aaddddd");
        press.print(group, 5, 80, 1);
        Check.sameText("as it is: the first part", Answers.lines(press), "|aac|");
        int inner = press.flat(press.broken(mark, press.broken(mark, text)));
        press.print(inner, 80, 80, 1);
        Check.sameText("a flat broken in a flat broken", Answers.lines(press), "|aa");
        int choice = press.flat(press.choice(press.group(press.hard()), press.pair(text, press.line())));
        press.print(choice, 80, 80, 1);
        Check.same("a choice in a flat part tells its way, a group none", press.decisions(), 1);
        Check.same("the way without the hard", press.wayAt(0), 1);
    }

    private static int thirty(LayoutPress press, int leaf) {
        int row = leaf;
        for (int i = 1; i < 30; i++) {
            row = press.pair(row, leaf);
        }
        return row;
    }

    // What 30 leaves can cost by line ends, and by a width and a ribbon of 1; and PRICEs in one another
    private static void dearest() {
        LayoutPress press = new LayoutPress();
        int ends = thirty(press, press.hard());
        Check.same("30 line ends", press.print(ends, 1, 1, 100), 3000);
        Check.same("31 lines", press.lines(), 31);
        Check.same("30 line ends for nothing", press.print(ends, 1, 1, 0), 0);
        LayoutPress other = new LayoutPress();
        int signs = thirty(other, other.text(0, 20));
        int due = 2 * 599 * 599;
        Check.same("a line of 600", other.print(signs, 1, 1, 100), due);
        Check.same("a line of 600 by all", other.printByAll(signs, 1, 1, 100), due);
        Check.same("a line of 600 greedily", other.printGreedy(signs, 1, 1, 100), due);
        LayoutPress third = new LayoutPress();
        int dear = third.soft();
        while (third.nodes() < 60) {
            dear = third.price(1000, dear);
        }
        Check.same("59 prices", third.print(dear, 80, 80, 1), 59001);
    }

    private static void manyLayouts() {
        LayoutPress press = new LayoutPress();
        int gap = press.group(press.line());
        int row = press.text(0, 1);
        for (int i = 0; i < 14; i++) {
            row = press.pair(row, press.pair(gap, press.text(i + 1, 1)));
        }
        Check.same("layouts", press.layouts(row), 16384);
        Check.same("fifteen letters by 9", press.print(row, 9, 80, 4), 8);
        Check.sameText("lines of 9", Answers.lines(press), "|a b c d e|f g h i j|k l m n o");
        int two = press.pair(gap, gap);
        int four = press.pair(two, two);
        int eight = press.pair(four, four);
        int most = press.pair(press.pair(eight, eight), press.pair(eight, press.pair(four, two)));
        Check.same("all layouts of 30 groups", press.print(most, 1, 1, 0), 0);
        Check.same("30 ways", press.decisions(), 30);
        Check.same("the first of all", press.lines(), 1);
        Check.failsState("too many to go through", () -> press.printByAll(most, 1, 1, 0));
        Check.same("greedily", press.printGreedy(most, 1, 1, 0), 0);
        Check.same("30 greedy ways", press.decisions(), 30);
        Check.same("the last way", press.wayAt(29), 0);
        Check.failsIndex("way 30", () -> press.wayAt(30));
    }

    // Promise 22
    private static void hundredLayouts() {
        LayoutPress press = new LayoutPress();
        int text = press.text(0, 1);
        int five = text;
        for (int i = 1; i < 5; i++) {
            five = press.choice(five, press.text(i, 1 + i));
        }
        int ten = press.group(press.pair(five, press.line()));
        Check.same("ten layouts", press.layouts(ten), 10);
        int hundred = press.pair(ten, ten);
        Check.same("a hundred layouts", press.layouts(hundred), 100);
        Check.same("all of them", press.printByAll(hundred, 80, 80, 1), 0);
        Check.same("the best", press.lines(), 1);
        Check.same("the first of the best", press.decisions(), 10);
        Check.same("the last of the best", press.wayAt(9), 0);
        int more = press.choice(hundred, text);
        Check.same("a hundred and one", press.layouts(more), 101);
        Check.failsState("a hundred and one by all", () -> press.printByAll(more, 80, 80, 1));
        Check.failsArgument("arguments ahead of too many", () -> press.printByAll(more, 0, 80, 1));
        Check.same("not printed", press.decisions(), 10);
        Check.same("a hundred and one", press.print(more, 80, 80, 1), 0);
        int impossible = press.pair(press.choice(text, press.text(1, 2)), press.flat(press.hard()));
        Check.failsState("all are impossible", () -> press.printByAll(impossible, 80, 80, 1));
    }

    // Promise 23
    private static void greedyWidth() {
        LayoutPress press = new LayoutPress();
        int text = press.text(0, 3);
        int gap = press.group(press.line());
        int row = press.pair(text, press.pair(gap, press.pair(text, press.pair(gap, text))));
        Check.same("greedy by 7", press.printGreedy(row, 7, 80, 1), 1);
        Check.sameText("greedy lines by 7", Answers.lines(press), "|aaa aaa|aaa");
        Check.same("greedy by 6", press.printGreedy(row, 6, 80, 1), 2);
        Check.sameText("greedy lines by 6", Answers.lines(press), "|aaa|aaa|aaa");
        Check.same("greedy by 11", press.printGreedy(row, 11, 80, 1), 0);
        Check.same("greedy by 1", press.printGreedy(row, 1, 80, 1), 14);
        // the best one would spare the dear line end
        int dear = press.pair(text, press.pair(press.choice(press.price(9, press.tab(0)), press.line()), text));
        Check.same("greedy looks at no price", press.printGreedy(dear, 80, 80, 1), 9);
        Check.same("the best one does", press.print(dear, 80, 80, 1), 1);
    }

    private static void greedyRibbon() {
        LayoutPress press = new LayoutPress();
        int text = press.text(0, 3);
        int row = press.pair(press.tab(10), press.pair(text, press.pair(press.group(press.line()), text)));
        press.printGreedy(row, 80, 7, 0);
        Check.same("a ribbon of 7", press.lines(), 1);
        press.printGreedy(row, 80, 6, 0);
        Check.same("a ribbon of 6", press.lines(), 2);
        press.printGreedy(row, 17, 80, 0);
        Check.same("a width of 17", press.lines(), 1);
        press.printGreedy(row, 16, 80, 0);
        Check.same("a width of 16", press.lines(), 2);
    }

    private static void greedyLooksToTheLineEnd() {
        LayoutPress press = new LayoutPress();
        int text = press.text(0, 3);
        int gap = press.group(press.line());
        int tail = press.pair(gap, press.pair(text, text));
        press.printGreedy(press.pair(tail, press.pair(press.hard(), press.text(1, 20))), 7, 80, 0);
        Check.sameText("what is behind the line end does not count", Answers.lines(press), "| aaaaaa|bbbbbbbbbbbbbbbbbbbb");
        press.printGreedy(tail, 6, 80, 0);
        Check.sameText("signs behind the place count", Answers.lines(press), "||aaaaaa");
        press.printGreedy(press.pair(text, press.pair(gap, press.pair(text, tail))), 7, 80, 0);
        Check.sameText("later places take the second way", Answers.lines(press), "|aaa aaa|aaaaaa");
        press.printGreedy(press.pair(press.text(2, 9), press.pair(gap, text)), 8, 80, 0);
        Check.sameText("signs ahead of the place count", Answers.lines(press), "|ccccccccc|aaa");
        press.printGreedy(press.pair(text, press.pair(gap, press.tab(70))), 5, 80, 0);
        Check.same("blanks do not count", press.lines(), 1);
        press.printGreedy(press.choice(press.pair(press.hard(), press.text(3, 20)), text), 5, 80, 0);
        Check.same("the first way's own line end", press.wayAt(0), 0);
    }

    private static void greedyAndTheImpossible() {
        LayoutPress press = new LayoutPress();
        int text = press.text(0, 3);
        int wrong = press.flat(press.hard());
        int late = press.choice(press.pair(press.hard(), wrong), text);
        Check.failsState("impossible behind the line end", () -> press.printGreedy(late, 80, 80, 0));
        Check.same("possible for print", press.print(late, 80, 80, 0), 0);
        press.printGreedy(press.choice(press.pair(text, wrong), text), 80, 80, 0);
        Check.same("impossible ahead of the line end", press.wayAt(0), 1);
        int never = press.pair(wrong, press.group(text));
        Check.failsState("impossible ahead of the place", () -> press.printGreedy(never, 80, 80, 0));
        int remark = press.pair(press.remark(0, 1), press.pair(press.group(press.line()), text));
        press.printGreedy(remark, 80, 80, 0);
        Check.sameText("a sign behind a remark", Answers.lines(press), "|A|aaa");
        int second = press.choice(press.text(1, 20), wrong);
        Check.failsState("too wide or impossible", () -> press.printGreedy(second, 5, 80, 0));
        Check.same("too wide is possible", press.print(second, 5, 80, 0), 225);
    }

    // Promises 24 to 27
    private static void whatWasPrinted() {
        LayoutPress press = new LayoutPress();
        int text = press.text(1, 2);
        int remark = press.remark(25, 1);
        int end = press.hard();
        int first = press.pair(press.tab(2), press.pair(text, press.pair(press.tab(6), remark)));
        int last = press.pair(text, press.tab(9));
        press.print(press.pair(first, press.pair(end, press.pair(end, last))), 80, 80, 0);
        Check.same("lines", press.lines(), 3);
        Check.same("length of blanks and signs", press.length(0), 7);
        Check.same("length without signs", press.length(1), 0);
        Check.same("length without blanks behind", press.length(2), 2);
        Check.sameText("signs", Answers.lines(press), "|  bb  Z||bb");
        int[] owners = {-1, -1, text, text, -1, -1, remark};
        for (int column = 0; column < owners.length; column++) {
            Check.same("owner at " + column, press.nodeAt(0, column), owners[column]);
        }
        Check.failsIndex("line -1", () -> press.length(-1));
        Check.failsIndex("line 3", () -> press.length(3));
        int[][] wrong = {{-1, 0}, {3, 0}, {0, -1}, {0, 7}, {1, 0}, {2, 2}, {Integer.MAX_VALUE, Integer.MIN_VALUE}};
        for (int[] at : wrong) {
            Check.failsIndex("sign at " + at[0] + " " + at[1], () -> press.signAt(at[0], at[1]));
            Check.failsIndex("owner at " + at[0] + " " + at[1], () -> press.nodeAt(at[0], at[1]));
        }
        press.print(text, 80, 80, 0);
        Check.same("lines of the next one", press.lines(), 1);
        Check.failsIndex("the line is gone", () -> press.length(1));
        press.print(press.flat(press.soft()), 80, 80, 0);
        Check.same("nothing is one line", press.lines(), 1);
        Check.same("without signs", press.length(0), 0);
    }

    // Promise 28
    private static void places() {
        LayoutPress press = new LayoutPress();
        int text = press.text(0, 3);
        int end = press.hard();
        int row = press.pair(text, press.pair(end, text));
        int nested = press.nest(4, row);
        int other = press.text(1, 1);
        int choice = press.choice(nested, other);
        Check.same("nothing was printed", press.placeOf(text), -1);
        press.print(press.pair(press.pair(text, choice), end), 80, 80, 0);
        Check.same("the first time counts", press.placeOf(text), 0);
        Check.same("the way that was not taken", press.placeOf(nested), -1);
        Check.same("the way that was taken", press.placeOf(other), 3);
        Check.same("a choice", press.placeOf(choice), 3);
        Check.same("where a line end begins", press.placeOf(end), 4);
        press.print(press.pair(nested, other), 80, 80, 0);
        Check.same("line and column", press.placeOf(other), 1007);
        Check.same("not in this one", press.placeOf(choice), -1);
        Check.same("the root", press.placeOf(press.nodes() - 1), 0);
        int tab = press.tab(9);
        press.print(press.nest(2, press.pair(end, press.pair(tab, press.pair(tab, press.align(other))))), 80, 80, 0);
        Check.same("behind an indentation", press.placeOf(tab), 1002);
        Check.same("behind blanks", press.placeOf(other), 1010);
        Check.failsIndex("place of -1", () -> press.placeOf(-1));
        Check.failsIndex("place of none", () -> press.placeOf(press.nodes()));
    }

    // Promises 29 and 30
    private static void ways() {
        LayoutPress press = new LayoutPress();
        int text = press.text(0, 3);
        int slim = press.text(1, 1);
        int choice = press.choice(text, slim);
        int group = press.group(press.pair(choice, press.line()));
        press.print(press.pair(group, press.pair(text, group)), 5, 80, 0);
        Check.sameText("ways", Answers.of(press).replaceAll(".* ways | places.*", ""), "1001");
        press.printGreedy(press.pair(group, press.pair(text, group)), 5, 80, 0);
        Check.sameText("greedy ways", Answers.of(press).replaceAll(".* ways | places.*", ""), "1001");
        Check.failsIndex("way -1", () -> press.wayAt(-1));
        Check.failsIndex("way 4", () -> press.wayAt(4));
        press.print(text, 80, 80, 0);
        Check.same("no way", press.decisions(), 0);
        Check.failsIndex("way 0", () -> press.wayAt(0));
    }

    private static void failuresChangeNothing() {
        LayoutPress press = new LayoutPress();
        int text = press.text(0, 3);
        int row = press.pair(text, press.pair(press.group(press.line()), text));
        int impossible = press.flat(press.pair(text, press.pair(text, press.hard())));
        press.print(row, 4, 80, 1);
        press.breakPages(1);
        String before = Answers.of(press);
        Check.failsState("print", () -> press.print(impossible, 80, 80, 1));
        Check.failsState("printByAll", () -> press.printByAll(impossible, 80, 80, 1));
        Check.failsState("printGreedy", () -> press.printGreedy(impossible, 80, 80, 1));
        Check.failsIndex("print of none", () -> press.print(60, 80, 80, 1));
        Check.failsArgument("print by 0", () -> press.print(row, 0, 80, 1));
        Check.failsArgument("pages of 0", () -> press.breakPages(0));
        Check.failsArgument("text", () -> press.text(26, 1));
        Check.sameText("what was printed", Answers.of(press), before);
        Check.same("pages are still there", press.pageOf(1), 1);
    }

    private static void newNodesChangeNothing() {
        LayoutPress press = new LayoutPress();
        int text = press.text(0, 3);
        press.print(text, 80, 80, 1);
        press.breakPages(1);
        int other = press.text(1, 1);
        Check.same("a new node is not printed", press.placeOf(other), -1);
        Check.sameText("what was printed stands", Answers.lines(press), "|aaa");
        Check.same("its pages too", press.pageOf(0), 0);
    }
}
