/** Promises 1 to 20: a new object, the calls that make nodes, and what can be asked of nodes. */
public final class NodesTest {
    private NodesTest() {
    }

    public static void main(String[] arguments) {
        newObject();
        signs(true);
        signs(false);
        lineEnds();
        tabs();
        pairs();
        nests();
        aligns();
        groups();
        choices();
        flats();
        brokens();
        prices();
        keeps();
        cells();
        cellRefusals();
        counting();
        sizes();
        layoutCounts();
        tooLargeByWays();
        tooLargeByChoices();
        deepNodes();
        farIndentations();
        Check.end();
    }

    // Promise 1
    private static void newObject() {
        LayoutPress press = new LayoutPress();
        Check.same("a new object's nodes", press.nodes(), 0);
        Check.same("a new object's lines", press.lines(), 0);
        Check.same("a new object's decisions", press.decisions(), 0);
        Check.same("NONE", LayoutPress.NONE, -1);
        Check.failsIndex("a new object's line 0", () -> press.length(0));
        Check.failsIndex("a new object's sign", () -> press.signAt(0, 0));
        Check.failsIndex("a new object's owner", () -> press.nodeAt(0, 0));
        Check.failsIndex("a new object's node 0", () -> press.placeOf(0));
        Check.failsIndex("a new object's way 0", () -> press.wayAt(0));
        Check.failsIndex("a new object's size 0", () -> press.size(0));
        Check.failsIndex("a new object's layouts 0", () -> press.layouts(0));
        Check.failsIndex("a new object's page", () -> press.pageOf(0));
        Check.failsState("a new object's pages", () -> press.breakPages(5));
        Check.failsIndex("a new object's print", () -> press.print(0, 10, 10, 1));
        LayoutPress other = new LayoutPress();
        other.text(0, 1);
        Check.same("objects are apart", press.nodes(), 0);
    }

    // Promises 2 and 3
    private static void signs(boolean isText) {
        String name = isText ? "text " : "remark ";
        LayoutPress press = new LayoutPress();
        Check.same(name + "0 1", sign(press, isText, 0, 1), 0);
        Check.same(name + "25 20", sign(press, isText, 25, 20), 1);
        Check.failsArgument(name + "-1 1", () -> sign(press, isText, -1, 1));
        Check.failsArgument(name + "26 1", () -> sign(press, isText, 26, 1));
        Check.failsArgument(name + "0 0", () -> sign(press, isText, 0, 0));
        Check.failsArgument(name + "0 21", () -> sign(press, isText, 0, 21));
        Check.failsArgument(name + "the least", () -> sign(press, isText, Integer.MIN_VALUE, Integer.MAX_VALUE));
        Check.same(name + "nodes after failures", press.nodes(), 2);
        press.print(0, 80, 80, 0);
        Check.sameText(name + "first letter", Answers.lines(press), isText ? "|a" : "|A");
        press.print(1, 80, 80, 0);
        Check.sameText(name + "last letter", Answers.lines(press), "|" + (isText ? "z" : "Z").repeat(20));
        fill(press);
        Check.failsState(name + "61st", () -> sign(press, isText, 0, 1));
        Check.failsArgument(name + "argument ahead of state", () -> sign(press, isText, 26, 1));
        Check.failsArgument(name + "count ahead of state", () -> sign(press, isText, 0, 21));
    }

    private static int sign(LayoutPress press, boolean isText, int letter, int count) {
        return isText ? press.text(letter, count) : press.remark(letter, count);
    }

    private static void fill(LayoutPress press) {
        while (press.nodes() < 60) {
            press.soft();
        }
    }

    // Promises 4, 5 and 6
    private static void lineEnds() {
        LayoutPress press = new LayoutPress();
        Check.same("line", press.line(), 0);
        Check.same("soft", press.soft(), 1);
        Check.same("hard", press.hard(), 2);
        int text = press.text(0, 1);
        for (int end = 0; end < 3; end++) {
            int row = press.pair(text, press.pair(end, text));
            press.print(row, 80, 80, 0);
            Check.sameText("line end " + end, Answers.lines(press), "|a|a");
            int flat = press.flat(row);
            if (end == 2) {
                Check.failsState("a flat hard", () -> press.print(flat, 80, 80, 0));
            } else {
                press.print(flat, 80, 80, 0);
                Check.sameText("flat line end " + end, Answers.lines(press), end == 0 ? "|a a" : "|aa");
            }
        }
        fill(press);
        Check.failsState("61st line", press::line);
        Check.failsState("61st soft", press::soft);
        Check.failsState("61st hard", press::hard);
        Check.same("still 60", press.nodes(), 60);
    }

    // Promise 7
    private static void tabs() {
        LayoutPress press = new LayoutPress();
        int text = press.text(0, 3);
        Check.failsArgument("tab -1", () -> press.tab(-1));
        Check.failsArgument("tab 81", () -> press.tab(81));
        Check.same("tab", press.tab(0), 1);
        String[] due = {"|aaa aaa", "|aaa aaa", "|aaa aaa", "|aaa  aaa"};
        int[] columns = {0, 3, 4, 5};
        for (int i = 0; i < columns.length; i++) {
            int row = press.pair(text, press.pair(press.tab(columns[i]), text));
            press.print(row, 80, 80, 0);
            Check.sameText("tab " + columns[i], Answers.lines(press), due[i]);
            press.print(press.flat(row), 80, 80, 0);
            Check.sameText("flat tab " + columns[i], Answers.lines(press), due[i]);
        }
        int far = press.pair(press.tab(80), text);
        press.print(far, 80, 80, 0);
        Check.same("tab 80", press.length(0), 83);
        press.print(press.pair(far, far), 80, 80, 0);
        Check.same("tab 80 behind 80", press.length(0), 87);
        fill(press);
        Check.failsState("61st tab", () -> press.tab(3));
        Check.failsArgument("tab's argument ahead of state", () -> press.tab(81));
    }

    // Promise 8
    private static void pairs() {
        LayoutPress press = new LayoutPress();
        int a = press.text(0, 1);
        int b = press.text(1, 2);
        Check.same("pair", press.pair(a, b), 2);
        press.print(2, 80, 80, 0);
        Check.sameText("pair's order", Answers.lines(press), "|abb");
        Check.failsIndex("pair -1", () -> press.pair(-1, 0));
        Check.failsIndex("pair 3", () -> press.pair(3, 0));
        Check.failsIndex("pair 0 -1", () -> press.pair(0, -1));
        Check.failsIndex("pair 0 3", () -> press.pair(0, 3));
        int large = a;
        for (int i = 0; i < 29; i++) {
            large = press.pair(large, a);
        }
        int most = large;
        Check.same("size of the largest", press.size(most), 30);
        Check.failsState("pair of 31", () -> press.pair(most, a));
        Check.failsState("pair of 60", () -> press.pair(most, most));
        Check.failsIndex("pair's node ahead of state", () -> press.pair(most, 60));
        press.print(most, 80, 80, 0);
        Check.same("largest pair", press.length(0), 30);
        fill(press);
        Check.failsState("61st pair", () -> press.pair(a, b));
        Check.failsIndex("61st pair of none", () -> press.pair(a, 60));
    }

    // Promise 9
    private static void nests() {
        LayoutPress press = new LayoutPress();
        int text = press.text(0, 1);
        int row = press.pair(text, press.pair(press.hard(), text));
        Check.failsIndex("nest of none", () -> press.nest(1, 99));
        Check.failsIndex("nest of -1, ahead of its argument", () -> press.nest(21, -1));
        Check.failsArgument("nest 21", () -> press.nest(21, row));
        Check.failsArgument("nest -21", () -> press.nest(-21, row));
        int most = press.nest(20, row);
        press.print(most, 80, 80, 0);
        Check.same("nest 20", press.length(1), 21);
        press.print(press.nest(-20, row), 80, 80, 0);
        Check.same("nest -20 at the margin", press.length(1), 1);
        press.print(press.nest(3, press.nest(-5, press.nest(4, row))), 80, 80, 0);
        Check.same("nests add up", press.length(1), 3);
        press.print(press.nest(7, press.nest(-9, row)), 80, 80, 0);
        Check.same("below 0 is 0", press.length(1), 1);
        press.print(press.nest(-9, press.nest(7, row)), 80, 80, 0);
        Check.same("-9 and 7 is below 0", press.length(1), 1);
        press.print(press.nest(-9, press.nest(12, row)), 80, 80, 0);
        Check.same("-9 and 12 is 3, not 12", press.length(1), 4);
        press.print(press.pair(most, row), 80, 80, 0);
        Check.same("the indentation ends with the nest", press.length(2), 1);
        fill(press);
        Check.failsState("61st nest", () -> press.nest(1, row));
        Check.failsArgument("61st nest by 21", () -> press.nest(21, row));
        Check.failsIndex("61st nest of none by 21", () -> press.nest(21, 60));
    }

    // Promise 10
    private static void aligns() {
        LayoutPress press = new LayoutPress();
        int text = press.text(0, 2);
        int row = press.pair(press.hard(), text);
        Check.failsIndex("align of none", () -> press.align(4));
        Check.failsIndex("align of -1", () -> press.align(-1));
        int aligned = press.align(press.pair(text, row));
        press.print(press.pair(text, press.pair(aligned, row)), 80, 80, 0);
        Check.sameText("align", Answers.lines(press), "|aaaa|  aa|aa");
        press.print(press.nest(5, press.pair(text, press.align(press.nest(1, row)))), 80, 80, 0);
        Check.sameText("align in nest, nest in align", Answers.lines(press), "|aa|   aa");
        press.print(press.pair(text, press.align(press.nest(-5, row))), 80, 80, 0);
        Check.sameText("align with less", Answers.lines(press), "|aa|aa");
        press.print(press.nest(4, press.pair(row, press.align(row))), 80, 80, 0);
        Check.sameText("align behind an indentation", Answers.lines(press), "||    aa|      aa");
        fill(press);
        Check.failsState("61st align", () -> press.align(row));
        Check.failsIndex("61st align of none", () -> press.align(60));
    }

    // Promise 11
    private static void groups() {
        LayoutPress press = new LayoutPress();
        int text = press.text(0, 3);
        int row = press.pair(text, press.pair(press.line(), text));
        Check.failsIndex("group of none", () -> press.group(4));
        Check.failsIndex("group of -1", () -> press.group(-1));
        int group = press.group(row);
        press.print(group, 7, 80, 1);
        Check.sameText("group flat", Answers.lines(press), "|aaa aaa");
        Check.same("group's first way", press.wayAt(0), 0);
        press.print(group, 3, 80, 1);
        Check.sameText("group as it is", Answers.lines(press), "|aaa|aaa");
        Check.same("group's second way", press.wayAt(0), 1);
        press.print(press.group(group), 3, 80, 1);
        Check.same("group in group", press.decisions(), 2);
        press.print(press.group(press.pair(group, group)), 80, 80, 1);
        Check.same("flat groups tell no way", press.decisions(), 1);
        fill(press);
        Check.failsState("61st group", () -> press.group(row));
        Check.failsIndex("61st group of none", () -> press.group(60));
    }

    // Promise 12
    private static void choices() {
        LayoutPress press = new LayoutPress();
        int wide = press.text(0, 9);
        int slim = press.text(1, 2);
        Check.failsIndex("choice of none", () -> press.choice(2, 0));
        Check.failsIndex("choice of none behind", () -> press.choice(0, 2));
        Check.failsIndex("choice -1", () -> press.choice(-1, 0));
        int choice = press.choice(wide, slim);
        Check.same("choice", choice, 2);
        press.print(choice, 80, 80, 0);
        Check.sameText("choice's first way", Answers.lines(press), "|aaaaaaaaa");
        press.print(choice, 8, 80, 0);
        Check.sameText("choice's second way", Answers.lines(press), "|bb");
        press.print(press.flat(press.pair(choice, choice)), 11, 80, 0);
        Check.sameText("flat choices have two ways", Answers.lines(press), "|aaaaaaaaabb");
        Check.same("flat choices tell ways", press.decisions(), 2);
        int large = wide;
        for (int i = 0; i < 28; i++) {
            large = press.pair(large, slim);
        }
        int most = large;
        Check.same("size of the largest choice", press.size(press.choice(most, slim)), 30);
        Check.failsState("choice of 31", () -> press.choice(most, press.pair(slim, slim)));
        fill(press);
        Check.failsState("61st choice", () -> press.choice(wide, slim));
        Check.failsIndex("61st choice of none", () -> press.choice(wide, 60));
    }

    // Promise 13
    private static void flats() {
        LayoutPress press = new LayoutPress();
        int text = press.text(0, 1);
        int row = press.pair(text, press.pair(press.line(), press.pair(press.soft(), text)));
        Check.failsIndex("flat of none", () -> press.flat(6));
        Check.failsIndex("flat of -1", () -> press.flat(-1));
        press.print(press.flat(row), 1, 1, 0);
        Check.sameText("flat", Answers.lines(press), "|a a");
        press.print(press.pair(press.flat(row), row), 80, 80, 0);
        Check.sameText("flat ends", Answers.lines(press), "|a aa||a");
        press.print(press.flat(press.nest(9, press.align(press.group(row)))), 80, 80, 0);
        Check.sameText("all within is flat", Answers.lines(press), "|a a");
        Check.same("no way within", press.decisions(), 0);
        int hard = press.flat(press.hard());
        int remark = press.flat(press.remark(3, 1));
        Check.failsState("flat hard", () -> press.print(hard, 9, 9, 9));
        Check.failsState("flat remark", () -> press.print(remark, 9, 9, 9));
        fill(press);
        Check.failsState("61st flat", () -> press.flat(row));
        Check.failsIndex("61st flat of none", () -> press.flat(60));
    }

    // Promise 14
    private static void brokens() {
        LayoutPress press = new LayoutPress();
        int comma = press.text(2, 1);
        int text = press.text(0, 2);
        int broken = press.broken(comma, text);
        Check.failsIndex("broken of none", () -> press.broken(3, 0));
        Check.failsIndex("broken of none behind", () -> press.broken(0, 3));
        Check.failsIndex("broken -1", () -> press.broken(0, -1));
        press.print(broken, 80, 80, 0);
        Check.sameText("broken", Answers.lines(press), "|c");
        press.print(press.flat(broken), 80, 80, 0);
        Check.sameText("flat broken", Answers.lines(press), "|aa");
        press.print(press.broken(press.pair(comma, press.hard()), press.hard()), 80, 80, 0);
        Check.sameText("broken's second part is not there", Answers.lines(press), "|c|");
        int large = text;
        for (int i = 0; i < 28; i++) {
            large = press.pair(large, text);
        }
        int most = large;
        Check.same("size of the largest broken", press.size(press.broken(most, text)), 30);
        Check.failsState("broken of 31", () -> press.broken(most, press.pair(text, text)));
        fill(press);
        Check.failsState("61st broken", () -> press.broken(comma, text));
        Check.failsIndex("61st broken of none", () -> press.broken(60, text));
    }

    // Promise 15
    private static void prices() {
        LayoutPress press = new LayoutPress();
        int text = press.text(0, 2);
        Check.failsIndex("price of none", () -> press.price(1, 1));
        Check.failsIndex("price of none, ahead of its cost", () -> press.price(-1, -1));
        Check.failsArgument("price -1", () -> press.price(-1, text));
        Check.failsArgument("price 1001", () -> press.price(1001, text));
        int free = press.price(0, text);
        int dear = press.price(1000, text);
        Check.same("price 0", press.print(free, 80, 80, 0), 0);
        Check.same("price 1000", press.print(dear, 80, 80, 0), 1000);
        Check.same("as often as it comes", press.print(press.pair(dear, press.pair(dear, free)), 80, 80, 0), 2000);
        Check.same("within", press.print(press.price(7, dear), 80, 80, 0), 1007);
        Check.same("flat", press.print(press.flat(press.price(8, text)), 80, 80, 0), 8);
        Check.same("not printed", press.print(press.broken(text, dear), 80, 80, 0), 0);
        Check.same("the free way", press.print(press.choice(dear, free), 80, 80, 0), 0);
        Check.same("the second way is free", press.wayAt(0), 1);
        fill(press);
        Check.failsState("61st price", () -> press.price(1, text));
        Check.failsArgument("61st price 1001", () -> press.price(1001, text));
        Check.failsIndex("61st price 1001 of none", () -> press.price(1001, 60));
    }

    // Promise 16; what it costs stands in PagesTest
    private static void keeps() {
        LayoutPress press = new LayoutPress();
        int row = press.pair(press.text(0, 2), press.hard());
        Check.failsIndex("keep of none", () -> press.keep(1, 3));
        Check.failsIndex("keep of none, ahead of its cost", () -> press.keep(1001, -1));
        Check.failsArgument("keep -1", () -> press.keep(-1, row));
        Check.failsArgument("keep 1001", () -> press.keep(1001, row));
        Check.same("keep", press.keep(0, row), 3);
        Check.same("keep costs no layout", press.print(press.keep(1000, row), 80, 80, 0), 0);
        Check.sameText("keep prints its part", Answers.lines(press), "|aa|");
        fill(press);
        Check.failsState("61st keep", () -> press.keep(1, row));
        Check.failsArgument("61st keep 1001", () -> press.keep(1001, row));
        Check.failsIndex("61st keep 1001 of none", () -> press.keep(1001, 60));
    }

    // Promise 17
    private static void cells() {
        LayoutPress press = new LayoutPress();
        int slim = press.text(0, 1);
        int wide = press.text(1, 4);
        int end = press.text(25, 1);
        int one = press.cell(0, 0, slim);
        int two = press.cell(0, 0, wide);
        press.print(press.pair(one, end), 80, 80, 0);
        Check.sameText("a cell alone", Answers.lines(press), "|az");
        int row = press.pair(press.pair(one, end), press.pair(two, end));
        press.print(row, 80, 80, 0);
        Check.sameText("the widest cell", Answers.lines(press), "|a   zbbbbz");
        press.print(press.pair(press.pair(one, end), press.broken(end, two)), 80, 80, 0);
        Check.sameText("cells that are not printed count", Answers.lines(press), "|a   zz");
        int others = press.pair(press.cell(0, 1, wide), press.cell(1, 0, wide));
        press.print(press.pair(press.pair(one, end), others), 80, 80, 0);
        Check.sameText("other tables and columns", Answers.lines(press), "|azbbbbbbbb");
        int blank = press.cell(0, 0, press.pair(slim, press.pair(press.line(), press.soft())));
        press.print(press.pair(press.pair(one, end), press.pair(blank, end)), 80, 80, 0);
        Check.sameText("a cell is flat, blanks at its end count", Answers.lines(press), "|a za z");
        press.print(press.flat(row), 80, 80, 0);
        Check.sameText("flat cells", Answers.lines(press), "|a   zbbbbz");
        int broken = press.cell(0, 0, press.broken(press.text(3, 9), press.pair(slim, slim)));
        press.print(press.pair(press.pair(one, end), press.pair(broken, end)), 80, 80, 0);
        Check.sameText("a broken in a cell has its second part", Answers.lines(press), "|a zaaz");
        press.print(press.cell(3, 4, press.group(press.nest(2, press.align(slim)))), 80, 80, 0);
        Check.same("a cell's groups tell no way", press.decisions(), 0);
        press.print(press.pair(one, two), 80, 80, 0);
        Check.same("length without blanks at the end", press.length(0), 8);
        press.print(press.pair(two, one), 80, 80, 0);
        Check.same("a padded cell at the end", press.length(0), 5);
    }

    private static void cellRefusals() {
        LayoutPress press = new LayoutPress();
        int text = press.text(0, 1);
        int cell = press.cell(0, 0, text);
        int choice = press.choice(text, text);
        int[] barred = {press.tab(3), press.hard(), press.remark(0, 1), choice, cell};
        for (int part : barred) {
            Check.failsState("cell of " + part, () -> press.cell(0, 0, part));
            int deep = press.pair(text, press.nest(1, press.group(part)));
            Check.failsState("cell with " + part, () -> press.cell(0, 0, deep));
            int behind = press.broken(text, part);
            Check.failsState("cell of broken with " + part, () -> press.cell(0, 0, behind));
            int ahead = press.broken(part, text);
            Check.same("cell of what is not printed " + part, press.cell(3, 4, ahead), press.nodes() - 1);
        }
        Check.failsIndex("cell of none", () -> press.cell(0, 0, 60));
        Check.failsIndex("cell of none, ahead of its table", () -> press.cell(4, 0, -1));
        Check.failsArgument("table -1", () -> press.cell(-1, 0, text));
        Check.failsArgument("table 4", () -> press.cell(4, 0, text));
        Check.failsArgument("column -1", () -> press.cell(0, -1, text));
        Check.failsArgument("column 5", () -> press.cell(0, 5, text));
        Check.failsArgument("table ahead of what is in it", () -> press.cell(4, 0, cell));
        fill(press);
        Check.failsState("61st cell", () -> press.cell(0, 0, text));
        Check.failsArgument("61st cell in column 5", () -> press.cell(0, 5, text));
        Check.failsIndex("61st cell in column 5 of none", () -> press.cell(0, 5, 60));
    }

    // Promise 18
    private static void counting() {
        LayoutPress press = new LayoutPress();
        for (int i = 0; i < 60; i++) {
            Check.same("nodes", press.nodes(), i);
            Check.same("number", press.line(), i);
        }
        Check.same("nodes at most", press.nodes(), 60);
    }

    // Promise 19
    private static void sizes() {
        LayoutPress press = new LayoutPress();
        int text = press.text(0, 20);
        int[] leaves = {text, press.remark(0, 1), press.line(), press.soft(), press.hard(), press.tab(9)};
        for (int leaf : leaves) {
            Check.same("size of a leaf", press.size(leaf), 1);
        }
        int pair = press.pair(text, text);
        Check.same("size of a pair", press.size(pair), 2);
        int[] alike = {press.nest(1, pair), press.align(pair), press.group(pair), press.flat(pair),
            press.price(1, pair), press.keep(1, pair), press.cell(0, 0, pair)};
        for (int node : alike) {
            Check.same("size of one part", press.size(node), 2);
        }
        Check.same("size of a choice", press.size(press.choice(pair, text)), 3);
        Check.same("size of a broken", press.size(press.broken(pair, pair)), 4);
        Check.failsIndex("size -1", () -> press.size(-1));
        Check.failsIndex("size of none", () -> press.size(press.nodes()));
    }

    // Promise 20
    private static void layoutCounts() {
        LayoutPress press = new LayoutPress();
        int text = press.text(0, 1);
        int group = press.group(press.line());
        int choice = press.choice(text, text);
        int both = press.pair(group, choice);
        Check.same("layouts of a leaf", press.layouts(text), 1);
        Check.same("layouts of a group", press.layouts(group), 2);
        Check.same("layouts of a choice", press.layouts(choice), 2);
        Check.same("layouts of a pair", press.layouts(both), 4);
        Check.same("layouts of a group of both", press.layouts(press.group(both)), 6);
        Check.same("layouts of a flat", press.layouts(press.flat(both)), 2);
        Check.same("layouts of a broken", press.layouts(press.broken(group, both)), 2);
        Check.same("layouts of a flat broken", press.layouts(press.flat(press.broken(text, both))), 2);
        Check.same("layouts of a choice of both", press.layouts(press.choice(both, group)), 6);
        Check.same("layouts of a cell", press.layouts(press.cell(0, 0, group)), 1);
        Check.same("layouts of the rest", press.layouts(press.nest(1, press.align(press.price(1, press.keep(1, both))))), 4);
        Check.same("impossible ones count", press.layouts(press.group(press.hard())), 2);
        Check.failsIndex("layouts -1", () -> press.layouts(-1));
        Check.failsIndex("layouts of none", () -> press.layouts(press.nodes()));
        manyLayouts();
    }

    private static void manyLayouts() {
        LayoutPress press = new LayoutPress();
        int group = press.group(press.line());
        int row = group;
        int due = 2;
        for (int i = 1; i < 30; i++) {
            row = press.pair(row, group);
            due = Math.min(1000000, 2 * due);
            Check.same("layouts of " + i, press.layouts(row), due);
        }
        Check.same("not all ways", press.layouts(press.flat(row)), 1);
    }

    // "a node is too large .. if one of its layouts could tell more than 30 ways"
    private static void tooLargeByWays() {
        LayoutPress press = new LayoutPress();
        int text = press.text(0, 1);
        int node = press.line();
        for (int i = 0; i < 30; i++) {
            node = press.group(node);
        }
        int most = node;
        Check.same("30 groups", press.layouts(most), 31);
        Check.failsState("31 groups", () -> press.group(most));
        Check.failsState("30 groups and one choice", () -> press.choice(text, most));
        int other = press.group(text);
        Check.failsState("30 groups and another one", () -> press.pair(most, other));
        Check.same("refused nodes are none", press.nodes(), 33);
        int others = press.pair(text, most);
        Check.same("30 groups and a text", press.size(others), 2);
        int flat = press.flat(most);
        Check.same("groups that are flat tell nothing", press.group(press.choice(flat, flat)), press.nodes() - 1);
        Check.failsState("broken with 60 ways", () -> press.pair(press.broken(most, text), most));
        int broken = press.broken(text, most);
        Check.same("a broken's second part is flat", press.group(press.pair(broken, broken)), press.nodes() - 1);
        press.print(most, 80, 80, 1);
        Check.same("30 groups flat", press.decisions(), 1);
        press.print(press.pair(press.hard(), press.nest(5, most)), 80, 80, 0);
        Check.same("a way each", press.decisions(), 1);
    }

    private static void tooLargeByChoices() {
        LayoutPress press = new LayoutPress();
        int text = press.text(0, 1);
        int choices = text;
        for (int i = 0; i < 5; i++) {
            choices = press.choice(text, choices);
        }
        Check.same("groups around five choices", groupsAround(press, choices), 25);
        LayoutPress other = new LayoutPress();
        int leaf = other.text(0, 1);
        int two = other.choice(other.choice(leaf, leaf), leaf);
        int flatFour = other.broken(leaf, other.pair(two, two));
        Check.same("groups around four flat choices", groupsAround(other, flatFour), 26);
        LayoutPress third = new LayoutPress();
        int end = third.line();
        int one = third.choice(third.group(third.group(end)), end);
        Check.same("groups around a choice of groups", groupsAround(third, one), 27);
    }

    private static int groupsAround(LayoutPress press, int part) {
        int node = part;
        int groups = 0;
        while (true) {
            try {
                node = press.group(node);
                groups++;
            } catch (IllegalStateException e) {
                return groups;
            }
        }
    }

    // As many nodes around one as there can be, of each kind that has one part
    private static void deepNodes() {
        for (int kind = 0; kind < 5; kind++) {
            LayoutPress press = new LayoutPress();
            int deep = press.text(0, 1);
            while (press.nodes() < 60) {
                deep = switch (kind) {
                    case 0 -> press.nest(20, deep);
                    case 1 -> press.align(deep);
                    case 2 -> press.flat(deep);
                    case 3 -> press.price(1, deep);
                    default -> press.keep(1, deep);
                };
            }
            int cost = kind == 3 ? 59 : 0;
            Check.same("print of a deep node " + kind, press.print(deep, 80, 80, 0), cost);
            Check.sameText("a deep node " + kind, Answers.lines(press), "|a");
            Check.same("a deep node by all " + kind, press.printByAll(deep, 80, 80, 0), cost);
            Check.sameText("a deep node by all " + kind, Answers.lines(press), "|a");
            Check.same("a deep node greedily " + kind, press.printGreedy(deep, 80, 80, 0), cost);
            Check.sameText("a deep node greedily " + kind, Answers.lines(press), "|a");
        }
    }

    private static void farIndentations() {
        LayoutPress press = new LayoutPress();
        int part = press.pair(press.hard(), press.text(0, 1));
        while (press.nodes() < 60) {
            part = press.nest(20, part);
        }
        press.print(part, 80, 80, 0);
        Check.same("57 nests of 20", press.length(1), 1141);
        Check.same("a place beyond 1000", press.placeOf(1), 2140);
        Check.same("a far sign", press.signAt(1, 1140), 'a');
        Check.same("a far blank", press.signAt(1, 1139), ' ');
        LayoutPress other = new LayoutPress();
        int below = other.pair(other.hard(), other.text(0, 1));
        for (int i = 0; i < 50; i++) {
            below = other.nest(i < 25 ? 20 : -20, below);
        }
        other.print(below, 80, 80, 0);
        Check.same("far below and back", other.length(1), 1);
        Check.same("what a far line costs", other.print(other.nest(20, below), 1, 80, 0), 400);
    }
}
