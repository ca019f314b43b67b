/**
 * What print() must keep apart as it looks for the best layout, and printGreedy() as it takes one way
 * behind another: layouts that stand at the same column of an ALIGN, and thirty ways.
 */
public final class SearchTest {
    private SearchTest() {
    }

    public static void main(String[] arguments) {
        linesOfOtherAligns();
        manyLinesOfOtherAligns();
        remarksAtAligns();
        longLinesAtAligns();
        ribbonsAtAligns();
        thirtyWaysInAligns();
        thirtyGreedyWays();
        greedyWaysAtTheEnd();
        Check.end();
    }

    private static String waysOf(LayoutPress press) {
        return Answers.of(press).replaceAll(".* ways | places.*", "");
    }

    // In the outer ALIGN the dear layout and the cheap one come to the same line: the cheap one counts
    private static void linesOfOtherAligns() {
        for (boolean dearAhead : new boolean[] {true, false}) {
            LayoutPress press = new LayoutPress();
            int dear = press.price(7, press.text(0, 3));
            int cheap = press.text(0, 5);
            int head = dearAhead ? press.choice(dear, cheap) : press.choice(cheap, dear);
            int line = press.line();
            int inner = press.align(press.price(5, press.pair(press.text(1, 1), line)));
            int outer = press.align(press.nest(-20, press.pair(press.hard(), press.pair(inner, line))));
            int real = press.price(1, press.pair(head, outer));
            for (int other = 4; other <= 9; other++) {
                int root = press.choice(press.price(other, press.text(2, 1)), real);
                Check.same("a price of " + other + " or of 6", press.print(root, 80, 80, 0), Math.min(other, 6));
                Check.same("its way beside " + other, press.wayAt(0), other <= 6 ? 0 : 1);
                Check.same("the same by all", press.printByAll(root, 80, 80, 0), Math.min(other, 6));
            }
        }
    }

    // The same with four layouts in all orders, of which each may be the best one behind the ALIGN
    private static void manyLinesOfOtherAligns() {
        int[] prices = {9, 7, 3, 0};
        for (int order = 0; order < 256; order++) {
            int[] picked = {order & 3, order >> 2 & 3, order >> 4 & 3, order >> 6};
            LayoutPress press = new LayoutPress();
            int line = press.line();
            int head = -1;
            int least = 9;
            for (int pick : picked) {
                int way = press.price(prices[pick], press.text(pick, 2 + pick));
                head = head < 0 ? way : press.choice(head, way);
                least = Math.min(least, prices[pick]);
            }
            int inner = press.align(press.price(5, press.pair(press.text(5, 1), line)));
            int outer = press.align(press.nest(-20, press.pair(press.hard(), press.pair(inner, press.pair(line, line)))));
            int last = press.pair(press.text(6, 3), outer);
            int root = press.pair(head, press.align(press.pair(last, press.pair(line, press.text(7, 1)))));
            int due = press.printByAll(root, 9, 9, 0);
            String ways = waysOf(press);
            Check.same("order " + order, press.print(root, 9, 9, 0), due);
            Check.sameText("ways of order " + order, waysOf(press), ways);
            Check.same("the least price of order " + order, due, least + 5);
        }
    }

    // A line that ends in a remark, and one as wide that does not, come to an ALIGN that goes on with signs
    private static void remarksAtAligns() {
        for (boolean remarkAhead : new boolean[] {true, false}) {
            LayoutPress press = new LayoutPress();
            int text = press.price(5, press.text(0, 3));
            int remark = press.remark(0, 3);
            int head = remarkAhead ? press.choice(remark, text) : press.choice(text, remark);
            int line = press.line();
            int word = press.text(1, 1);
            int signs = press.align(press.pair(word, line));
            Check.same("signs in the ALIGN", press.print(press.pair(head, signs), 80, 80, 0), 5);
            Check.same("behind the text", press.wayAt(0), remarkAhead ? 1 : 0);
            int ends = press.align(press.pair(line, word));
            Check.same("a line end in the ALIGN", press.print(press.pair(head, ends), 80, 80, 0), 0);
            Check.same("behind the remark", press.wayAt(0), remarkAhead ? 0 : 1);
            int gap = press.align(press.pair(press.group(line), word));
            Check.same("a group in the ALIGN", press.print(press.pair(head, gap), 80, 80, 3), 3);
            Check.sameText("is broken behind the remark", waysOf(press), remarkAhead ? "01" : "11");
        }
    }

    // Two lines as wide, of which one ends with a blank, cost something else as they stand
    private static void longLinesAtAligns() {
        for (int letters = 3; letters <= 12; letters++) {
            longLinesAtAligns(letters, true);
            longLinesAtAligns(letters, false);
        }
    }

    private static void longLinesAtAligns(int letters, boolean blankAhead) {
        LayoutPress press = new LayoutPress();
        int line = press.line();
        int blank = press.price(2, press.pair(press.text(0, letters), press.flat(line)));
        int word = press.text(0, letters + 1);
        int head = blankAhead ? press.choice(blank, word) : press.choice(word, blank);
        int sign = press.pair(press.text(1, 1), line);
        int longest = (letters + 1) * (letters + 1);
        Check.same("a sign more by 1", press.print(press.pair(head, press.align(sign)), 1, 80, 0), longest);
        Check.same("the longer word", press.wayAt(0), blankAhead ? 1 : 0);
        int ends = press.align(press.pair(line, press.align(sign)));
        int shorter = 2 + (letters - 1) * (letters - 1);
        Check.same("a line of its own by 1", press.print(press.pair(head, ends), 1, 80, 0), shorter + longest);
        Check.same("the shorter word", press.wayAt(0), blankAhead ? 0 : 1);
    }

    // Two lines as wide that begin elsewhere: one is longer than the ribbon when signs come
    private static void ribbonsAtAligns() {
        for (int letters = 3; letters <= 12; letters++) {
            ribbonsAtAligns(letters, true);
            ribbonsAtAligns(letters, false);
        }
    }

    private static void ribbonsAtAligns(int letters, boolean longAhead) {
        LayoutPress press = new LayoutPress();
        int line = press.line();
        int longer = press.text(0, letters + 1);
        int shorter = press.price(3, press.pair(press.flat(line), press.text(0, letters)));
        int head = longAhead ? press.choice(longer, shorter) : press.choice(shorter, longer);
        int row = press.pair(head, press.align(press.pair(press.text(1, 2), line)));
        Check.same("beyond the ribbon by 2, or by 1 for 3", press.print(row, 80, letters + 1, 0), 4);
        Check.same("either costs 4: the first way", press.wayAt(0), 0);
        Check.same("beyond the ribbon by 3, or by 2 for 3", press.print(row, 80, letters, 0), 7);
        Check.same("the shorter one", press.wayAt(0), longAhead ? 1 : 0);
        Check.same("beyond the ribbon by 1, or by none for 3", press.print(row, 80, letters + 2, 0), 1);
        Check.same("the longer one", press.wayAt(0), longAhead ? 0 : 1);
    }

    private static int groups(LayoutPress press, int part, int count) {
        int node = part;
        for (int i = 0; i < count; i++) {
            node = press.group(node);
        }
        return node;
    }

    // 29 groups around a hard tell 29 second ways; the last of thirty is the first or the second one
    private static void thirtyWaysInAligns() {
        for (int last = 0; last < 2; last++) {
            LayoutPress press = new LayoutPress();
            int word = press.text(0, 1);
            int dear = press.price(1, word);
            int choice = last == 0 ? press.choice(word, dear) : press.choice(dear, word);
            int many = groups(press, press.hard(), 29);
            int[] roots = {press.pair(many, choice), press.align(press.pair(many, choice)),
                press.pair(press.align(many), choice), press.align(press.pair(many, press.align(choice)))};
            for (int root : roots) {
                Check.same("thirty ways of " + root, press.print(root, 80, 80, 2), 2);
                Check.same("told by " + root, press.decisions(), 30);
                for (int way = 0; way < 30; way++) {
                    Check.same("way " + way + " of " + root, press.wayAt(way), way < 29 ? 1 : last);
                }
                Check.same("the same by all", press.printByAll(root, 80, 80, 2), 2);
                Check.same("way 29 by all", press.wayAt(29), last);
            }
        }
    }

    // "takes at each place the first way if .. otherwise the second way": at the thirtieth place, too
    private static void thirtyGreedyWays() {
        LayoutPress press = new LayoutPress();
        int word = press.text(0, 2);
        int hard = press.hard();
        int fifteen = groups(press, hard, 15);
        Check.same("thirty second ways", press.printGreedy(press.pair(fifteen, fifteen), 80, 80, 1), 2);
        Check.sameText("thirty second ways", waysOf(press), "111111111111111111111111111111");
        Check.same("three lines", press.lines(), 3);
        int fourteen = press.pair(fifteen, groups(press, hard, 14));
        int gap = press.group(press.line());
        int row = press.pair(fourteen, press.pair(word, press.pair(gap, press.pair(word, press.pair(hard, word)))));
        Check.same("the last place is flat", press.printGreedy(row, 5, 80, 1), 3);
        Check.sameText("the last place is flat", Answers.lines(press), "|||aa aa|aa");
        Check.same("way 29 is the first one", press.wayAt(29), 0);
        Check.same("the last place is broken", press.printGreedy(row, 4, 80, 1), 4);
        Check.sameText("the last place is broken", Answers.lines(press), "|||aa|aa|aa");
        Check.same("way 29 is the second one", press.wayAt(29), 1);
    }

    // The look ahead ends with the document, and at a line end that lies behind other ones
    private static void greedyWaysAtTheEnd() {
        LayoutPress press = new LayoutPress();
        int word = press.text(0, 2);
        int gap = press.group(press.line());
        int end = press.pair(word, gap);
        press.printGreedy(end, 2, 80, 1);
        Check.same("a blank at the end", press.wayAt(0), 0);
        press.printGreedy(press.pair(end, word), 5, 5, 1);
        Check.same("a word at the end", press.wayAt(0), 0);
        press.printGreedy(press.pair(end, word), 4, 5, 1);
        Check.same("a word at the end that is too wide", press.wayAt(0), 1);
        int lines = press.pair(end, press.pair(end, press.pair(end, end)));
        press.printGreedy(lines, 6, 80, 1);
        Check.sameText("two words a line", waysOf(press), "0100");
        Check.sameText("two words a line", Answers.lines(press), "|aa aa|aa aa");
    }
}
