/** Promises 31 and 32: pages, and what a KEEP costs there. */
public final class PagesTest {
    private PagesTest() {
    }

    public static void main(String[] arguments) {
        wrongCalls();
        freeLines();
        fewestPages();
        firstPageHasTheMost();
        secondPageHasTheMost();
        keeps();
        keepsEnds();
        keepsAddUp();
        keepsThatAreNotPrinted();
        oneLineMore();
        manyLines();
        printingForgetsPages();
        Check.end();
    }

    /** Prints so many lines, each with one sign. */
    private static LayoutPress lines(int count) {
        LayoutPress press = new LayoutPress();
        int text = press.text(0, 1);
        int end = press.hard();
        int row = text;
        for (int i = 1; i < count; i++) {
            row = press.pair(row, end);
        }
        press.print(row, 80, 80, 0);
        Check.same("lines", press.lines(), count);
        return press;
    }

    private static String pages(LayoutPress press) {
        StringBuilder all = new StringBuilder();
        for (int line = 0; line < press.lines(); line++) {
            all.append((char) ('0' + press.pageOf(line)));
        }
        return all.toString();
    }

    private static void wrongCalls() {
        LayoutPress fresh = new LayoutPress();
        Check.failsState("nothing was printed", () -> fresh.breakPages(1));
        Check.failsArgument("height ahead of state", () -> fresh.breakPages(0));
        Check.failsIndex("no line", () -> fresh.pageOf(0));
        LayoutPress press = lines(3);
        Check.failsArgument("height 0", () -> press.breakPages(0));
        Check.failsArgument("height -1", () -> press.breakPages(-1));
        Check.failsArgument("height 21", () -> press.breakPages(21));
        Check.failsState("no pages yet", () -> press.pageOf(0));
        Check.failsIndex("line ahead of state", () -> press.pageOf(3));
        Check.failsIndex("line -1 ahead of state", () -> press.pageOf(-1));
        press.breakPages(20);
        Check.same("page of the last line", press.pageOf(2), 0);
        Check.failsIndex("line 3", () -> press.pageOf(3));
        Check.failsIndex("line -1", () -> press.pageOf(-1));
    }

    private static void freeLines() {
        LayoutPress press = lines(5);
        Check.same("height 1", press.breakPages(1), 0);
        Check.sameText("height 1", pages(press), "01234");
        Check.same("height 2", press.breakPages(2), 0);
        Check.sameText("height 2", pages(press), "00112");
        Check.same("height 5", press.breakPages(5), 0);
        Check.sameText("height 5", pages(press), "00000");
        Check.same("height 20", press.breakPages(20), 0);
        Check.sameText("the latest pages count", pages(press), "00000");
        Check.same("height 4", press.breakPages(4), 0);
        Check.sameText("the last page is free", pages(press), "00001");
    }

    // A KEEP of cost 0 leaves all as it is; several pages that cost nothing: the fewest
    private static void fewestPages() {
        LayoutPress press = new LayoutPress();
        int text = press.text(0, 1);
        int end = press.hard();
        int row = press.keep(0, press.pair(text, press.pair(end, press.pair(text, end))));
        press.print(press.pair(row, row), 80, 80, 0);
        Check.same("5 lines by 3", press.breakPages(3), 0);
        Check.sameText("5 lines by 3", pages(press), "00011");
        int kept = press.keep(1, press.pair(text, press.pair(end, press.pair(end, end))));
        press.print(kept, 80, 80, 0);
        // 3 and 1 lines cost 1, as 2 and 2 lines would cost 1 and 1 more
        Check.same("4 lines by 3", press.breakPages(3), 1);
        Check.sameText("4 lines by 3", pages(press), "0001");
        // lines 0 to 2 cost a cut behind 0 or 1: 2 pages of height 2 cost as much as 1 and 2 lines
        int two = press.pair(end, press.keep(1, press.pair(end, end)));
        press.print(press.pair(two, end), 80, 80, 0);
        Check.same("5 lines by 2", press.breakPages(2), 1);
        Check.sameText("three pages, not four", pages(press), "00112");
    }

    private static void firstPageHasTheMost() {
        LayoutPress press = new LayoutPress();
        int end = press.hard();
        // a cut behind line 3 is dear: 3 lines and 2, or 2 and 3 lines
        int four = press.pair(press.pair(end, end), press.keep(9, end));
        press.print(four, 80, 80, 0);
        Check.same("4 lines by 3", press.breakPages(3), 1);
        Check.sameText("4 lines by 3", pages(press), "0011");
        // 3 pages of 7 lines by 3, where the cut behind 3 lines costs as much as one line less
        int seven = press.pair(press.pair(press.pair(end, end), press.keep(1, end)), press.pair(end, press.pair(end, end)));
        press.print(seven, 80, 80, 0);
        Check.same("7 lines by 3", press.breakPages(3), 1);
        Check.sameText("7 lines by 3", pages(press), "0001112");
    }

    // "of these those whose first page has the most lines, then the second one, and so on"
    private static void secondPageHasTheMost() {
        LayoutPress press = new LayoutPress();
        int end = press.hard();
        int three = press.pair(end, press.pair(end, end));
        int kept = press.keep(1, end);
        // 3, 3 and 1 lines cost as much as 3, 2 and 2
        press.print(press.pair(press.pair(three, press.pair(end, end)), kept), 80, 80, 0);
        Check.same("7 lines by 3", press.breakPages(3), 1);
        Check.sameText("7 lines by 3", pages(press), "0001112");
        // 3, 3, 3 and 1 lines cost as much as 3, 3, 2 and 2
        press.print(press.pair(three, press.pair(press.pair(three, press.pair(end, end)), kept)), 80, 80, 0);
        Check.same("10 lines by 3", press.breakPages(3), 1);
        Check.sameText("10 lines by 3", pages(press), "0001112223");
        // a cut behind 6 lines is dear: 3, 2 and 2 lines, as 2, 3 and 2 lines cost the same
        int dear = press.keep(9, end);
        press.print(press.pair(press.pair(three, press.pair(end, end)), dear), 80, 80, 0);
        Check.same("7 lines by 3, a dear cut", press.breakPages(3), 1);
        Check.sameText("7 lines by 3, a dear cut", pages(press), "0001122");
    }

    // "from the line in which its printing begins to that in which it ends"
    private static void keepsEnds() {
        for (int cost : new int[] {0, 1, 1000}) {
            LayoutPress press = new LayoutPress();
            int text = press.text(0, 1);
            int end = press.hard();
            int inner = press.pair(text, press.pair(end, press.pair(text, press.pair(end, text))));
            int outer = press.pair(end, press.pair(press.keep(cost, inner), end));
            press.print(outer, 80, 80, 0);
            Check.same("lines with a KEEP in lines 1 to 3", press.lines(), 5);
            Check.same("both cuts in it, none at its ends, by " + cost, press.breakPages(1), 2 * cost);
            press.print(press.flat(press.pair(text, press.keep(cost, press.pair(press.line(), text)))), 80, 80, 0);
            Check.same("a flat KEEP by " + cost, press.breakPages(1), 0);
            int one = press.keep(cost, end);
            press.print(press.pair(end, press.pair(one, end)), 80, 80, 0);
            Check.same("a KEEP around a line end by " + cost, press.breakPages(1), cost);
            press.print(press.pair(end, press.pair(press.keep(cost, text), end)), 80, 80, 0);
            Check.same("a KEEP in one line by " + cost, press.breakPages(1), 0);
        }
    }

    private static void keeps() {
        LayoutPress press = new LayoutPress();
        int text = press.text(0, 1);
        int end = press.hard();
        int block = press.keep(50, press.pair(text, press.pair(end, press.pair(text, end))));
        press.print(press.pair(text, press.pair(end, press.pair(block, text))), 80, 80, 0);
        Check.same("4 lines", press.lines(), 4);
        Check.same("the kept lines 1 to 3 by 3", press.breakPages(3), 4);
        Check.sameText("the kept lines 1 to 3 by 3", pages(press), "0111");
        Check.same("no room for them by 2", press.breakPages(2), 50);
        Check.sameText("no room for them by 2", pages(press), "0011");
        Check.same("room for all", press.breakPages(4), 0);
        int cheap = press.keep(3, press.pair(text, press.pair(end, press.pair(text, end))));
        press.print(press.pair(text, press.pair(end, press.pair(cheap, text))), 80, 80, 0);
        Check.same("a cheap one is cut", press.breakPages(3), 3);
        Check.sameText("a cheap one is cut", pages(press), "0001");
        // a KEEP that ends behind its line end holds the next line, too
        int row = press.keep(7, press.pair(text, end));
        press.print(press.pair(row, row), 80, 80, 0);
        Check.same("each place is within a KEEP", press.breakPages(1), 14);
        press.print(press.keep(7, text), 80, 80, 0);
        Check.same("one line", press.breakPages(1), 0);
    }

    private static void keepsAddUp() {
        LayoutPress press = new LayoutPress();
        int end = press.hard();
        int inner = press.keep(2, end);
        int outer = press.keep(30, press.pair(inner, inner));
        press.print(press.pair(outer, press.flat(press.keep(400, press.soft()))), 80, 80, 0);
        Check.same("a cut costs for all KEEPs", press.breakPages(1), 64);
        press.print(press.keep(1000, press.keep(1000, press.keep(1000, outer))), 80, 80, 0);
        Check.same("dear cuts", press.breakPages(1), 6064);
        Check.same("no cut", press.breakPages(3), 0);
        Check.same("one cut", press.breakPages(2), 3032);
        Check.sameText("one cut, late", pages(press), "001");
    }

    private static void keepsThatAreNotPrinted() {
        LayoutPress press = new LayoutPress();
        int end = press.hard();
        int kept = press.keep(9, end);
        press.print(press.pair(press.broken(end, kept), press.choice(end, kept)), 80, 80, 0);
        Check.same("KEEPs that are not printed", press.breakPages(1), 0);
        press.print(press.pair(press.broken(kept, end), press.choice(kept, end)), 80, 80, 0);
        Check.same("KEEPs that are printed", press.breakPages(1), 18);
    }

    // "at most as many as the height tells"
    private static void oneLineMore() {
        for (int height = 1; height <= 20; height++) {
            LayoutPress press = lines(height);
            Check.same("as many lines as the height " + height, press.breakPages(height), 0);
            Check.same("on one page", press.pageOf(height - 1), 0);
            LayoutPress more = lines(height + 1);
            Check.same("one line more than the height " + height, more.breakPages(height), 0);
            Check.same("on the first page", more.pageOf(height - 1), 0);
            Check.same("on the second page", more.pageOf(height), 1);
        }
    }

    private static void manyLines() {
        LayoutPress press = lines(30);
        for (int height = 1; height <= 20; height++) {
            Check.same("30 lines by " + height, press.breakPages(height), 0);
            for (int line = 0; line < 30; line++) {
                Check.same("line " + line + " by " + height, press.pageOf(line), line / height);
            }
        }
        LayoutPress most = new LayoutPress();
        int end = most.hard();
        int row = end;
        for (int i = 1; i < 30; i++) {
            row = most.pair(row, end);
        }
        most.print(row, 80, 80, 100);
        Check.same("31 lines", most.lines(), 31);
        Check.same("31 pages", most.breakPages(1), 0);
        Check.same("the last page", most.pageOf(30), 30);
    }

    private static void printingForgetsPages() {
        LayoutPress press = lines(3);
        press.breakPages(2);
        Check.failsState("a printing that throws", () -> press.print(press.flat(1), 80, 80, 0));
        Check.same("pages stand", press.pageOf(2), 1);
        press.print(0, 80, 80, 0);
        Check.failsState("pages are gone", () -> press.pageOf(0));
        press.breakPages(2);
        press.printByAll(0, 80, 80, 0);
        Check.failsState("pages are gone by all", () -> press.pageOf(0));
        press.breakPages(2);
        press.printGreedy(0, 80, 80, 0);
        Check.failsState("pages are gone greedily", () -> press.pageOf(0));
        Check.same("pages again", press.breakPages(1), 0);
        Check.same("page again", press.pageOf(0), 0);
    }
}
