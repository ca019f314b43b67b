import java.util.ArrayList;
import java.util.List;

/**
 * Documents that print() has no room for at once: line ends that double the columns in which the last
 * line can begin, words that double how wide it can be, and a tab behind them. All their layouts are
 * gone through here by their columns alone.
 */
public final class PartsTest {
    private static final int GOAL = 70;

    private final LayoutPress press = new LayoutPress();
    private final int digits;
    private final List<Integer> prices = new ArrayList<>();
    private final List<Integer> widths = new ArrayList<>();
    private final int ahead;
    private final boolean aligned;
    private final int document;
    private int width;
    private int ribbon;
    private int linePrice;
    private long bestCost;
    private int bestEnds;
    private int bestWays;

    private PartsTest(int digits, int words, int ahead, boolean aligned) {
        this.digits = digits;
        this.ahead = ahead;
        this.aligned = aligned;
        int soft = press.soft();
        int letter = press.text(0, 1);
        int row = starts(soft);
        int wide = words(letter, words);
        row = press.pair(row, press.pair(press.pair(wide, wide), press.pair(press.tab(GOAL), press.price(900, letter))));
        if (aligned) {
            row = press.align(press.pair(row, press.pair(soft, letter)));
        }
        int gap = press.group(soft);
        for (int i = 0; i < ahead; i++) {
            row = press.pair(gap, row);
        }
        document = row;
    }

    public static void main(String[] arguments) {
        for (int digits = 5; digits <= 7; digits++) {
            for (int ahead = 0; ahead <= 1; ahead++) {
                new PartsTest(digits, 4, ahead, false).printAll();
                new PartsTest(digits, 4, ahead, true).printAll();
            }
        }
        new PartsTest(5, 5, 0, true).printAll();
        new PartsTest(6, 5, 0, false).printAll();
        Check.end();
    }

    // Each digit leaves the column as it is, or ends the line and goes to the right of it.
    private int starts(int soft) {
        int[] tens = {soft, press.nest(20, soft), 0, 0};
        tens[2] = press.nest(20, tens[1]);
        tens[3] = press.nest(20, tens[2]);
        int row = -1;
        for (int digit = 0; digit < digits; digit++) {
            int shift = 1 << digit;
            int part = press.align(press.group(press.nest(shift % 20, tens[shift / 20])));
            row = row < 0 ? part : press.pair(row, part);
        }
        return row;
    }

    // Each word is one letter for a price, or more letters.
    private int words(int letter, int count) {
        int row = -1;
        for (int word = 0; word < count; word++) {
            int letters = 1 + (1 << word);
            int part = press.choice(press.price(1 << word, letter), press.text(1, letters));
            row = row < 0 ? part : press.pair(row, part);
            prices.add(1 << word);
            widths.add(letters);
        }
        prices.addAll(prices);
        widths.addAll(widths);
        return row;
    }

    private void printAll() {
        int[][] terms = {{80, 80, 0}, {80, 80, 3}, {80, 30, 0}, {60, 50, 1}, {1, 1, 0}, {1, 60, 100}, {30, 40, 20}};
        for (int[] by : terms) {
            width = by[0];
            ribbon = by[1];
            linePrice = by[2];
            findBest();
            String what = digits + " digits, " + widths.size() + " words, " + ahead + " ahead, aligned " + aligned
                    + " by " + width + " " + ribbon + " " + linePrice + ": ";
            Check.same(what + "cost", press.print(document, width, ribbon, linePrice), bestCost);
            Check.same(what + "lines", press.lines(), 1 + bestEnds);
            int ways = ahead + digits + widths.size();
            Check.same(what + "ways", press.decisions(), ways);
            for (int way = 0; way < ways; way++) {
                Check.same(what + "way " + way, press.wayAt(way), bestWays >> (ways - 1 - way) & 1);
            }
        }
    }

    private long excess(int columns, int most) {
        long beyond = Math.max(0, columns - most);
        return beyond * beyond;
    }

    private void findBest() {
        bestCost = Long.MAX_VALUE;
        int places = digits + widths.size();
        // what is ahead is flat: a line end costs more, or is one more
        for (int ways = 0; ways < 1 << places; ways++) {
            int start = 0;
            int ends = aligned ? 1 : 0;
            for (int digit = 0; digit < digits; digit++) {
                int way = ways >> (places - 1 - digit) & 1;
                start += way << digit;
                ends += way;
            }
            int column = start;
            long cost = 900;
            for (int word = 0; word < widths.size(); word++) {
                boolean isWide = (ways >> (widths.size() - 1 - word) & 1) != 0;
                column += isWide ? widths.get(word) : 1;
                cost += isWide ? 0 : prices.get(word);
            }
            int end = Math.max(GOAL, column + 1) + 1;
            cost += excess(end, width) + excess(end - start, ribbon) + (long) linePrice * ends;
            if (cost < bestCost || cost == bestCost && ends < bestEnds) {
                bestCost = cost;
                bestEnds = ends;
                bestWays = ways;
            }
        }
    }
}
