import java.util.ArrayList;
import java.util.Arrays;
import java.util.List;

/**
 * The document's words once more, as plainly as they can be put: all layouts are told as texts of
 * "0" and "1", and each is printed sign by sign.
 */
final class Reference {
    enum Kind {
        TEXT, REMARK, LINE, SOFT, HARD, TAB, PAIR, NEST, ALIGN, GROUP, CHOICE, FLAT, BROKEN, PRICE, KEEP, CELL
    }

    /** A node; a and b are its numbers as the call that makes it has them. */
    record Node(Kind kind, int a, int b, int first, int second) {
    }

    /** What one layout prints. */
    static final class Printout {
        final List<StringBuilder> signs = new ArrayList<>();
        final List<List<Integer>> owners = new ArrayList<>();
        final int[] places = new int[60];
        final List<int[]> keeps = new ArrayList<>();
        final List<Integer> decisionLines = new ArrayList<>();
        final List<Integer> impossibleLines = new ArrayList<>();
        String ways = "";
        long prices = 0;

        int line() {
            return signs.size() - 1;
        }

        int column() {
            return signs.get(line()).length();
        }

        void put(char sign, int owner) {
            signs.get(line()).append(sign);
            owners.get(line()).add(owner);
        }

        void blanks(int count) {
            for (int i = 0; i < count; i++) {
                put(' ', -1);
            }
        }

        void newLine(int indentation) {
            signs.add(new StringBuilder());
            owners.add(new ArrayList<>());
            blanks(indentation);
        }

        int length(int line) {
            return signs.get(line).toString().stripTrailing().length();
        }

        int firstSign(int line) {
            String text = signs.get(line).toString();
            return text.length() - text.stripLeading().length();
        }

        boolean fits(int line, int width, int ribbon) {
            int end = length(line);
            return end == 0 || end <= width && end - firstSign(line) <= ribbon;
        }

        long cost(int width, int ribbon, int price) {
            long cost = prices + (long) price * line();
            for (int line = 0; line < signs.size(); line++) {
                int end = length(line);
                if (end > 0) {
                    long beyond = Math.max(0, end - width);
                    long longer = Math.max(0, end - firstSign(line) - ribbon);
                    cost += beyond * beyond + longer * longer;
                }
            }
            return cost;
        }
    }

    final List<Node> nodes = new ArrayList<>();
    private int[][] widest;
    private String plan;

    int size(int node) {
        Node it = nodes.get(node);
        if (it.first < 0) {
            return 1;
        }
        return size(it.first) + (it.second < 0 ? 0 : size(it.second));
    }

    /** All layouts of a node, in the order of their ways. */
    List<String> ways(int node, boolean flat) {
        Node it = nodes.get(node);
        List<String> all = new ArrayList<>();
        switch (it.kind) {
            case TEXT, REMARK, LINE, SOFT, HARD, TAB -> all.add("");
            case PAIR -> {
                List<String> second = ways(it.second, flat);
                for (String one : ways(it.first, flat)) {
                    for (String two : second) {
                        all.add(one + two);
                    }
                }
            }
            case GROUP -> {
                if (flat) {
                    all.addAll(ways(it.first, true));
                } else {
                    addBehind("0", ways(it.first, true), all);
                    addBehind("1", ways(it.first, false), all);
                }
            }
            case CHOICE -> {
                addBehind("0", ways(it.first, flat), all);
                addBehind("1", ways(it.second, flat), all);
            }
            case FLAT, CELL -> all.addAll(ways(it.first, true));
            case BROKEN -> all.addAll(ways(flat ? it.second : it.first, flat));
            default -> all.addAll(ways(it.first, flat));
        }
        return all;
    }

    private static void addBehind(String way, List<String> ways, List<String> all) {
        for (String rest : ways) {
            all.add(way + rest);
        }
    }

    int mostWays(int node, boolean flat) {
        Node it = nodes.get(node);
        return switch (it.kind) {
            case TEXT, REMARK, LINE, SOFT, HARD, TAB -> 0;
            case PAIR -> mostWays(it.first, flat) + mostWays(it.second, flat);
            case GROUP -> flat ? mostWays(it.first, true)
                    : 1 + Math.max(mostWays(it.first, true), mostWays(it.first, false));
            case CHOICE -> 1 + Math.max(mostWays(it.first, flat), mostWays(it.second, flat));
            case FLAT, CELL -> mostWays(it.first, true);
            case BROKEN -> flat ? mostWays(it.second, true) : mostWays(it.first, false);
            default -> mostWays(it.first, flat);
        };
    }

    /** How many layouts there are, without telling them all. */
    double count(int node, boolean flat) {
        Node it = nodes.get(node);
        return switch (it.kind) {
            case TEXT, REMARK, LINE, SOFT, HARD, TAB -> 1;
            case PAIR -> count(it.first, flat) * count(it.second, flat);
            case GROUP -> flat ? count(it.first, true) : count(it.first, true) + count(it.first, false);
            case CHOICE -> count(it.first, flat) + count(it.second, flat);
            case FLAT, CELL -> count(it.first, true);
            case BROKEN -> flat ? count(it.second, true) : count(it.first, false);
            default -> count(it.first, flat);
        };
    }

    /** Whether a node, printed flat, has something that a cell refuses. */
    boolean refusedByCells(int node) {
        Node it = nodes.get(node);
        return switch (it.kind) {
            case CHOICE, TAB, HARD, REMARK, CELL -> true;
            case TEXT, LINE, SOFT -> false;
            case PAIR -> refusedByCells(it.first) || refusedByCells(it.second);
            case BROKEN -> refusedByCells(it.second);
            default -> refusedByCells(it.first);
        };
    }

    /** Prints one layout; ways that are not told are second ones. */
    Printout printout(int root, String ways) {
        plan = ways;
        widest = new int[4][5];
        findCells(root, new boolean[nodes.size()]);
        Printout out = new Printout();
        Arrays.fill(out.places, -1);
        out.newLine(0);
        put(root, false, 0, out);
        return out;
    }

    private void findCells(int node, boolean[] seen) {
        if (node < 0 || seen[node]) {
            return;
        }
        seen[node] = true;
        Node it = nodes.get(node);
        findCells(it.first, seen);
        findCells(it.second, seen);
        if (it.kind == Kind.CELL) {
            widest[it.a][it.b] = Math.max(widest[it.a][it.b], cellWidth(it));
        }
    }

    private int cellWidth(Node cell) {
        Printout alone = new Printout();
        alone.newLine(0);
        put(cell.first, true, 0, alone);
        return alone.column();
    }

    private boolean takesFirst(Printout out) {
        char way = out.ways.length() < plan.length() ? plan.charAt(out.ways.length()) : '1';
        out.ways += way;
        out.decisionLines.add(out.line());
        return way == '0';
    }

    private void signs(Node it, int node, char from, Printout out) {
        if (out.signs.get(out.line()).chars().anyMatch(Character::isUpperCase)) {
            out.impossibleLines.add(out.line());
        }
        for (int i = 0; i < it.b; i++) {
            out.put((char) (from + it.a), node);
        }
    }

    private void put(int node, boolean flat, int indentation, Printout out) {
        Node it = nodes.get(node);
        if (out.places[node] < 0) {
            out.places[node] = 1000 * out.line() + out.column();
        }
        switch (it.kind) {
            case TEXT -> signs(it, node, 'a', out);
            case REMARK -> {
                if (flat) {
                    out.impossibleLines.add(out.line());
                }
                signs(it, node, 'A', out);
            }
            case LINE, SOFT, HARD -> lineEnd(it.kind, flat, indentation, out);
            case TAB -> out.blanks(it.a > out.column() ? it.a - out.column() : 1);
            case PAIR -> {
                put(it.first, flat, indentation, out);
                put(it.second, flat, indentation, out);
            }
            case NEST -> put(it.first, flat, indentation + it.a, out);
            case ALIGN -> put(it.first, flat, out.column(), out);
            case GROUP -> put(it.first, flat || takesFirst(out), indentation, out);
            case CHOICE -> put(takesFirst(out) ? it.first : it.second, flat, indentation, out);
            case FLAT -> put(it.first, true, indentation, out);
            case BROKEN -> put(flat ? it.second : it.first, flat, indentation, out);
            case PRICE -> {
                out.prices += it.a;
                put(it.first, flat, indentation, out);
            }
            case KEEP -> {
                int from = out.line();
                put(it.first, flat, indentation, out);
                out.keeps.add(new int[] {from, out.line(), it.a});
            }
            default -> {
                int from = out.column();
                put(it.first, true, indentation, out);
                out.blanks(from + widest[it.a][it.b] - out.column());
            }
        }
    }

    private static void lineEnd(Kind kind, boolean flat, int indentation, Printout out) {
        if (!flat) {
            out.newLine(Math.max(0, indentation));
        } else if (kind == Kind.HARD) {
            out.impossibleLines.add(out.line());
        } else if (kind == Kind.LINE) {
            out.blanks(1);
        }
    }

    /** The best layout, or null. */
    Printout best(int root, int width, int ribbon, int price) {
        Printout best = null;
        List<String> all = ways(root, false);
        all.sort(null);
        for (String ways : all) {
            Printout one = printout(root, ways);
            if (one.impossibleLines.isEmpty() && (best == null || isLess(one, best, width, ribbon, price))) {
                best = one;
            }
        }
        return best;
    }

    private static boolean isLess(Printout one, Printout other, int width, int ribbon, int price) {
        long difference = one.cost(width, ribbon, price) - other.cost(width, ribbon, price);
        return difference < 0 || difference == 0 && one.line() < other.line();
    }

    /** The greedy layout, or null. */
    Printout greedy(int root, int width, int ribbon) {
        String ways = "";
        Printout out = printout(root, ways);
        while (ways.length() < out.ways.length()) {
            Printout tried = printout(root, ways + "0");
            int line = tried.decisionLines.get(ways.length());
            boolean takesFirst = tried.fits(line, width, ribbon);
            for (int impossible : tried.impossibleLines) {
                takesFirst &= impossible > line;
            }
            ways += takesFirst ? "0" : "1";
            out = printout(root, ways);
        }
        return out.impossibleLines.isEmpty() ? out : null;
    }

    /** The cost of the best pages, and behind it how many lines each of them has. */
    static int[] pages(Printout out, int height) {
        int[] best = null;
        int count = out.signs.size();
        for (int cuts = 0; cuts < 1 << (count - 1); cuts++) {
            int[] pages = pagesCutAt(out, height, cuts);
            if (pages != null && (best == null || arePagesLess(pages, best))) {
                best = pages;
            }
        }
        return best;
    }

    private static int[] pagesCutAt(Printout out, int height, int cuts) {
        int count = out.signs.size();
        int[] pages = new int[Integer.bitCount(cuts) + 2];
        int page = 1;
        for (int line = 0; line < count; line++) {
            pages[page]++;
            if (pages[page] > height) {
                return null;
            }
            if ((cuts >> line & 1) != 0) {
                pages[0] += (height - pages[page]) * (height - pages[page]);
                for (int[] keep : out.keeps) {
                    pages[0] += keep[0] <= line && line + 1 <= keep[1] ? keep[2] : 0;
                }
                page++;
            }
        }
        return pages;
    }

    private static boolean arePagesLess(int[] one, int[] other) {
        if (one[0] != other[0]) {
            return one[0] < other[0];
        }
        if (one.length != other.length) {
            return one.length < other.length;
        }
        for (int page = 1; page < one.length; page++) {
            if (one[page] != other[page]) {
                return one[page] > other[page];
            }
        }
        return false;
    }
}
