import java.util.Arrays;

/**
 * A pretty printer: documents of nodes, laid out at least cost, greedily or by going through all
 * layouts, and broken into pages at least cost.
 */
public final class LayoutPress {
    /** There is none. */
    public static final int NONE = -1;

    private static final int FIRST = 0;
    private static final int SECOND = 1;
    private static final int MOST_NODES = 60;
    private static final int MOST_SIZE = 30;
    private static final int MOST_WAYS = 30;
    private static final int MOST_LINES = MOST_SIZE + 1;
    private static final int MOST_SIGNS = 20;
    private static final int MOST_COLUMN = 80;
    private static final int MOST_SHIFT = 20;
    private static final int MOST_COST = 1000;
    private static final int MOST_LINE_PRICE = 100;
    private static final int MOST_HEIGHT = 20;
    private static final int MOST_COUNTED = 1000000;
    private static final int MOST_LISTED = 100;
    private static final int LETTERS = 26;
    private static final int TABLES = 4;
    private static final int TABLE_COLUMNS = 5;
    private static final int LINE_FACTOR = 1000;

    private final Node[] made;
    private int madeCount;
    private final Terms terms;
    private final Search search;
    private final Hand hand;
    private final Pages pages;
    private Sheet printed;

    public LayoutPress() {
        made = new Node[MOST_NODES];
        madeCount = 0;
        terms = new Terms();
        search = new Search(terms);
        hand = new Hand(terms);
        pages = new Pages();
        printed = new Sheet();
    }

    // ---- nodes

    public int text(int letter, int count) throws IllegalArgumentException, IllegalStateException {
        checkRange(letter, 0, LETTERS - 1);
        checkRange(count, 1, MOST_SIGNS);
        return add(new Node(Kind.TEXT, letter, count));
    }

    public int remark(int letter, int count) throws IllegalArgumentException, IllegalStateException {
        checkRange(letter, 0, LETTERS - 1);
        checkRange(count, 1, MOST_SIGNS);
        return add(new Node(Kind.REMARK, letter, count));
    }

    public int line() throws IllegalStateException {
        return add(new Node(Kind.LINE, 0, 1));
    }

    public int soft() throws IllegalStateException {
        return add(new Node(Kind.SOFT, 0, 0));
    }

    public int hard() throws IllegalStateException {
        return add(new Node(Kind.HARD, 0, 0));
    }

    public int tab(int column) throws IllegalArgumentException, IllegalStateException {
        checkRange(column, 0, MOST_COLUMN);
        return add(new Node(Kind.TAB, column, 0));
    }

    public int pair(int first, int second) throws IndexOutOfBoundsException, IllegalStateException {
        return add(new Node(Kind.PAIR, 0, nodeOf(first), nodeOf(second)));
    }

    public int nest(int by, int part)
            throws IndexOutOfBoundsException, IllegalArgumentException, IllegalStateException {
        Node inner = nodeOf(part);
        checkRange(by, -MOST_SHIFT, MOST_SHIFT);
        return add(new Node(Kind.NEST, by, inner, null));
    }

    public int align(int part) throws IndexOutOfBoundsException, IllegalStateException {
        return add(new Node(Kind.ALIGN, 0, nodeOf(part), null));
    }

    public int group(int part) throws IndexOutOfBoundsException, IllegalStateException {
        return add(new Node(Kind.GROUP, 0, nodeOf(part), null));
    }

    public int choice(int first, int second) throws IndexOutOfBoundsException, IllegalStateException {
        return add(new Node(Kind.CHOICE, 0, nodeOf(first), nodeOf(second)));
    }

    public int flat(int part) throws IndexOutOfBoundsException, IllegalStateException {
        return add(new Node(Kind.FLAT, 0, nodeOf(part), null));
    }

    public int broken(int first, int second) throws IndexOutOfBoundsException, IllegalStateException {
        return add(new Node(Kind.BROKEN, 0, nodeOf(first), nodeOf(second)));
    }

    public int price(int cost, int part)
            throws IndexOutOfBoundsException, IllegalArgumentException, IllegalStateException {
        Node inner = nodeOf(part);
        checkRange(cost, 0, MOST_COST);
        return add(new Node(Kind.PRICE, cost, inner, null));
    }

    public int keep(int cost, int part)
            throws IndexOutOfBoundsException, IllegalArgumentException, IllegalStateException {
        Node inner = nodeOf(part);
        checkRange(cost, 0, MOST_COST);
        return add(new Node(Kind.KEEP, cost, inner, null));
    }

    public int cell(int table, int column, int part)
            throws IndexOutOfBoundsException, IllegalArgumentException, IllegalStateException {
        Node inner = nodeOf(part);
        checkRange(table, 0, TABLES - 1);
        checkRange(column, 0, TABLE_COLUMNS - 1);
        if (inner.barred) {
            throw new IllegalStateException("what is in the part can stand in no cell");
        }
        return add(new Node(Kind.CELL, table * TABLE_COLUMNS + column, inner, null));
    }

    public int nodes() {
        return madeCount;
    }

    public int size(int node) throws IndexOutOfBoundsException {
        return nodeOf(node).leaves;
    }

    public int layouts(int node) throws IndexOutOfBoundsException {
        return nodeOf(node).layoutCount;
    }

    // ---- printing

    public int print(int node, int width, int ribbon, int price)
            throws IndexOutOfBoundsException, IllegalArgumentException, IllegalStateException {
        Node root = nodeOf(node);
        agreeOn(root, width, ribbon, price);
        if (!search.findBest(root)) {
            throw new IllegalStateException("all layouts are impossible");
        }
        hand.write(root, search.bestWays, search.bestTold);
        return takeSheet();
    }

    public int printByAll(int node, int width, int ribbon, int price)
            throws IndexOutOfBoundsException, IllegalArgumentException, IllegalStateException {
        Node root = nodeOf(node);
        agreeOn(root, width, ribbon, price);
        if (root.layoutCount > MOST_LISTED) {
            throw new IllegalStateException("there are too many layouts");
        }
        if (!hand.writeBestOfAll(root)) {
            throw new IllegalStateException("all layouts are impossible");
        }
        return takeSheet();
    }

    public int printGreedy(int node, int width, int ribbon, int price)
            throws IndexOutOfBoundsException, IllegalArgumentException, IllegalStateException {
        Node root = nodeOf(node);
        agreeOn(root, width, ribbon, price);
        if (!hand.writeGreedily(root)) {
            throw new IllegalStateException("the greedy layout is impossible");
        }
        return takeSheet();
    }

    // ---- what was printed last

    public int lines() {
        return printed.lineCount;
    }

    public int length(int line) throws IndexOutOfBoundsException {
        checkLine(line);
        return printed.endOf(line);
    }

    public char signAt(int line, int column) throws IndexOutOfBoundsException {
        checkColumn(line, column);
        Node owner = printed.ownerOf(line, column);
        return owner == null ? ' ' : owner.sign();
    }

    public int nodeAt(int line, int column) throws IndexOutOfBoundsException {
        checkColumn(line, column);
        Node owner = printed.ownerOf(line, column);
        return owner == null ? NONE : owner.number;
    }

    public int placeOf(int node) throws IndexOutOfBoundsException {
        return printed.startOf(nodeOf(node));
    }

    public int decisions() {
        return printed.told;
    }

    public int wayAt(int decision) throws IndexOutOfBoundsException {
        if (decision < 0 || decision >= printed.told) {
            throw new IndexOutOfBoundsException("there is no such decision");
        }
        return wayIn(printed.ways, decision);
    }

    // ---- pages

    public int breakPages(int height) throws IllegalArgumentException, IllegalStateException {
        checkRange(height, 1, MOST_HEIGHT);
        if (printed.lineCount == 0) {
            throw new IllegalStateException("nothing was printed");
        }
        return pages.breakSheet(printed, height);
    }

    public int pageOf(int line) throws IndexOutOfBoundsException, IllegalStateException {
        checkLine(line);
        if (!pages.areBroken) {
            throw new IllegalStateException("the lines were not broken into pages");
        }
        return pages.pageWith(line);
    }

    // ---- what the calls share

    private static void checkRange(int value, int least, int most) {
        if (value < least || value > most) {
            throw new IllegalArgumentException("an argument is out of its range");
        }
    }

    private void checkLine(int line) {
        if (line < 0 || line >= printed.lineCount) {
            throw new IndexOutOfBoundsException("there is no such line");
        }
    }

    private void checkColumn(int line, int column) {
        checkLine(line);
        if (column < 0 || column >= printed.endOf(line)) {
            throw new IndexOutOfBoundsException("there is no such column");
        }
    }

    private Node nodeOf(int node) {
        if (node < 0 || node >= madeCount || node >= made.length) {
            throw new IndexOutOfBoundsException("there is no such node");
        }
        Node found = made[node];
        if (found == null) {
            throw new IndexOutOfBoundsException("there is no such node");
        }
        return found;
    }

    private int add(Node node) {
        if (madeCount >= made.length) {
            throw new IllegalStateException("there are as many nodes as there can be");
        }
        if (node.leaves > MOST_SIZE || node.mostWays > MOST_WAYS) {
            throw new IllegalStateException("the node would be too large");
        }
        node.take(madeCount);
        made[madeCount] = node;
        madeCount++;
        return node.number;
    }

    private void agreeOn(Node root, int width, int ribbon, int price) {
        checkRange(width, 1, MOST_COLUMN);
        checkRange(ribbon, 1, MOST_COLUMN);
        checkRange(price, 0, MOST_LINE_PRICE);
        terms.set(width, ribbon, price);
        terms.measureCells(made, root);
    }

    private int takeSheet() {
        printed = hand.exchange(printed);
        pages.forget();
        return (int) terms.costOf(printed);
    }

    // Ways are bits, the first one highest, so that of two layouts the lesser number is the one
    // that takes the first way where they first differ.
    private static int wayBit(int place) {
        return place < 0 || place >= MOST_WAYS ? 0 : 1 << (MOST_WAYS - 1 - place);
    }

    private static int wayIn(int ways, int place) {
        return (ways & wayBit(place)) == 0 ? FIRST : SECOND;
    }

    /** What nodes there are: whether one can stand in no cell, and whether it can't be flat at all. */
    private enum Kind {
        TEXT(false, false), REMARK(true, true), LINE(false, false), SOFT(false, false),
        HARD(true, true), TAB(true, false), PAIR(false, false), NEST(false, false),
        ALIGN(false, false), GROUP(false, false), CHOICE(true, false), FLAT(false, false),
        BROKEN(false, false), PRICE(false, false), KEEP(false, false), CELL(true, false);

        private final boolean notInCells;
        private final boolean neverFlat;

        Kind(boolean notInCells, boolean neverFlat) {
            this.notInCells = notInCells;
            this.neverFlat = neverFlat;
        }

        boolean endsLine() {
            return this == LINE || this == SOFT || this == HARD;
        }
    }

    /** A node, with what can be told of it before it is printed. */
    private static final class Node {
        private final Kind kind;
        // The letter, column, shift or cost, or which column of which table.
        private final int value;
        private final Node first;
        private final Node second;
        private int number;
        private int leaves;
        // How wide it is when it is printed flat; for TEXT and REMARK how many signs it has.
        private int flatWidth;
        // Whether it holds what can't be printed flat within a cell.
        private boolean barred;
        // Whether it can end a line, not printed flat, with the indentation that it is given.
        private boolean indents;
        private int mostWays;
        private int mostFlatWays;
        private int layoutCount;
        private int flatLayoutCount;
        // A bit for each node that it is made of, itself included.
        private long within;

        Node(Kind kind, int value, int flatWidth) {
            this.kind = kind;
            this.value = value;
            this.first = null;
            this.second = null;
            this.leaves = 1;
            this.flatWidth = flatWidth;
            this.barred = kind.notInCells;
            this.indents = kind.endsLine();
            this.layoutCount = 1;
            this.flatLayoutCount = 1;
        }

        Node(Kind kind, int value, Node first, Node second) {
            this.kind = kind;
            this.value = value;
            this.first = first;
            this.second = second;
            if (first != null && second != null) {
                measureTwo(first, second);
            } else if (first != null) {
                measureOne(first);
            }
        }

        private void measureOne(Node part) {
            boolean makesFlat = kind == Kind.FLAT || kind == Kind.CELL;
            leaves = part.leaves;
            flatWidth = part.flatWidth;
            barred = kind.notInCells || part.barred;
            indents = !makesFlat && kind != Kind.ALIGN && part.indents;
            within = part.within;
            mostFlatWays = part.mostFlatWays;
            flatLayoutCount = part.flatLayoutCount;
            if (kind == Kind.GROUP) {
                mostWays = 1 + Math.max(part.mostFlatWays, part.mostWays);
                layoutCount = atMostCounted((long) part.flatLayoutCount + part.layoutCount);
            } else {
                mostWays = makesFlat ? part.mostFlatWays : part.mostWays;
                layoutCount = makesFlat ? part.flatLayoutCount : part.layoutCount;
            }
        }

        private void measureTwo(Node one, Node two) {
            leaves = one.leaves + two.leaves;
            within = one.within | two.within;
            indents = one.indents || kind != Kind.BROKEN && two.indents;
            if (kind == Kind.PAIR) {
                flatWidth = one.flatWidth + two.flatWidth;
                barred = one.barred || two.barred;
                mostWays = one.mostWays + two.mostWays;
                mostFlatWays = one.mostFlatWays + two.mostFlatWays;
                layoutCount = atMostCounted((long) one.layoutCount * two.layoutCount);
                flatLayoutCount = atMostCounted((long) one.flatLayoutCount * two.flatLayoutCount);
            } else if (kind == Kind.CHOICE) {
                barred = true;
                mostWays = 1 + Math.max(one.mostWays, two.mostWays);
                mostFlatWays = 1 + Math.max(one.mostFlatWays, two.mostFlatWays);
                layoutCount = atMostCounted((long) one.layoutCount + two.layoutCount);
                flatLayoutCount = atMostCounted((long) one.flatLayoutCount + two.flatLayoutCount);
            } else {
                flatWidth = two.flatWidth;
                barred = two.barred;
                mostWays = one.mostWays;
                mostFlatWays = two.mostFlatWays;
                layoutCount = one.layoutCount;
                flatLayoutCount = two.flatLayoutCount;
            }
        }

        private static int atMostCounted(long count) {
            return count < MOST_COUNTED ? (int) count : MOST_COUNTED;
        }

        void take(int place) {
            number = place;
            within = within | bit();
        }

        long bit() {
            return 1L << number;
        }

        char sign() {
            return (char) ((kind == Kind.REMARK ? 'A' : 'a') + value);
        }
    }

    /** What a printing keeps to: the width, the ribbon, the price of lines, how wide cells are. */
    private static final class Terms {
        private int width;
        private int ribbon;
        private int linePrice;
        private final int[] widest;

        Terms() {
            widest = new int[TABLES * TABLE_COLUMNS];
        }

        void set(int newWidth, int newRibbon, int newLinePrice) {
            width = newWidth;
            ribbon = newRibbon;
            linePrice = newLinePrice;
        }

        void measureCells(Node[] all, Node root) {
            Arrays.fill(widest, 0);
            for (int i = 0; i < all.length; i++) {
                Node node = all[i];
                if (node != null && node.kind == Kind.CELL && (root.within & node.bit()) != 0) {
                    widen(node);
                }
            }
        }

        private void widen(Node cell) {
            int column = cell.value;
            if (column >= 0 && column < widest.length && widest[column] < cell.flatWidth) {
                widest[column] = cell.flatWidth;
            }
        }

        /** How many blanks a cell has behind its part. */
        int padding(Node cell) {
            int column = cell.value;
            return column < 0 || column >= widest.length ? 0 : widest[column] - cell.flatWidth;
        }

        boolean holds(int start, int end) {
            return end <= width && (start == NONE || end - start <= ribbon);
        }

        long lineCost(int start, int end) {
            long beyondWidth = Math.max(0, end - width);
            long beyondRibbon = start == NONE ? 0 : Math.max(0, end - start - ribbon);
            return beyondWidth * beyondWidth + beyondRibbon * beyondRibbon;
        }

        long costOf(Sheet sheet) {
            long cost = sheet.prices + (long) linePrice * (sheet.lineCount - 1);
            for (int line = 0; line < sheet.lineCount; line++) {
                cost += lineCost(sheet.firstOf(line), sheet.endOf(line));
            }
            return cost;
        }
    }

    /** The lines of one layout, as they are written from left to right. */
    private static final class Sheet {
        // 0 as long as nothing was written.
        private int lineCount;
        private int column;
        private boolean hasRemark;
        private boolean isImpossible;
        private long prices;
        private int ways;
        private int told;
        private final int[] firsts;
        private final int[] ends;
        // What it costs to end a page behind a line, for the KEEPs.
        private final int[] cutCosts;
        private final int[] starts;
        private int ownerCount;
        private final Node[] owners;
        private final int[] ownerLines;
        private final int[] ownerColumns;

        Sheet() {
            firsts = new int[MOST_LINES];
            ends = new int[MOST_LINES];
            cutCosts = new int[MOST_LINES];
            starts = new int[MOST_NODES];
            Arrays.fill(starts, NONE);
            owners = new Node[MOST_SIZE];
            ownerLines = new int[MOST_SIZE];
            ownerColumns = new int[MOST_SIZE];
        }

        void clear() {
            lineCount = 0;
            isImpossible = false;
            prices = 0;
            ways = 0;
            told = 0;
            ownerCount = 0;
            Arrays.fill(starts, NONE);
            beginLine(0);
        }

        void beginLine(int indentation) {
            if (lineCount < MOST_LINES) {
                firsts[lineCount] = NONE;
                ends[lineCount] = 0;
                cutCosts[lineCount] = 0;
                lineCount++;
            }
            column = Math.max(0, indentation);
            hasRemark = false;
        }

        int present() {
            return lineCount - 1;
        }

        void beginNode(Node node) {
            int at = node.number;
            if (at >= 0 && at < starts.length && starts[at] == NONE) {
                starts[at] = LINE_FACTOR * present() + column;
            }
        }

        void putSigns(Node node) {
            int line = present();
            if (hasRemark) {
                isImpossible = true;
            }
            if (line < 0 || line >= MOST_LINES || ownerCount >= owners.length) {
                return;
            }
            owners[ownerCount] = node;
            ownerLines[ownerCount] = line;
            ownerColumns[ownerCount] = column;
            ownerCount++;
            if (firsts[line] == NONE) {
                firsts[line] = column;
            }
            column += node.flatWidth;
            ends[line] = column;
            hasRemark = node.kind == Kind.REMARK;
        }

        void putBlanks(int count) {
            column += count;
        }

        void putTab(int goal) {
            column = Math.max(goal, column + 1);
        }

        void keepTogether(int fromLine, int cost) {
            for (int line = Math.max(0, fromLine); line < lineCount - 1 && line < MOST_LINES; line++) {
                cutCosts[line] += cost;
            }
        }

        void tell(int way) {
            if (way == SECOND) {
                ways = ways | wayBit(told);
            }
            told++;
        }

        int firstOf(int line) {
            return line < 0 || line >= lineCount || line >= firsts.length ? NONE : firsts[line];
        }

        int endOf(int line) {
            return line < 0 || line >= lineCount || line >= ends.length ? 0 : ends[line];
        }

        int cutCostOf(int line) {
            return line < 0 || line >= lineCount || line >= cutCosts.length ? 0 : cutCosts[line];
        }

        int startOf(Node node) {
            int at = node.number;
            return at < 0 || at >= starts.length ? NONE : starts[at];
        }

        /** The node whose sign is at a place, or null. */
        Node ownerOf(int line, int place) {
            for (int i = 0; i < ownerCount && i < owners.length; i++) {
                Node owner = owners[i];
                int behind = place - ownerColumns[i];
                if (owner != null && ownerLines[i] == line && behind >= 0 && behind < owner.flatWidth) {
                    return owner;
                }
            }
            return null;
        }
    }

    /** Writes one layout at a time on a sheet of its own. */
    private static final class Hand {
        private final Terms terms;
        private Sheet sheet;
        // The ways that are settled, how many, and which way all later places take.
        private int plan;
        private int planned;
        private int laterWay;
        // Writing stops at the first line end behind this place.
        private int watched;
        private boolean hasStopped;

        Hand(Terms terms) {
            this.terms = terms;
            this.sheet = new Sheet();
        }

        /** Hands out the sheet that was written, and takes another one for the next time. */
        Sheet exchange(Sheet other) {
            Sheet written = sheet;
            sheet = other;
            return written;
        }

        void write(Node root, int ways, int count) {
            layOut(root, ways, count, FIRST, NONE);
        }

        private void layOut(Node root, int ways, int count, int later, int watchedPlace) {
            plan = ways;
            planned = count;
            laterWay = later;
            watched = watchedPlace;
            hasStopped = false;
            sheet.clear();
            put(root, false, 0, 0);
        }

        /** Whether there is a layout that is not impossible; if so, the best one is written. */
        boolean writeBestOfAll(Node root) {
            boolean found = false;
            long bestCost = 0;
            int bestLines = 0;
            int bestWays = 0;
            int bestTold = 0;
            int ways = 0;
            int settled = 0;
            for (int turn = 0; turn < MOST_LISTED; turn++) {
                layOut(root, ways, settled, FIRST, NONE);
                long cost = terms.costOf(sheet);
                boolean isLess = !found || cost < bestCost
                        || cost == bestCost && sheet.lineCount < bestLines;
                if (!sheet.isImpossible && isLess) {
                    found = true;
                    bestCost = cost;
                    bestLines = sheet.lineCount;
                    bestWays = sheet.ways;
                    bestTold = sheet.told;
                }
                int turned = lastFirstWay();
                if (turned == NONE) {
                    break;
                }
                // The ways behind the turned one are all second ones: they begin anew.
                ways = (sheet.ways & -wayBit(turned)) | wayBit(turned);
                settled = turned + 1;
            }
            if (found) {
                layOut(root, bestWays, bestTold, FIRST, NONE);
            }
            return found;
        }

        private int lastFirstWay() {
            for (int place = sheet.told - 1; place >= 0; place--) {
                if (wayIn(sheet.ways, place) == FIRST) {
                    return place;
                }
            }
            return NONE;
        }

        /** Whether the greedy layout is not impossible; it is written then. */
        boolean writeGreedily(Node root) {
            int ways = 0;
            for (int place = 0; place <= MOST_WAYS; place++) {
                layOut(root, ways, place + 1, SECOND, place);
                if (sheet.told <= place) {
                    break;
                }
                if (sheet.isImpossible || !presentLineFits()) {
                    ways = ways | wayBit(place);
                }
            }
            return !sheet.isImpossible;
        }

        private boolean presentLineFits() {
            int line = sheet.present();
            return terms.holds(sheet.firstOf(line), sheet.endOf(line));
        }

        private int decide() {
            int way = sheet.told < planned ? wayIn(plan, sheet.told) : laterWay;
            sheet.tell(way);
            return way;
        }

        private void endLine(int indentation) {
            if (watched != NONE && sheet.told > watched) {
                hasStopped = true;
            } else {
                sheet.beginLine(indentation);
            }
        }

        private void put(Node node, boolean flat, int indentation, int depth) {
            if (node == null || hasStopped || depth >= MOST_NODES) {
                return;
            }
            sheet.beginNode(node);
            switch (node.kind) {
                case PAIR:
                    put(node.first, flat, indentation, depth + 1);
                    put(node.second, flat, indentation, depth + 1);
                    break;
                case NEST:
                    put(node.first, flat, indentation + node.value, depth + 1);
                    break;
                case ALIGN:
                    put(node.first, flat, sheet.column, depth + 1);
                    break;
                case GROUP:
                    put(node.first, flat || decide() == FIRST, indentation, depth + 1);
                    break;
                case CHOICE:
                    put(decide() == FIRST ? node.first : node.second, flat, indentation, depth + 1);
                    break;
                case FLAT:
                    put(node.first, true, indentation, depth + 1);
                    break;
                case BROKEN:
                    put(flat ? node.second : node.first, flat, indentation, depth + 1);
                    break;
                case PRICE:
                    sheet.prices += node.value;
                    put(node.first, flat, indentation, depth + 1);
                    break;
                case KEEP:
                    int line = sheet.present();
                    put(node.first, flat, indentation, depth + 1);
                    sheet.keepTogether(line, node.value);
                    break;
                case CELL:
                    put(node.first, true, indentation, depth + 1);
                    sheet.putBlanks(terms.padding(node));
                    break;
                default:
                    putLeaf(node, flat, indentation);
                    break;
            }
        }

        private void putLeaf(Node node, boolean flat, int indentation) {
            if (flat && node.kind.neverFlat) {
                sheet.isImpossible = true;
            } else if (node.kind == Kind.TAB) {
                sheet.putTab(node.value);
            } else if (!node.kind.endsLine()) {
                sheet.putSigns(node);
            } else if (flat) {
                sheet.putBlanks(node.flatWidth);
            } else {
                endLine(indentation);
            }
        }
    }

    /**
     * Printings that have come to the same place of a document, as rows of a stack. Of those from
     * which all goes on alike, the best one alone is kept.
     */
    private static final class States {
        private static final int FEW = 32;
        private static final int MOST_SLOT_BITS = 28;
        // More than there can be line ends.
        private static final int COST_WEIGHT = MOST_LINES + 1;

        private int top;
        // Whether one was dropped for its weight.
        private boolean hasDropped;
        private int[] scope;
        private int[] column;
        private int[] first;
        private int[] end;
        private int[] hasRemark;
        // Its cost, and behind that its line ends, so that the lesser weight is the better one.
        private long[] weight;
        private int[] ways;
        private int[] told;
        // A scope is where an ALIGN sets the indentation: its column, NONE if that does not matter
        // any more, and the scope around it. Scope 0 is the document itself.
        private int scopeCount;
        private int[] base;
        private int[] outer;
        private int[] slots;
        // The next state of those that are at the same place.
        private int[] next;

        States() {
            scope = new int[FEW];
            column = new int[FEW];
            first = new int[FEW];
            end = new int[FEW];
            hasRemark = new int[FEW];
            weight = new long[FEW];
            ways = new int[FEW];
            told = new int[FEW];
            base = new int[FEW];
            outer = new int[FEW];
            slots = new int[2 * FEW];
            next = new int[FEW];
        }

        /** Begins with one state: the beginning of a document. */
        void begin() {
            top = 1;
            hasDropped = false;
            scope[0] = 0;
            column[0] = 0;
            first[0] = NONE;
            end[0] = 0;
            hasRemark[0] = 0;
            weight[0] = 0;
            ways[0] = 0;
            told[0] = 0;
            scopeCount = 1;
            base[0] = 0;
            outer[0] = 0;
        }

        private void makeRoom(int more) {
            int wanted = top + more;
            if (wanted <= scope.length) {
                return;
            }
            int length = Math.max(wanted, 2 * scope.length);
            scope = Arrays.copyOf(scope, length);
            column = Arrays.copyOf(column, length);
            first = Arrays.copyOf(first, length);
            end = Arrays.copyOf(end, length);
            hasRemark = Arrays.copyOf(hasRemark, length);
            weight = Arrays.copyOf(weight, length);
            ways = Arrays.copyOf(ways, length);
            told = Arrays.copyOf(told, length);
            next = Arrays.copyOf(next, length);
        }

        private void copyState(int from, int to) {
            if (from == to) {
                return;
            }
            scope[to] = scope[from];
            column[to] = column[from];
            first[to] = first[from];
            end[to] = end[from];
            hasRemark[to] = hasRemark[from];
            weight[to] = weight[from];
            ways[to] = ways[from];
            told[to] = told[from];
        }

        /** Drops the states from one on in whose line no sign can stand any more. */
        void dropRemarked(int from) {
            int kept = from;
            for (int i = from; i < top; i++) {
                if (hasRemark[i] == 0) {
                    copyState(i, kept);
                    kept++;
                }
            }
            top = kept;
        }

        /** Drops the states from one on whose weight is above the limit. */
        void dropAbove(long limit, int from) {
            int kept = from;
            for (int i = from; i < top; i++) {
                if (weight[i] <= limit) {
                    copyState(i, kept);
                    kept++;
                } else {
                    hasDropped = true;
                }
            }
            top = kept;
        }

        /** Puts copies of the states from one up to another one on top. */
        void repeat(int from, int until) {
            makeRoom(until - from);
            for (int i = from; i < until; i++) {
                copyState(i, top);
                top++;
            }
        }

        /** Puts all states from one on where others were. */
        void slide(int from, int to) {
            int target = to;
            for (int i = from; i < top; i++) {
                copyState(i, target);
                target++;
            }
            top = target;
        }

        void tell(int from, int way) {
            for (int i = from; i < top; i++) {
                if (way == SECOND) {
                    ways[i] = ways[i] | wayBit(told[i]);
                }
                told[i]++;
            }
        }

        /** Drops, of the states from one on, those that go on no better than another one. */
        void merge(int from) {
            if (top - from < 2) {
                return;
            }
            int slotCount = clearSlots(top - from);
            int kept = from;
            for (int i = from; i < top; i++) {
                int slot = slotOfPlace(i, slotCount);
                int head = slots[slot] - 1;
                if (head < from || !isSettled(i, head, kept - from)) {
                    copyState(i, kept);
                    next[kept] = head;
                    slots[slot] = kept + 1;
                    kept++;
                }
            }
            top = kept;
        }

        /** Whether one of the kept states at the same place makes this one needless, or gives way. */
        private boolean isSettled(int at, int head, int most) {
            int other = head;
            for (int step = 0; step < most && other >= 0; step++) {
                boolean isOtherBetter = isBetter(other, at);
                if (isOtherBetter && goesOnNoWorse(other, at)) {
                    return true;
                }
                if (!isOtherBetter && goesOnNoWorse(at, other)) {
                    copyState(at, other);
                    return true;
                }
                other = next[other];
            }
            return false;
        }

        /** Whether, of two states at the same place, what follows costs the one no more in any case. */
        private boolean goesOnNoWorse(int one, int other) {
            return end[one] <= end[other] && hasRemark[one] <= hasRemark[other]
                    && (first[one] == NONE || first[other] != NONE && first[one] >= first[other]);
        }

        private int clearSlots(int count) {
            int slotCount = 2;
            for (int bits = 1; bits < MOST_SLOT_BITS && slotCount < 2 * count; bits++) {
                slotCount = 2 * slotCount;
            }
            if (slotCount > slots.length) {
                slots = new int[slotCount];
            } else {
                Arrays.fill(slots, 0, slotCount, 0);
            }
            return slotCount;
        }

        private static int mix(int sum, int next) {
            int mixed = (sum ^ next) * 0x9E3779B1;
            return mixed ^ (mixed >>> 15);
        }

        /** The slot of the states that are at the place of this one, or else an empty one. */
        private int slotOfPlace(int at, int slotCount) {
            int slot = mix(scope[at], column[at]) & (slotCount - 1);
            for (int probe = 0; probe < slotCount; probe++) {
                int other = slots[slot] - 1;
                if (other < 0 || column[at] == column[other] && scope[at] == scope[other]) {
                    break;
                }
                slot = (slot + 1) & (slotCount - 1);
            }
            return slot;
        }

        void addCost(int at, long cost) {
            weight[at] += COST_WEIGHT * cost;
        }

        void addLineEnd(int at) {
            weight[at]++;
        }

        boolean isBetter(int one, int other) {
            if (weight[one] != weight[other]) {
                return weight[one] < weight[other];
            }
            return ways[one] < ways[other];
        }

        int baseOf(int state) {
            int at = scope[state];
            return at < 0 || at >= base.length ? 0 : base[at];
        }

        private int outerOf(int state) {
            int at = scope[state];
            return at < 0 || at >= outer.length ? 0 : outer[at];
        }

        /** Takes the states from one on into an ALIGN. */
        void enterScopes(int from) {
            int slotCount = clearSlots(top - from);
            for (int i = from; i < top; i++) {
                scope[i] = scopeWith(column[i], scope[i], slotCount);
            }
        }

        /** Takes the states from one on out of an ALIGN, ahead of which there were so many scopes. */
        void leaveScopes(int from, int scopesBefore) {
            for (int i = from; i < top; i++) {
                scope[i] = outerOf(i);
            }
            scopeCount = scopesBefore;
            merge(from);
        }

        /** Makes the states from one on alike that differ only in where their ALIGN begins. */
        void forgetBases(int from) {
            int slotCount = clearSlots(top - from);
            for (int i = from; i < top; i++) {
                if (baseOf(i) != NONE) {
                    scope[i] = scopeWith(NONE, outerOf(i), slotCount);
                }
            }
        }

        private int scopeWith(int newBase, int around, int slotCount) {
            int slot = mix(around, newBase) & (slotCount - 1);
            for (int probe = 0; probe < slotCount; probe++) {
                int other = slots[slot] - 1;
                if (other < 0) {
                    break;
                }
                if (base[other] == newBase && outer[other] == around) {
                    return other;
                }
                slot = (slot + 1) & (slotCount - 1);
            }
            if (scopeCount >= base.length) {
                base = Arrays.copyOf(base, 2 * base.length);
                outer = Arrays.copyOf(outer, 2 * outer.length);
            }
            base[scopeCount] = newBase;
            outer[scopeCount] = around;
            scopeCount++;
            slots[slot] = scopeCount;
            return scopeCount - 1;
        }
    }

    /** Finds the best layout, all layouts side by side, from the left to the right. */
    private static final class Search {
        // No layout weighs as much as the limit of the last one of so many turns.
        private static final int MOST_TURNS = 18;

        private final Terms terms;
        private final States states;
        private int bestWays;
        private int bestTold;
        private long limit;

        Search(Terms terms) {
            this.terms = terms;
            this.states = new States();
        }

        /**
         * Whether there is a layout that is not impossible; the best one's ways are kept then.
         * Most states weigh far more than the best layout, so it is looked for below a low limit
         * first, and below higher ones until it is there, or nothing was dropped for its weight.
         */
        boolean findBest(Node root) {
            limit = 0;
            for (int turn = 0; turn < MOST_TURNS; turn++) {
                states.begin();
                advance(root, false, 0, true, 0, 0);
                endLastLines();
                if (states.top > 0 || !states.hasDropped) {
                    break;
                }
                limit = 8 * limit + 7;
            }
            if (states.top > 0) {
                keepBest();
            }
            return states.top > 0;
        }

        private void endLastLines() {
            for (int i = 0; i < states.top; i++) {
                states.addCost(i, terms.lineCost(states.first[i], states.end[i]));
            }
            states.dropAbove(limit, 0);
        }

        private void keepBest() {
            int best = 0;
            for (int i = 1; i < states.top; i++) {
                if (states.isBetter(i, best)) {
                    best = i;
                }
            }
            bestWays = states.ways[best];
            bestTold = states.told[best];
        }

        /**
         * Takes the states from one on through a node. The shift is that of the NESTs around it;
         * the indentation is needed if a line end behind the node can still come back to it.
         */
        private void advance(Node node, boolean flat, int shift, boolean needed, int from, int depth) {
            if (node == null || states.top <= from || depth >= MOST_NODES) {
                return;
            }
            switch (node.kind) {
                case PAIR:
                    boolean neededBehind = needed || !flat && node.second != null && node.second.indents;
                    advance(node.first, flat, shift, neededBehind, from, depth + 1);
                    advance(node.second, flat, shift, needed, from, depth + 1);
                    break;
                case NEST:
                    advance(node.first, flat, shift + node.value, needed, from, depth + 1);
                    break;
                case ALIGN:
                    advanceAlign(node, flat, needed, from, depth);
                    break;
                case GROUP:
                case CHOICE:
                    fork(node, flat, shift, needed, from, depth);
                    break;
                case FLAT:
                    advance(node.first, true, shift, needed, from, depth + 1);
                    break;
                case BROKEN:
                    advance(flat ? node.second : node.first, flat, shift, needed, from, depth + 1);
                    break;
                case PRICE:
                    pay(node.value, from);
                    advance(node.first, flat, shift, needed, from, depth + 1);
                    break;
                case KEEP:
                    advance(node.first, flat, shift, needed, from, depth + 1);
                    break;
                case CELL:
                    advance(node.first, true, shift, needed, from, depth + 1);
                    putBlanks(terms.padding(node), from);
                    break;
                default:
                    advanceLeaf(node, flat, shift, needed, from);
                    break;
            }
        }

        private void advanceAlign(Node node, boolean flat, boolean needed, int from, int depth) {
            Node part = node.first;
            if (flat || part == null || !part.indents) {
                advance(part, flat, 0, needed, from, depth + 1);
                return;
            }
            int scopesBefore = states.scopeCount;
            states.enterScopes(from);
            advance(part, false, 0, false, from, depth + 1);
            states.leaveScopes(from, scopesBefore);
        }

        private void fork(Node node, boolean flat, int shift, boolean needed, int from, int depth) {
            boolean isGroup = node.kind == Kind.GROUP;
            if (isGroup && flat) {
                advance(node.first, true, shift, needed, from, depth + 1);
                return;
            }
            int until = states.top;
            states.repeat(from, until);
            states.tell(until, FIRST);
            advance(node.first, flat || isGroup, shift, needed, until, depth + 1);
            int middle = from + states.top - until;
            states.repeat(from, until);
            // The states that came here are above once more: their first place can be used again.
            states.slide(until, from);
            states.tell(middle, SECOND);
            advance(isGroup ? node.first : node.second, flat, shift, needed, middle, depth + 1);
            if (!flat && !needed && node.indents) {
                states.forgetBases(from);
            }
            states.merge(from);
        }

        private void pay(int cost, int from) {
            for (int i = from; i < states.top; i++) {
                states.addCost(i, cost);
            }
            states.dropAbove(limit, from);
        }

        private void advanceLeaf(Node node, boolean flat, int shift, boolean needed, int from) {
            if (flat && node.kind.neverFlat) {
                states.top = from;
            } else if (node.kind == Kind.TAB) {
                putTab(node.value, from);
            } else if (!node.kind.endsLine()) {
                states.dropRemarked(from);
                putSigns(node, from);
            } else if (flat) {
                putBlanks(node.flatWidth, from);
            } else {
                endLines(shift, from);
                if (!needed) {
                    states.forgetBases(from);
                }
            }
            states.merge(from);
        }

        private void putSigns(Node node, int from) {
            int remark = node.kind == Kind.REMARK ? 1 : 0;
            for (int i = from; i < states.top; i++) {
                if (states.first[i] == NONE) {
                    states.first[i] = states.column[i];
                }
                states.column[i] += node.flatWidth;
                states.end[i] = states.column[i];
                states.hasRemark[i] = remark;
            }
        }

        private void putBlanks(int count, int from) {
            for (int i = from; i < states.top; i++) {
                states.column[i] += count;
            }
        }

        private void putTab(int goal, int from) {
            for (int i = from; i < states.top; i++) {
                states.column[i] = Math.max(goal, states.column[i] + 1);
            }
        }

        private void endLines(int shift, int from) {
            for (int i = from; i < states.top; i++) {
                states.addCost(i, terms.linePrice + terms.lineCost(states.first[i], states.end[i]));
                states.addLineEnd(i);
                states.column[i] = Math.max(0, states.baseOf(i) + shift);
                states.first[i] = NONE;
                states.end[i] = 0;
                states.hasRemark[i] = 0;
            }
            states.dropAbove(limit, from);
        }
    }

    /** The pages of a sheet. */
    private static final class Pages {
        private boolean areBroken;
        private final int[] pageOfLine;
        // Of the lines from one on: what they cost, on how many pages, and how many on the first.
        private final int[] cost;
        private final int[] count;
        private final int[] firstHeight;

        Pages() {
            pageOfLine = new int[MOST_LINES];
            cost = new int[MOST_LINES + 1];
            count = new int[MOST_LINES + 1];
            firstHeight = new int[MOST_LINES + 1];
        }

        void forget() {
            areBroken = false;
        }

        int pageWith(int line) {
            return line < 0 || line >= pageOfLine.length ? NONE : pageOfLine[line];
        }

        int breakSheet(Sheet sheet, int height) {
            int lineCount = Math.min(sheet.lineCount, MOST_LINES);
            cost[lineCount] = 0;
            count[lineCount] = 0;
            for (int line = lineCount - 1; line >= 0; line--) {
                choosePage(sheet, line, lineCount, height);
            }
            numberLines(lineCount);
            areBroken = true;
            return cost[0];
        }

        private void choosePage(Sheet sheet, int line, int lineCount, int height) {
            firstHeight[line] = 0;
            for (int lines = Math.min(height, lineCount - line); lines > 0; lines--) {
                int behind = line + lines;
                int free = height - lines;
                int pageCost = behind == lineCount ? 0 : free * free + sheet.cutCostOf(behind - 1);
                int newCost = pageCost + cost[behind];
                int newCount = 1 + count[behind];
                boolean isLess = newCost < cost[line] || newCost == cost[line] && newCount < count[line];
                if (firstHeight[line] == 0 || isLess) {
                    cost[line] = newCost;
                    count[line] = newCount;
                    firstHeight[line] = lines;
                }
            }
        }

        private void numberLines(int lineCount) {
            int page = -1;
            int left = 0;
            for (int line = 0; line < lineCount; line++) {
                if (left == 0) {
                    page++;
                    left = firstHeight[line];
                }
                pageOfLine[line] = page;
                left--;
            }
        }
    }
}
