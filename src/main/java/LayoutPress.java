import java.util.Arrays;

/**
 * A pretty printer: documents of nodes, laid out at least cost, greedily or by going through all
 * layouts, and broken into pages at least cost.
 */
public final class LayoutPress {
    /** There is none. */
    public static final int NONE = -1;

    private static final int FIRST = 0;
    private static final int SECOND = 1;
    private static final int MOST_NODES = 60;
    private static final int MOST_SIZE = 30;
    private static final int MOST_WAYS = 30;
    private static final int MOST_LINES = MOST_SIZE + 1;
    private static final int MOST_SIGNS = 20;
    private static final int MOST_COLUMN = 80;
    private static final int MOST_SHIFT = 20;
    private static final int MOST_COST = 1000;
    private static final int MOST_LINE_PRICE = 100;
    private static final int MOST_HEIGHT = 20;
    private static final int MOST_COUNTED = 1000000;
    private static final int MOST_LISTED = 100;
    private static final int LETTERS = 26;
    private static final int TABLES = 4;
    private static final int TABLE_COLUMNS = 5;
    private static final int LINE_FACTOR = 1000;

    private final Node[] made;
    private int madeCount;
    private final Terms terms;
    private final Search search;
    private final Hand hand;
    private final Pages pages;
    private Sheet printed;

    public LayoutPress() {
        made = new Node[MOST_NODES];
        madeCount = 0;
        terms = new Terms();
        search = new Search(terms);
        hand = new Hand(terms);
        pages = new Pages();
        printed = new Sheet();
    }

    // ---- nodes

    public int text(int letter, int count) throws IllegalArgumentException, IllegalStateException {
        checkRange(letter, 0, LETTERS - 1);
        checkRange(count, 1, MOST_SIGNS);
        return add(new Node(Kind.TEXT, letter, count));
    }

    public int remark(int letter, int count) throws IllegalArgumentException, IllegalStateException {
        checkRange(letter, 0, LETTERS - 1);
        checkRange(count, 1, MOST_SIGNS);
        return add(new Node(Kind.REMARK, letter, count));
    }

    public int line() throws IllegalStateException {
        return add(new Node(Kind.LINE, 0, 1));
    }

    public int soft() throws IllegalStateException {
        return add(new Node(Kind.SOFT, 0, 0));
    }

    public int hard() throws IllegalStateException {
        return add(new Node(Kind.HARD, 0, 0));
    }

    public int tab(int column) throws IllegalArgumentException, IllegalStateException {
        checkRange(column, 0, MOST_COLUMN);
        return add(new Node(Kind.TAB, column, 0));
    }

    public int pair(int first, int second) throws IndexOutOfBoundsException, IllegalStateException {
        return add(new Node(Kind.PAIR, 0, nodeOf(first), nodeOf(second)));
    }

    public int nest(int by, int part)
            throws IndexOutOfBoundsException, IllegalArgumentException, IllegalStateException {
        Node inner = nodeOf(part);
        checkRange(by, -MOST_SHIFT, MOST_SHIFT);
        return add(new Node(Kind.NEST, by, inner, null));
    }

    public int align(int part) throws IndexOutOfBoundsException, IllegalStateException {
        return add(new Node(Kind.ALIGN, 0, nodeOf(part), null));
    }

    public int group(int part) throws IndexOutOfBoundsException, IllegalStateException {
        return add(new Node(Kind.GROUP, 0, nodeOf(part), null));
    }

    public int choice(int first, int second) throws IndexOutOfBoundsException, IllegalStateException {
        return add(new Node(Kind.CHOICE, 0, nodeOf(first), nodeOf(second)));
    }

    public int flat(int part) throws IndexOutOfBoundsException, IllegalStateException {
        return add(new Node(Kind.FLAT, 0, nodeOf(part), null));
    }

    public int broken(int first, int second) throws IndexOutOfBoundsException, IllegalStateException {
        return add(new Node(Kind.BROKEN, 0, nodeOf(first), nodeOf(second)));
    }

    public int price(int cost, int part)
            throws IndexOutOfBoundsException, IllegalArgumentException, IllegalStateException {
        Node inner = nodeOf(part);
        checkRange(cost, 0, MOST_COST);
        return add(new Node(Kind.PRICE, cost, inner, null));
    }

    public int keep(int cost, int part)
            throws IndexOutOfBoundsException, IllegalArgumentException, IllegalStateException {
        Node inner = nodeOf(part);
        checkRange(cost, 0, MOST_COST);
        return add(new Node(Kind.KEEP, cost, inner, null));
    }

    public int cell(int table, int column, int part)
            throws IndexOutOfBoundsException, IllegalArgumentException, IllegalStateException {
        Node inner = nodeOf(part);
        checkRange(table, 0, TABLES - 1);
        checkRange(column, 0, TABLE_COLUMNS - 1);
        if (inner.barred) {
            throw new IllegalStateException("what is in the part can stand in no cell");
        }
        return add(new Node(Kind.CELL, table * TABLE_COLUMNS + column, inner, null));
    }

    public int nodes() {
        return madeCount;
    }

    public int size(int node) throws IndexOutOfBoundsException {
        return nodeOf(node).leaves;
    }

    public int layouts(int node) throws IndexOutOfBoundsException {
        return nodeOf(node).layoutCount;
    }

    // ---- printing

    public int print(int node, int width, int ribbon, int price)
            throws IndexOutOfBoundsException, IllegalArgumentException, IllegalStateException {
        Node root = nodeOf(node);
        agreeOn(root, width, ribbon, price);
        if (!search.findBest(root)) {
            throw new IllegalStateException("all layouts are impossible");
        }
        hand.write(root, search.bestWays, search.bestTold);
        return takeSheet();
    }

    public int printByAll(int node, int width, int ribbon, int price)
            throws IndexOutOfBoundsException, IllegalArgumentException, IllegalStateException {
        Node root = nodeOf(node);
        agreeOn(root, width, ribbon, price);
        if (root.layoutCount > MOST_LISTED) {
            throw new IllegalStateException("there are too many layouts");
        }
        if (!hand.writeBestOfAll(root)) {
            throw new IllegalStateException("all layouts are impossible");
        }
        return takeSheet();
    }

    public int printGreedy(int node, int width, int ribbon, int price)
            throws IndexOutOfBoundsException, IllegalArgumentException, IllegalStateException {
        Node root = nodeOf(node);
        agreeOn(root, width, ribbon, price);
        if (!hand.writeGreedily(root)) {
            throw new IllegalStateException("the greedy layout is impossible");
        }
        return takeSheet();
    }

    // ---- what was printed last

    public int lines() {
        return printed.lineCount;
    }

    public int length(int line) throws IndexOutOfBoundsException {
        checkLine(line);
        return printed.endOf(line);
    }

    public char signAt(int line, int column) throws IndexOutOfBoundsException {
        checkColumn(line, column);
        Node owner = printed.ownerOf(line, column);
        return owner == null ? ' ' : owner.sign();
    }

    public int nodeAt(int line, int column) throws IndexOutOfBoundsException {
        checkColumn(line, column);
        Node owner = printed.ownerOf(line, column);
        return owner == null ? NONE : owner.number;
    }

    public int placeOf(int node) throws IndexOutOfBoundsException {
        return printed.startOf(nodeOf(node));
    }

    public int decisions() {
        return printed.told;
    }

    public int wayAt(int decision) throws IndexOutOfBoundsException {
        if (decision < 0 || decision >= printed.told) {
            throw new IndexOutOfBoundsException("there is no such decision");
        }
        return wayIn(printed.ways, decision);
    }

    // ---- pages

    public int breakPages(int height) throws IllegalArgumentException, IllegalStateException {
        checkRange(height, 1, MOST_HEIGHT);
        if (printed.lineCount == 0) {
            throw new IllegalStateException("nothing was printed");
        }
        return pages.breakSheet(printed, height);
    }

    public int pageOf(int line) throws IndexOutOfBoundsException, IllegalStateException {
        checkLine(line);
        if (!pages.areBroken) {
            throw new IllegalStateException("the lines were not broken into pages");
        }
        return pages.pageWith(line);
    }

    // ---- what the calls share

    private static void checkRange(int value, int least, int most) {
        if (value < least || value > most) {
            throw new IllegalArgumentException("an argument is out of its range");
        }
    }

    private void checkLine(int line) {
        if (line < 0 || line >= printed.lineCount) {
            throw new IndexOutOfBoundsException("there is no such line");
        }
    }

    private void checkColumn(int line, int column) {
        checkLine(line);
        if (column < 0 || column >= printed.endOf(line)) {
            throw new IndexOutOfBoundsException("there is no such column");
        }
    }

    private Node nodeOf(int node) {
        if (node < 0 || node >= madeCount || node >= made.length) {
            throw new IndexOutOfBoundsException("there is no such node");
        }
        Node found = made[node];
        if (found == null) {
            throw new IndexOutOfBoundsException("there is no such node");
        }
        return found;
    }

    private int add(Node node) {
        if (madeCount >= made.length) {
            throw new IllegalStateException("there are as many nodes as there can be");
        }
        if (node.leaves > MOST_SIZE || node.mostWays > MOST_WAYS) {
            throw new IllegalStateException("the node would be too large");
        }
        node.take(madeCount);
        made[madeCount] = node;
        madeCount++;
        return node.number;
    }

    private void agreeOn(Node root, int width, int ribbon, int price) {
        checkRange(width, 1, MOST_COLUMN);
        checkRange(ribbon, 1, MOST_COLUMN);
        checkRange(price, 0, MOST_LINE_PRICE);
        terms.set(width, ribbon, price);
        terms.measureCells(made, root);
    }

    private int takeSheet() {
        printed = hand.exchange(printed);
        pages.forget();
        return (int) terms.costOf(printed);
    }

    // Ways are bits, the first one highest, so that of two layouts the lesser number is the one
    // that takes the first way where they first differ.
    private static int wayBit(int place) {
        return place < 0 || place >= MOST_WAYS ? 0 : 1 << (MOST_WAYS - 1 - place);
    }

    private static int wayIn(int ways, int place) {
        return (ways & wayBit(place)) == 0 ? FIRST : SECOND;
    }

    /** What nodes there are: whether one can stand in no cell, and whether it can't be flat at all. */
    private enum Kind {
        TEXT(false, false), REMARK(true, true), LINE(false, false), SOFT(false, false),
        HARD(true, true), TAB(true, false), PAIR(false, false), NEST(false, false),
        ALIGN(false, false), GROUP(false, false), CHOICE(true, false), FLAT(false, false),
        BROKEN(false, false), PRICE(false, false), KEEP(false, false), CELL(true, false);

        private final boolean notInCells;
        private final boolean neverFlat;

        Kind(boolean notInCells, boolean neverFlat) {
            this.notInCells = notInCells;
            this.neverFlat = neverFlat;
        }

        boolean endsLine() {
            return this == LINE || this == SOFT || this == HARD;
        }
    }

    /** A node, with what can be told of it before it is printed. */
    private static final class Node {
        // Traits, of which a node has those of its parts: signs, and tabs that are more than a blank.
        private static final int SIGNS = 1;
        private static final int TABS = 2;

        private final Kind kind;
        // The letter, column, shift or cost, or which column of which table.
        private final int value;
        private final Node first;
        private final Node second;
        private int number;
        private int leaves;
        // How wide it is when it is printed flat; for TEXT and REMARK how many signs it has.
        private int flatWidth;
        // Whether it holds what can't be printed flat within a cell.
        private boolean barred;
        // Whether it can end a line, not printed flat, with the indentation that it is given.
        private boolean indents;
        private int mostWays;
        private int mostFlatWays;
        private int layoutCount;
        private int flatLayoutCount;
        // A bit for each node that it is made of, itself included.
        private long within;
        private int traits;

        Node(Kind kind, int value, int flatWidth) {
            this.kind = kind;
            this.value = value;
            this.first = null;
            this.second = null;
            this.leaves = 1;
            this.flatWidth = flatWidth;
            this.barred = kind.notInCells;
            this.indents = kind.endsLine();
            this.traits = traitsOfLeaf(kind, value);
            this.layoutCount = 1;
            this.flatLayoutCount = 1;
        }

        Node(Kind kind, int value, Node first, Node second) {
            this.kind = kind;
            this.value = value;
            this.first = first;
            this.second = second;
            if (first != null && second != null) {
                measureTwo(first, second);
            } else if (first != null) {
                measureOne(first);
            }
        }

        private static int traitsOfLeaf(Kind kind, int value) {
            if (kind == Kind.TAB) {
                return value > 1 ? TABS : 0;
            }
            return kind.endsLine() ? 0 : SIGNS;
        }

        private void measureOne(Node part) {
            boolean makesFlat = kind == Kind.FLAT || kind == Kind.CELL;
            leaves = part.leaves;
            flatWidth = part.flatWidth;
            barred = kind.notInCells || part.barred;
            indents = !makesFlat && kind != Kind.ALIGN && part.indents;
            within = part.within;
            traits = part.traits;
            mostFlatWays = part.mostFlatWays;
            flatLayoutCount = part.flatLayoutCount;
            if (kind == Kind.GROUP) {
                mostWays = 1 + Math.max(part.mostFlatWays, part.mostWays);
                layoutCount = atMostCounted((long) part.flatLayoutCount + part.layoutCount);
            } else {
                mostWays = makesFlat ? part.mostFlatWays : part.mostWays;
                layoutCount = makesFlat ? part.flatLayoutCount : part.layoutCount;
            }
        }

        private void measureTwo(Node one, Node two) {
            leaves = one.leaves + two.leaves;
            within = one.within | two.within;
            traits = one.traits | two.traits;
            indents = one.indents || kind != Kind.BROKEN && two.indents;
            if (kind == Kind.PAIR) {
                flatWidth = one.flatWidth + two.flatWidth;
                barred = one.barred || two.barred;
                mostWays = one.mostWays + two.mostWays;
                mostFlatWays = one.mostFlatWays + two.mostFlatWays;
                layoutCount = atMostCounted((long) one.layoutCount * two.layoutCount);
                flatLayoutCount = atMostCounted((long) one.flatLayoutCount * two.flatLayoutCount);
            } else if (kind == Kind.CHOICE) {
                barred = true;
                mostWays = 1 + Math.max(one.mostWays, two.mostWays);
                mostFlatWays = 1 + Math.max(one.mostFlatWays, two.mostFlatWays);
                layoutCount = atMostCounted((long) one.layoutCount + two.layoutCount);
                flatLayoutCount = atMostCounted((long) one.flatLayoutCount + two.flatLayoutCount);
            } else {
                flatWidth = two.flatWidth;
                barred = two.barred;
                mostWays = one.mostWays;
                mostFlatWays = two.mostFlatWays;
                layoutCount = one.layoutCount;
                flatLayoutCount = two.flatLayoutCount;
            }
        }

        private static int atMostCounted(long count) {
            return count < MOST_COUNTED ? (int) count : MOST_COUNTED;
        }

        void take(int place) {
            number = place;
            within = within | bit();
        }

        long bit() {
            return 1L << number;
        }

        char sign() {
            return (char) ((kind == Kind.REMARK ? 'A' : 'a') + value);
        }
    }

    /** What a printing keeps to: the width, the ribbon, the price of lines, how wide cells are. */
    private static final class Terms {
        private int width;
        private int ribbon;
        private int linePrice;
        private final int[] widest;

        Terms() {
            widest = new int[TABLES * TABLE_COLUMNS];
        }

        void set(int newWidth, int newRibbon, int newLinePrice) {
            width = newWidth;
            ribbon = newRibbon;
            linePrice = newLinePrice;
        }

        void measureCells(Node[] all, Node root) {
            Arrays.fill(widest, 0);
            for (int i = 0; i < all.length; i++) {
                Node node = all[i];
                if (node != null && node.kind == Kind.CELL && (root.within & node.bit()) != 0) {
                    widen(node);
                }
            }
        }

        private void widen(Node cell) {
            int column = cell.value;
            if (column >= 0 && column < widest.length && widest[column] < cell.flatWidth) {
                widest[column] = cell.flatWidth;
            }
        }

        /** How many blanks a cell has behind its part. */
        int padding(Node cell) {
            int column = cell.value;
            return column < 0 || column >= widest.length ? 0 : widest[column] - cell.flatWidth;
        }

        boolean holds(int start, int end) {
            return end <= width && (start == NONE || end - start <= ribbon);
        }

        long lineCost(int start, int end) {
            long beyondWidth = Math.max(0, end - width);
            long beyondRibbon = start == NONE ? 0 : Math.max(0, end - start - ribbon);
            return beyondWidth * beyondWidth + beyondRibbon * beyondRibbon;
        }

        long costOf(Sheet sheet) {
            long cost = sheet.prices + (long) linePrice * (sheet.lineCount - 1);
            for (int line = 0; line < sheet.lineCount; line++) {
                cost += lineCost(sheet.firstOf(line), sheet.endOf(line));
            }
            return cost;
        }
    }

    /** The lines of one layout, as they are written from left to right. */
    private static final class Sheet {
        // 0 as long as nothing was written.
        private int lineCount;
        private int column;
        private boolean hasRemark;
        private boolean isImpossible;
        private long prices;
        private int ways;
        private int told;
        private final int[] firsts;
        private final int[] ends;
        // What it costs to end a page behind a line, for the KEEPs.
        private final int[] cutCosts;
        private final int[] starts;
        private int ownerCount;
        private final Node[] owners;
        private final int[] ownerLines;
        private final int[] ownerColumns;

        Sheet() {
            firsts = new int[MOST_LINES];
            ends = new int[MOST_LINES];
            cutCosts = new int[MOST_LINES];
            starts = new int[MOST_NODES];
            Arrays.fill(starts, NONE);
            owners = new Node[MOST_SIZE];
            ownerLines = new int[MOST_SIZE];
            ownerColumns = new int[MOST_SIZE];
        }

        void clear() {
            lineCount = 0;
            isImpossible = false;
            prices = 0;
            ways = 0;
            told = 0;
            ownerCount = 0;
            Arrays.fill(starts, NONE);
            beginLine(0);
        }

        void beginLine(int indentation) {
            if (lineCount < MOST_LINES) {
                firsts[lineCount] = NONE;
                ends[lineCount] = 0;
                cutCosts[lineCount] = 0;
                lineCount++;
            }
            column = Math.max(0, indentation);
            hasRemark = false;
        }

        int present() {
            return lineCount - 1;
        }

        void beginNode(Node node) {
            int at = node.number;
            if (at >= 0 && at < starts.length && starts[at] == NONE) {
                starts[at] = LINE_FACTOR * present() + column;
            }
        }

        void putSigns(Node node) {
            int line = present();
            if (hasRemark) {
                isImpossible = true;
            }
            if (line < 0 || line >= MOST_LINES || ownerCount >= owners.length) {
                return;
            }
            owners[ownerCount] = node;
            ownerLines[ownerCount] = line;
            ownerColumns[ownerCount] = column;
            ownerCount++;
            if (firsts[line] == NONE) {
                firsts[line] = column;
            }
            column += node.flatWidth;
            ends[line] = column;
            hasRemark = node.kind == Kind.REMARK;
        }

        void putBlanks(int count) {
            column += count;
        }

        void putTab(int goal) {
            column = Math.max(goal, column + 1);
        }

        void keepTogether(int fromLine, int cost) {
            for (int line = Math.max(0, fromLine); line < lineCount - 1 && line < MOST_LINES; line++) {
                cutCosts[line] += cost;
            }
        }

        void tell(int way) {
            if (way == SECOND) {
                ways = ways | wayBit(told);
            }
            told++;
        }

        int firstOf(int line) {
            return line < 0 || line >= lineCount || line >= firsts.length ? NONE : firsts[line];
        }

        int endOf(int line) {
            return line < 0 || line >= lineCount || line >= ends.length ? 0 : ends[line];
        }

        int cutCostOf(int line) {
            return line < 0 || line >= lineCount || line >= cutCosts.length ? 0 : cutCosts[line];
        }

        int startOf(Node node) {
            int at = node.number;
            return at < 0 || at >= starts.length ? NONE : starts[at];
        }

        /** The node whose sign is at a place, or null. */
        Node ownerOf(int line, int place) {
            for (int i = 0; i < ownerCount && i < owners.length; i++) {
                Node owner = owners[i];
                int behind = place - ownerColumns[i];
                if (owner != null && ownerLines[i] == line && behind >= 0 && behind < owner.flatWidth) {
                    return owner;
                }
            }
            return null;
        }
    }

    /** Writes one layout at a time on a sheet of its own. */
    private static final class Hand {
        private final Terms terms;
        private Sheet sheet;
        // The ways that are settled, how many, and which way all later places take.
        private int plan;
        private int planned;
        private int laterWay;
        // Writing stops at the first line end behind this place.
        private int watched;
        private boolean hasStopped;

        Hand(Terms terms) {
            this.terms = terms;
            this.sheet = new Sheet();
        }

        /** Hands out the sheet that was written, and takes another one for the next time. */
        Sheet exchange(Sheet other) {
            Sheet written = sheet;
            sheet = other;
            return written;
        }

        void write(Node root, int ways, int count) {
            layOut(root, ways, count, FIRST, NONE);
        }

        private void layOut(Node root, int ways, int count, int later, int watchedPlace) {
            plan = ways;
            planned = count;
            laterWay = later;
            watched = watchedPlace;
            hasStopped = false;
            sheet.clear();
            put(root, false, 0, 0);
        }

        /** Whether there is a layout that is not impossible; if so, the best one is written. */
        boolean writeBestOfAll(Node root) {
            boolean found = false;
            long bestCost = 0;
            int bestLines = 0;
            int bestWays = 0;
            int bestTold = 0;
            int ways = 0;
            int settled = 0;
            for (int turn = 0; turn < MOST_LISTED; turn++) {
                layOut(root, ways, settled, FIRST, NONE);
                long cost = terms.costOf(sheet);
                boolean isLess = !found || cost < bestCost
                        || cost == bestCost && sheet.lineCount < bestLines;
                if (!sheet.isImpossible && isLess) {
                    found = true;
                    bestCost = cost;
                    bestLines = sheet.lineCount;
                    bestWays = sheet.ways;
                    bestTold = sheet.told;
                }
                int turned = lastFirstWay();
                if (turned == NONE) {
                    break;
                }
                // The ways behind the turned one are all second ones: they begin anew.
                ways = (sheet.ways & -wayBit(turned)) | wayBit(turned);
                settled = turned + 1;
            }
            if (found) {
                layOut(root, bestWays, bestTold, FIRST, NONE);
            }
            return found;
        }

        private int lastFirstWay() {
            for (int place = sheet.told - 1; place >= 0; place--) {
                if (wayIn(sheet.ways, place) == FIRST) {
                    return place;
                }
            }
            return NONE;
        }

        /** Whether the greedy layout is not impossible; it is written then. */
        boolean writeGreedily(Node root) {
            int ways = 0;
            for (int place = 0; place <= MOST_WAYS; place++) {
                layOut(root, ways, place + 1, SECOND, place);
                if (sheet.told <= place) {
                    break;
                }
                if (sheet.isImpossible || !presentLineFits()) {
                    ways = ways | wayBit(place);
                }
            }
            return !sheet.isImpossible;
        }

        private boolean presentLineFits() {
            int line = sheet.present();
            return terms.holds(sheet.firstOf(line), sheet.endOf(line));
        }

        private int decide() {
            int way = sheet.told < planned ? wayIn(plan, sheet.told) : laterWay;
            sheet.tell(way);
            return way;
        }

        private void endLine(int indentation) {
            if (watched != NONE && sheet.told > watched) {
                hasStopped = true;
            } else {
                sheet.beginLine(indentation);
            }
        }

        private void put(Node node, boolean flat, int indentation, int depth) {
            if (node == null || hasStopped || depth >= MOST_NODES) {
                return;
            }
            sheet.beginNode(node);
            switch (node.kind) {
                case PAIR:
                    put(node.first, flat, indentation, depth + 1);
                    put(node.second, flat, indentation, depth + 1);
                    break;
                case NEST:
                    put(node.first, flat, indentation + node.value, depth + 1);
                    break;
                case ALIGN:
                    put(node.first, flat, sheet.column, depth + 1);
                    break;
                case GROUP:
                    put(node.first, flat || decide() == FIRST, indentation, depth + 1);
                    break;
                case CHOICE:
                    put(decide() == FIRST ? node.first : node.second, flat, indentation, depth + 1);
                    break;
                case FLAT:
                    put(node.first, true, indentation, depth + 1);
                    break;
                case BROKEN:
                    put(flat ? node.second : node.first, flat, indentation, depth + 1);
                    break;
                case PRICE:
                    sheet.prices += node.value;
                    put(node.first, flat, indentation, depth + 1);
                    break;
                case KEEP:
                    int line = sheet.present();
                    put(node.first, flat, indentation, depth + 1);
                    sheet.keepTogether(line, node.value);
                    break;
                case CELL:
                    put(node.first, true, indentation, depth + 1);
                    sheet.putBlanks(terms.padding(node));
                    break;
                default:
                    putLeaf(node, flat, indentation);
                    break;
            }
        }

        private void putLeaf(Node node, boolean flat, int indentation) {
            if (flat && node.kind.neverFlat) {
                sheet.isImpossible = true;
            } else if (node.kind == Kind.TAB) {
                sheet.putTab(node.value);
            } else if (!node.kind.endsLine()) {
                sheet.putSigns(node);
            } else if (flat) {
                sheet.putBlanks(node.flatWidth);
            } else {
                endLine(indentation);
            }
        }
    }

    /**
     * Ways that are held: where there is no room for all layouts at once, they are searched in parts,
     * in each of which some places take one way only. Within an ALIGN the places are counted from
     * its beginning, and held for themselves.
     */
    private static final class Held {
        private static final int MOST_LEVELS = MOST_NODES + 1;
        private static final int MOST_HELD = 256;

        private int level;
        // Of each level, as bits: which places are held, and those of them that take the second way.
        private final int[] places;
        private final int[] ways;
        // The places of all levels as they were held, and where those of each level begin.
        private final int[] order;
        private final int[] begins;
        private int count;

        Held() {
            places = new int[MOST_LEVELS];
            ways = new int[MOST_LEVELS];
            order = new int[MOST_HELD];
            begins = new int[MOST_LEVELS];
        }

        /** Begins with the document, nothing held. */
        void begin() {
            level = 0;
            count = 0;
            places[level] = 0;
            ways[level] = 0;
            begins[level] = 0;
        }

        /** Goes into an ALIGN, nothing held there. */
        void enter() {
            if (level < MOST_LEVELS - 1) {
                level++;
                places[level] = 0;
                ways[level] = 0;
                begins[level] = count;
            }
        }

        void leave() {
            count = begins[level];
            level = Math.max(0, level - 1);
        }

        /** Whether a way can be taken at a place. */
        boolean allows(int place, int way) {
            int bit = wayBit(place);
            return (places[level] & bit) == 0 || (way == SECOND) == ((ways[level] & bit) != 0);
        }

        /** Whether so many ways can be told around the ALIGN. */
        boolean allowsOutside(int toldWays, int told) {
            int outside = Math.max(0, level - 1);
            int taken = told > 0 ? -wayBit(told - 1) : 0;
            return ((toldWays ^ ways[outside]) & places[outside] & taken) == 0;
        }

        boolean isHeld(int place) {
            return (places[level] & wayBit(place)) != 0;
        }

        /** Holds a place: for the next part its first way. Returns whether it can be. */
        boolean hold(int place) {
            if (place < 0 || place >= MOST_WAYS || count >= MOST_HELD) {
                return false;
            }
            places[level] = places[level] | wayBit(place);
            order[count] = place;
            count++;
            return true;
        }

        /** Goes on to the next part. Returns whether there is one. */
        boolean goOn() {
            while (count > begins[level] && (ways[level] & wayBit(order[count - 1])) != 0) {
                count--;
                places[level] = places[level] ^ wayBit(order[count]);
                ways[level] = ways[level] ^ wayBit(order[count]);
            }
            boolean isAhead = count > begins[level];
            if (isAhead) {
                ways[level] = ways[level] | wayBit(order[count - 1]);
            }
            return isAhead;
        }
    }

    /**
     * Printings that have come to the same place of a document, as rows of a stack. At an ALIGN
     * they wait, as their indentations do not matter within it: for all that stand in the same
     * line one state goes on, that counts its weight and ways from there. So ALIGNs in one another
     * do not multiply the states.
     */
    private static final class States {
        private static final int FEW = 32;
        // What they are too few for is searched in portions.
        private static final int MOST_STATES = 4096;
        // More than there can be line ends.
        private static final int COST_WEIGHT = MOST_LINES + 1;
        private static final int DOCUMENT = 0;
        private static final int START = 1;

        private final Held held;
        private int top;
        // Once it is full, nothing is changed until some states are given up.
        private boolean isFull;
        // What weighs more is dropped; of that the least weight is kept.
        private long limit;
        private long leastDropped;
        // The state that waits at the ALIGN around: its column is the indentation.
        private int[] around;
        private int[] column;
        private int[] first;
        private int[] hasRemark;
        // What the present line costs as it stands.
        private long[] paid;
        // The cost, and behind that the line ends, so that the lesser weight is the better one.
        private long[] weight;
        private int[] ways;
        private int[] told;
        // The least weight, from the document's beginning on, of all for which a waiting state stands.
        private long[] floor;
        // Of a state that waits, the one that stands for it; of another one, the next in its chain.
        private int[] link;
        // The first in the chain of a waiting state.
        private int[] head;
        private int[] slots;
        private int slotCount;

        States(Held held) {
            this.held = held;
            around = new int[FEW];
            column = new int[FEW];
            first = new int[FEW];
            hasRemark = new int[FEW];
            paid = new long[FEW];
            weight = new long[FEW];
            ways = new int[FEW];
            told = new int[FEW];
            floor = new long[FEW];
            link = new int[FEW];
            head = new int[FEW];
            slots = new int[FEW];
            slotCount = FEW;
        }

        /** Begins with one state: the beginning of a document. */
        void begin() {
            isFull = false;
            floor[DOCUMENT] = 0;
            column[DOCUMENT] = 0;
            around[START] = DOCUMENT;
            column[START] = 0;
            first[START] = NONE;
            hasRemark[START] = 0;
            paid[START] = 0;
            weight[START] = 0;
            ways[START] = 0;
            told[START] = 0;
            top = START + 1;
        }

        /** Whether there is room for so many more; if not, all that goes on is given up. */
        private boolean hasRoom(int more) {
            int wanted = top + more;
            if (wanted > MOST_STATES) {
                isFull = true;
            } else if (wanted > column.length) {
                makeRows(Math.min(MOST_STATES, Math.max(wanted, 2 * column.length)));
            }
            return !isFull;
        }

        private void makeRows(int length) {
            around = Arrays.copyOf(around, length);
            column = Arrays.copyOf(column, length);
            first = Arrays.copyOf(first, length);
            hasRemark = Arrays.copyOf(hasRemark, length);
            paid = Arrays.copyOf(paid, length);
            weight = Arrays.copyOf(weight, length);
            ways = Arrays.copyOf(ways, length);
            told = Arrays.copyOf(told, length);
            floor = Arrays.copyOf(floor, length);
            link = Arrays.copyOf(link, length);
            head = Arrays.copyOf(head, length);
        }

        private void copyState(int from, int to) {
            if (from == to) {
                return;
            }
            around[to] = around[from];
            column[to] = column[from];
            first[to] = first[from];
            hasRemark[to] = hasRemark[from];
            paid[to] = paid[from];
            weight[to] = weight[from];
            ways[to] = ways[from];
            told[to] = told[from];
        }

        /** Drops the states from one on in whose line no sign can stand any more. */
        void dropRemarked(int from) {
            int kept = from;
            for (int i = from; i < top; i++) {
                if (hasRemark[i] == 0) {
                    copyState(i, kept);
                    kept++;
                }
            }
            top = kept;
        }

        /** Drops the states from one on whose weight is above the limit. */
        void dropHeavy(int from) {
            int kept = from;
            for (int i = from; i < top; i++) {
                if (!isHeavy(i)) {
                    copyState(i, kept);
                    kept++;
                }
            }
            top = kept;
        }

        private boolean isHeavy(int at) {
            long least = fullWeight(at);
            boolean isAbove = least > limit;
            if (isAbove && (leastDropped == NONE || least < leastDropped)) {
                leastDropped = least;
            }
            return isAbove;
        }

        /** The weight from the document's beginning on; within an ALIGN the least that it can be. */
        private long fullWeight(int at) {
            int waiting = around[at];
            return weight[at] + (waiting < 0 || waiting >= floor.length ? 0 : floor[waiting]);
        }

        int indentationOf(int at) {
            int waiting = around[at];
            return waiting < 0 || waiting >= column.length ? 0 : column[waiting];
        }

        /** Puts on top how the states from one up to another one go on if they take a way. */
        void branch(int from, int until, int way) {
            for (int i = from; i < until && !isFull; i++) {
                if (held.allows(told[i], way) && hasRoom(1)) {
                    copyState(i, top);
                    ways[top] = way == SECOND ? ways[i] | wayBit(told[i]) : ways[i];
                    told[top]++;
                    top++;
                }
            }
        }

        /** Puts all states from one on where others were. */
        void slide(int from, int to) {
            int target = to;
            for (int i = from; i < top; i++) {
                copyState(i, target);
                target++;
            }
            top = target;
        }

        void addCost(int at, long cost) {
            weight[at] += COST_WEIGHT * cost;
        }

        void addLineEnd(int at) {
            weight[at]++;
        }

        void beginLine(int at, int newColumn) {
            column[at] = newColumn;
            first[at] = NONE;
            hasRemark[at] = 0;
            paid[at] = 0;
        }

        /** Makes the lines of all states from one on alike: no sign comes behind them. */
        void forgetLines(int from) {
            for (int i = from; i < top; i++) {
                beginLine(i, 0);
            }
        }

        /**
         * Drops, of the states from one on, those that go on no better than another one. Where
         * tabs are behind, only states in the same column can be compared.
         */
        void merge(int from, boolean tabs) {
            int until = top;
            if (until - from < 2) {
                return;
            }
            clearSlots(until - from);
            top = from;
            for (int i = from; i < until; i++) {
                copyState(i, top);
                keepTop(tabs);
            }
        }

        /** Keeps the state in the row behind the others, if it does not go on worse than one of them. */
        private void keepTop(boolean tabs) {
            int slot = slotOf(tabs ? mix(around[top], column[top]) : mix(around[top], 0));
            int other = slots[slot] - 1;
            for (int step = 0; step < top && other >= 0; step++) {
                if (goesOnNoWorse(other, top, tabs)) {
                    return;
                }
                if (goesOnNoWorse(top, other, tabs)) {
                    copyState(top, other);
                    return;
                }
                other = link[other];
            }
            link[top] = slots[slot] - 1;
            slots[slot] = top + 1;
            top++;
        }

        /**
         * Whether one state is better than another one however both go on: if signs come in the
         * line, if none come, and in the lines behind.
         */
        private boolean goesOnNoWorse(int one, int other, boolean tabs) {
            if (around[one] != around[other] || column[one] > column[other]
                    || tabs && column[one] < column[other] || hasRemark[one] > hasRemark[other]) {
                return false;
            }
            long less = weight[other] - weight[one];
            long lessAhead = less - COST_WEIGHT * (paid[other] - paid[one]);
            if (less < 0 || lessAhead < 0 || (less == 0 || lessAhead == 0) && ways[one] > ways[other]) {
                return false;
            }
            return first[one] == NONE
                    || first[other] != NONE && column[one] - first[one] <= column[other] - first[other];
        }

        private void clearSlots(int count) {
            int wanted = 2;
            while (wanted < count && wanted < MOST_STATES) {
                wanted = 2 * wanted;
            }
            slotCount = wanted;
            if (wanted > slots.length) {
                slots = new int[wanted];
            } else {
                Arrays.fill(slots, 0, wanted, 0);
            }
        }

        private int slotOf(int mixed) {
            return mixed & (slotCount - 1);
        }

        private static int mix(int sum, int next) {
            int mixed = (sum ^ next) * 0x9E3779B1;
            return mixed ^ (mixed >>> 15);
        }

        /** Lets the states from one on wait at an ALIGN: of those in the same line the first stands for all. */
        void waitAtAlign(int from) {
            clearSlots(top - from);
            for (int i = from; i < top; i++) {
                int slot = slotOf(mix(mix(column[i], first[i]), 2 * (int) paid[i] + hasRemark[i]));
                int other = slots[slot] - 1;
                for (int step = 0; step < top && other >= 0 && !isInSameLine(i, other); step++) {
                    other = head[other];
                }
                if (other >= 0) {
                    link[i] = other;
                    floor[other] = Math.min(floor[other], fullWeight(i));
                } else {
                    link[i] = i;
                    floor[i] = fullWeight(i);
                    head[i] = slots[slot] - 1;
                    slots[slot] = i + 1;
                }
            }
        }

        private boolean isInSameLine(int one, int other) {
            return column[one] == column[other] && first[one] == first[other]
                    && hasRemark[one] == hasRemark[other] && paid[one] == paid[other];
        }

        /**
         * Puts on top what goes on for at most so many of the waiting states that stand for others,
         * from one up to another one. Returns how far it came.
         */
        int enterAlign(int from, int until, int most) {
            int before = top;
            int i = from;
            while (i < until && top - before < most && hasRoom(1)) {
                if (link[i] == i) {
                    copyState(i, top);
                    around[top] = i;
                    weight[top] = 0;
                    ways[top] = 0;
                    told[top] = 0;
                    top++;
                }
                i++;
            }
            return i;
        }

        /**
         * Takes waiting states out of an ALIGN: those for which one from the first up to the last
         * one stands. What has come through the ALIGN is on top, and is replaced by them.
         */
        void leaveAlign(int from, int until, int firstOne, int lastOne, int inside, boolean tabs) {
            if (isFull) {
                return;
            }
            int outside = top;
            for (int i = firstOne; i <= lastOne; i++) {
                head[i] = NONE;
            }
            for (int i = inside; i < outside; i++) {
                int waiting = around[i];
                if (waiting >= firstOne && waiting <= lastOne) {
                    link[i] = head[waiting];
                    head[waiting] = i;
                }
            }
            clearSlots(2 * (outside - from));
            for (int i = from; i < until; i++) {
                int other = link[i] >= firstOne && link[i] <= lastOne ? head[link[i]] : NONE;
                for (int step = 0; step < outside && other >= 0 && hasRoom(1); step++) {
                    join(i, other, tabs);
                    other = link[other];
                }
            }
            if (!isFull) {
                slide(outside, inside);
            }
        }

        /** Puts on top how a state that waited goes on, as another one went through the ALIGN for it. */
        private void join(int waiting, int other, boolean tabs) {
            copyState(other, top);
            around[top] = around[waiting];
            weight[top] = weight[waiting] + weight[other];
            ways[top] = ways[waiting] | ways[other] >> told[waiting];
            told[top] = told[waiting] + told[other];
            if (held.allowsOutside(ways[top], told[top]) && !isHeavy(top)) {
                keepTop(tabs);
            }
        }

        /** The state that waits at the ALIGN around another one. */
        int waitingFor(int at) {
            return at < 0 || at >= top || at >= around.length ? NONE : around[at];
        }

        /**
         * The place, of those that are not held, at which the states from one on that go on for a
         * waiting one are best parted: NONE if all take the same ways.
         */
        int placeToHold(int from, int waiting) {
            int best = NONE;
            int bestCount = 0;
            for (int place = 0; place < MOST_WAYS; place++) {
                int count = held.isHeld(place) ? 0 : countLess(place, from, waiting);
                if (count > bestCount) {
                    best = place;
                    bestCount = count;
                }
            }
            return best;
        }

        /** How many of them take the way that fewer of them take at a place. */
        private int countLess(int place, int from, int waiting) {
            int firstWays = 0;
            int secondWays = 0;
            for (int i = from; i < top; i++) {
                boolean isTold = around[i] == waiting && told[i] > place;
                firstWays += isTold && wayIn(ways[i], place) == FIRST ? 1 : 0;
                secondWays += isTold && wayIn(ways[i], place) == SECOND ? 1 : 0;
            }
            return Math.min(firstWays, secondWays);
        }

        /** Gives up the states from one on, so that there is room for another try. */
        void giveUp(int from) {
            top = from;
            isFull = false;
        }
    }

    /** Finds the best layout, all layouts side by side, from the left to the right. */
    private static final class Search {
        // No layout weighs as much as the limit of the last one of so many turns.
        private static final int MOST_TURNS = 24;
        private static final int MOST_PARTS = 1 << 30;

        private final Terms terms;
        private final States states;
        private final Held held;
        private boolean hasFound;
        private int bestWays;
        private int bestTold;

        Search(Terms terms) {
            this.terms = terms;
            this.held = new Held();
            this.states = new States(held);
        }

        /**
         * Whether there is a layout that is not impossible; the best one's ways are kept then.
         * Most states weigh far more than the best layout, so it is looked for below a low limit
         * first, and below higher ones until it is there, or nothing was dropped for its weight.
         */
        boolean findBest(Node root) {
            hasFound = false;
            long limit = 0;
            for (int turn = 0; turn < MOST_TURNS && !hasFound; turn++) {
                states.limit = limit;
                states.leastDropped = NONE;
                searchInParts(root);
                if (states.leastDropped == NONE) {
                    break;
                }
                limit = Math.max(states.leastDropped, 8 * limit + 7);
            }
            return hasFound;
        }

        /** Searches all layouts, or, if there is no room for all at once, parts that some ways are held for. */
        private void searchInParts(Node root) {
            boolean isAhead = true;
            held.begin();
            for (int part = 0; part < MOST_PARTS && isAhead; part++) {
                states.begin();
                advance(root, false, 0, 0, States.START, 0);
                if (!states.isFull || !held.hold(states.placeToHold(States.START, States.DOCUMENT))) {
                    keepBest();
                    isAhead = held.goOn();
                }
            }
        }

        /** Keeps the best layout of a part, if there is one that is better than those of the parts ahead. */
        private void keepBest() {
            // No sign comes behind the document: all states were alike, and the best one is left.
            if (states.isFull || states.top <= States.START) {
                return;
            }
            long weight = states.weight[States.START];
            int ways = states.ways[States.START];
            boolean isBetter = !hasFound || weight < states.limit || ways < bestWays;
            if (weight <= states.limit && isBetter) {
                hasFound = true;
                bestWays = ways;
                bestTold = states.told[States.START];
                states.limit = weight;
            }
        }

        /**
         * Takes the states from one on through a node. The shift is that of the NESTs around it,
         * behind are the traits of what can come behind it in the document.
         */
        private void advance(Node node, boolean flat, int shift, int behind, int from, int depth) {
            if (node == null || states.isFull || states.top <= from || depth >= MOST_NODES) {
                return;
            }
            switch (node.kind) {
                case PAIR:
                    int nearBehind = behind | (node.second == null ? 0 : node.second.traits);
                    advance(node.first, flat, shift, nearBehind, from, depth + 1);
                    advance(node.second, flat, shift, behind, from, depth + 1);
                    break;
                case NEST:
                    advance(node.first, flat, shift + node.value, behind, from, depth + 1);
                    break;
                case ALIGN:
                    advanceAlign(node.first, flat, 0, behind, from, depth);
                    break;
                case GROUP:
                case CHOICE:
                    fork(node, flat, shift, behind, from, depth);
                    break;
                case FLAT:
                    advance(node.first, true, shift, behind, from, depth + 1);
                    break;
                case BROKEN:
                    advance(flat ? node.second : node.first, flat, shift, behind, from, depth + 1);
                    break;
                case PRICE:
                    pay(node.value, from);
                    advance(node.first, flat, shift, behind, from, depth + 1);
                    break;
                case KEEP:
                    advance(node.first, flat, shift, behind, from, depth + 1);
                    break;
                case CELL:
                    advance(node.first, true, shift, behind, from, depth + 1);
                    putBlanks(terms.padding(node), from);
                    settle(behind, from);
                    break;
                default:
                    putLeaf(node, flat, shift, from);
                    settle(behind, from);
                    break;
            }
        }

        /** Takes the states from one on through the part of an ALIGN, within NESTs that shift it. */
        private void advanceAlign(Node part, boolean flat, int shift, int behind, int from, int depth) {
            boolean hasSigns = part != null && ((part.traits | behind) & Node.SIGNS) != 0;
            if (depth >= MOST_NODES || flat || !hasSigns || !part.indents) {
                advance(part, flat, 0, behind, from, depth + 1);
            } else if (part.kind == Kind.NEST) {
                advanceAlign(part.first, false, shift + part.value, behind, from, depth + 1);
            } else if (part.kind == Kind.PAIR && part.second != null && !part.second.indents) {
                // The ALIGN can end here: its column does not matter any more.
                advanceAlign(part.first, false, shift, behind | part.second.traits, from, depth + 1);
                advance(part.second, false, 0, behind, from, depth + 1);
            } else {
                passAlign(part, shift, behind, from, depth);
            }
        }

        /**
         * Takes the states from one on through an ALIGN: all at once or, if there is no room, in
         * portions, and one state alone in parts that some ways are held for.
         */
        private void passAlign(Node part, int shift, int behind, int from, int depth) {
            int until = states.top;
            int begin = from;
            int most = until - from;
            states.waitAtAlign(from);
            held.enter();
            for (int turn = 0; turn < MOST_PARTS && begin < until && most > 0; turn++) {
                int inside = states.top;
                int end = states.enterAlign(begin, until, most);
                int entered = states.top - inside;
                int waiting = states.waitingFor(inside);
                advance(part, false, shift, behind, inside, depth + 1);
                states.leaveAlign(from, until, begin, end - 1, inside, (behind & Node.TABS) != 0);
                if (!states.isFull) {
                    settle(behind, until);
                    begin = held.goOn() ? begin : end;
                } else if (entered > 1) {
                    states.giveUp(inside);
                    most = entered / 2;
                } else if (hasRoomInside(inside) && held.hold(states.placeToHold(inside, waiting))) {
                    states.giveUp(inside);
                } else {
                    most = 0;
                }
            }
            held.leave();
            if (!states.isFull) {
                states.slide(until, from);
            }
        }

        /** Whether there is enough room in an ALIGN; if not, what is around is too much. */
        private static boolean hasRoomInside(int inside) {
            return inside < States.MOST_STATES / 4 * 3;
        }

        private void fork(Node node, boolean flat, int shift, int behind, int from, int depth) {
            if (node.kind == Kind.GROUP && flat) {
                advance(node.first, true, shift, behind, from, depth + 1);
                return;
            }
            boolean isGroup = node.kind == Kind.GROUP;
            int until = states.top;
            states.branch(from, until, FIRST);
            advance(node.first, flat || isGroup, shift, behind, until, depth + 1);
            int middle = from + states.top - until;
            states.branch(from, until, SECOND);
            if (!states.isFull) {
                // The states that came here are above, as they go on: their first place can be used again.
                states.slide(until, from);
                advance(isGroup ? node.first : node.second, flat, shift, behind, middle, depth + 1);
                settle(behind, from);
            }
        }

        /** Drops, of the states from one on, those that are needless or too dear. */
        private void settle(int behind, int from) {
            if (states.isFull) {
                return;
            }
            if ((behind & Node.SIGNS) == 0) {
                states.forgetLines(from);
            }
            states.merge(from, (behind & Node.TABS) != 0);
        }

        private void pay(int cost, int from) {
            for (int i = from; i < states.top; i++) {
                states.addCost(i, cost);
            }
            states.dropHeavy(from);
        }

        private void putLeaf(Node node, boolean flat, int shift, int from) {
            if (flat && node.kind.neverFlat) {
                states.top = from;
            } else if (node.kind == Kind.TAB) {
                putTab(node.value, from);
            } else if (!node.kind.endsLine()) {
                putSigns(node, from);
            } else if (flat) {
                putBlanks(node.flatWidth, from);
            } else {
                endLines(shift, from);
            }
            states.dropHeavy(from);
        }

        private void putSigns(Node node, int from) {
            int remark = node.kind == Kind.REMARK ? 1 : 0;
            states.dropRemarked(from);
            for (int i = from; i < states.top; i++) {
                if (states.first[i] == NONE) {
                    states.first[i] = states.column[i];
                }
                states.column[i] += node.flatWidth;
                long cost = terms.lineCost(states.first[i], states.column[i]);
                states.addCost(i, cost - states.paid[i]);
                states.paid[i] = cost;
                states.hasRemark[i] = remark;
            }
        }

        private void putBlanks(int count, int from) {
            for (int i = from; i < states.top; i++) {
                states.column[i] += count;
            }
        }

        private void putTab(int goal, int from) {
            for (int i = from; i < states.top; i++) {
                states.column[i] = Math.max(goal, states.column[i] + 1);
            }
        }

        private void endLines(int shift, int from) {
            for (int i = from; i < states.top; i++) {
                states.addCost(i, terms.linePrice);
                states.addLineEnd(i);
                states.beginLine(i, Math.max(0, states.indentationOf(i) + shift));
            }
        }
    }

    /** The pages of a sheet. */
    private static final class Pages {
        private boolean areBroken;
        private final int[] pageOfLine;
        // Of the lines from one on: what they cost, on how many pages, and how many on the first.
        private final int[] cost;
        private final int[] count;
        private final int[] firstHeight;

        Pages() {
            pageOfLine = new int[MOST_LINES];
            cost = new int[MOST_LINES + 1];
            count = new int[MOST_LINES + 1];
            firstHeight = new int[MOST_LINES + 1];
        }

        void forget() {
            areBroken = false;
        }

        int pageWith(int line) {
            return line < 0 || line >= pageOfLine.length ? NONE : pageOfLine[line];
        }

        int breakSheet(Sheet sheet, int height) {
            int lineCount = Math.min(sheet.lineCount, MOST_LINES);
            cost[lineCount] = 0;
            count[lineCount] = 0;
            for (int line = lineCount - 1; line >= 0; line--) {
                choosePage(sheet, line, lineCount, height);
            }
            numberLines(lineCount);
            areBroken = true;
            return cost[0];
        }

        private void choosePage(Sheet sheet, int line, int lineCount, int height) {
            firstHeight[line] = 0;
            for (int lines = Math.min(height, lineCount - line); lines > 0; lines--) {
                int behind = line + lines;
                int free = height - lines;
                int pageCost = behind == lineCount ? 0 : free * free + sheet.cutCostOf(behind - 1);
                int newCost = pageCost + cost[behind];
                int newCount = 1 + count[behind];
                boolean isLess = newCost < cost[line] || newCost == cost[line] && newCount < count[line];
                if (firstHeight[line] == 0 || isLess) {
                    cost[line] = newCost;
                    count[line] = newCount;
                    firstHeight[line] = lines;
                }
            }
        }

        private void numberLines(int lineCount) {
            int page = -1;
            int left = 0;
            for (int line = 0; line < lineCount; line++) {
                if (left == 0) {
                    page++;
                    left = firstHeight[line];
                }
                pageOfLine[line] = page;
                left--;
            }
        }
    }
}
