import java.util.Arrays;
import java.util.NoSuchElementException;

/** A finding aid for an archive: the tree of its nodes, and what readers may see of them on which day. */
public final class FindingAid {
    private static final int NONE = -1;
    private static final int ROOT = 0;
    private static final int SERIES = 1;
    private static final int LAST_KIND = 3;
    private static final int MAX_NODES = 40;
    private static final int MAX_PAGES = 20;
    private static final int LAST_DAY = 9999;

    private static final int ADDS = 0;
    private static final int REPLACES = 1;
    private static final int OPENS = 2;
    private static final int MAX_LENGTH = 5000;
    private static final int CLOSED_ON_ALL_DAYS = 99999;

    private static final int MAX_CONTAINERS_AT_A_TIME = 10;
    private static final int MAX_CONTAINERS = 30;
    private static final int MAX_CAPACITY = 200;
    // 512 calls give at most 512 marks by put and 59 times 39 by split and merge; the marks of more calls are refused.
    private static final int MAX_MARKS = 4096;
    private static final int FIRST_MARKS = 64;

    private static final int MAX_COPIES = 16;
    private static final int ORIGINAL = -1;
    private static final int REFUSED = -2;
    private static final int READERS = 8;
    private static final int MAX_SEATS = 6;
    private static final int FIRST_SEATS = 3;
    private static final int MAX_REQUESTS = 30;
    private static final int MAX_REQUESTS_OF_A_READER = 3;

    private static final int NO_CAUSE = 0;
    private static final int REFUSED_UNIT = 1;
    private static final int TOO_MANY_REQUESTS = 2;
    private static final int NO_SEAT = 3;
    private static final int UNIT_CLOSED = 4;
    private static final int PAGE_CLOSED = 5;
    private static final int NO_CONTAINER = 6;
    private static final int ORIGINAL_SHOWN = 7;
    private static final int COPIES_OF_UNIT = 8;
    private static final int REPORT_LEVELS = 3;

    private static final int MAX_INPUT = 100;
    private static final int MAX_DIGITS = 4;
    private static final int SYNTAX_ERROR = -100;
    private static final int MAX_UNDO = 8;

    private final State now = new State();
    private final State[] past = new State[MAX_UNDO];
    private int newest = 0;
    private int undoable = 0;
    private State saved = null;
    private final Report report = new Report();
    private final Input input = new Input();
    private final StringBuilder text = new StringBuilder();

    public FindingAid() {
    }

    // ---- nodes

    public int add(int parent, int kind, int pages, int from, int to)
            throws IndexOutOfBoundsException, IllegalArgumentException, IllegalStateException {
        requireNode(parent);
        if (!fitsBelow(now.tree.kind[parent], kind, pages, from, to)) {
            throw new IllegalArgumentException("no such node can be added there");
        }
        if (now.tree.made >= MAX_NODES) {
            throw new IllegalStateException("there have been all nodes");
        }
        remember();
        return now.tree.grow(parent, kind, pages, from, to);
    }

    public int remove(int node) throws IndexOutOfBoundsException, IllegalArgumentException {
        requireNode(node);
        if (node == ROOT) {
            throw new IllegalArgumentException("the root stays");
        }
        remember();
        int gone = now.tree.fell(node);
        now.forgetRemovedUnits();
        return gone;
    }

    public int move(int node, int parent) throws IndexOutOfBoundsException, IllegalArgumentException {
        requireNode(node);
        requireNode(parent);
        // The kinds grow on the way down, so that this also refuses the root, the node itself and what is below it.
        if (now.tree.kind[parent] >= now.tree.kind[node]) {
            throw new IllegalArgumentException("the node cannot be moved there");
        }
        remember();
        int previous = now.tree.parent[node];
        now.tree.cut(node);
        now.tree.hang(node, parent);
        return previous;
    }

    public int node(int node, int what) throws IndexOutOfBoundsException, IllegalArgumentException {
        requireNode(node);
        requirePart(what, 11);
        Tree tree = now.tree;
        switch (what) {
            case 0: return tree.kind[node];
            case 1: return tree.parent[node];
            case 2: return tree.pages[node];
            case 3: return tree.from[node];
            case 4: return tree.to[node];
            case 5: return tree.latestDay(node);
            case 6: return tree.countChildren(node);
            case 7: return tree.below[node];
            case 8: return tree.countPages(node);
            case 9: return now.containers.holder[node];
            case 10: return now.containers.serial[node];
            default: return now.copies.countOf(node);
        }
    }

    public int child(int node, int i) throws IndexOutOfBoundsException {
        requireNode(node);
        int found = now.tree.findChild(node, i);
        if (found == NONE) {
            throw new IndexOutOfBoundsException("no such child");
        }
        return found;
    }

    // ---- rules

    public int setRule(int node, int mode, int length) throws IndexOutOfBoundsException, IllegalArgumentException {
        requireNode(node);
        boolean lengthMatters = mode == ADDS || mode == REPLACES;
        if (mode < NONE || mode > OPENS || lengthMatters && (length < 1 || length > MAX_LENGTH)) {
            throw new IllegalArgumentException("no such rule");
        }
        remember();
        int previous = now.rules.mode[node];
        now.rules.mode[node] = mode;
        now.rules.length[node] = lengthMatters ? length : 0;
        return previous;
    }

    public int setPage(int node, int page, int length) throws IndexOutOfBoundsException, IllegalArgumentException {
        requireNode(node);
        if (page < 0 || page >= now.tree.pages[node]) {
            throw new IndexOutOfBoundsException("no such page");
        }
        if (length < 0 || length > MAX_LENGTH) {
            throw new IllegalArgumentException("no such length");
        }
        remember();
        int at = node * MAX_PAGES + page;
        int previous = now.rules.pageLength[at];
        now.rules.pageLength[at] = length;
        return previous;
    }

    public int restriction(int node, int what) throws IndexOutOfBoundsException, IllegalArgumentException {
        requireNode(node);
        requirePart(what, 2);
        switch (what) {
            case 0: return now.rules.term(now.tree, node);
            case 1: return now.rules.decidingNode(now.tree, node);
            default: return now.rules.lastClosedDay(now.tree, node);
        }
    }

    public int openPages(int node, int day) throws IndexOutOfBoundsException, IllegalArgumentException {
        requireNode(node);
        requireDay(day);
        return now.rules.openSet(now.tree, node, day);
    }

    public int firstDay(int copy) throws IndexOutOfBoundsException, NoSuchElementException {
        requireCopy(copy);
        int day = now.lastClosedDayOfCopy(copy) + 1;
        if (day > LAST_DAY) {
            throw new NoSuchElementException("the copy can be shown on no day");
        }
        return day;
    }

    // ---- containers

    public int addContainer(int capacity) throws IllegalArgumentException, IllegalStateException {
        requireCapacity(capacity);
        if (!now.containers.canOpen()) {
            throw new IllegalStateException("no further container");
        }
        remember();
        return now.containers.open(capacity);
    }

    public int put(int node, int container)
            throws IndexOutOfBoundsException, IllegalArgumentException, IllegalStateException {
        requireNode(node);
        requireContainer(container);
        requireUnit(node);
        Containers containers = now.containers;
        boolean isThere = containers.holder[node] == container;
        int load = containers.load(now.tree, container, 0) + (isThere ? 0 : now.tree.pages[node]);
        if (load > containers.capacity[container] || !containers.marks.hasRoom(1)) {
            throw new IllegalStateException("no room in the container");
        }
        remember();
        return containers.store(node, container);
    }

    public int takeOut(int node) throws IndexOutOfBoundsException, IllegalStateException {
        requireNode(node);
        int container = now.containers.holder[node];
        if (container == NONE) {
            throw new IllegalStateException("the node is in no container");
        }
        remember();
        now.containers.release(node);
        return container;
    }

    public int split(int container, int position, int capacity)
            throws IndexOutOfBoundsException, IllegalArgumentException, IllegalStateException {
        requireContainer(container);
        Containers containers = now.containers;
        if (containers.unitIn(container, position) == NONE) {
            throw new IndexOutOfBoundsException("no such position");
        }
        requireCapacity(capacity);
        int moved = containers.countUnits(container) - position;
        boolean isRoom = containers.load(now.tree, container, position) <= capacity && containers.marks.hasRoom(moved);
        if (!containers.canOpen() || !isRoom) {
            throw new IllegalStateException("no further container, or no room in it");
        }
        remember();
        int opened = containers.open(capacity);
        containers.storeAll(container, position, opened);
        return opened;
    }

    public int merge(int from, int to)
            throws IndexOutOfBoundsException, IllegalArgumentException, IllegalStateException {
        requireContainer(from);
        requireContainer(to);
        if (from == to) {
            throw new IllegalArgumentException("both containers are the same");
        }
        Containers containers = now.containers;
        int load = containers.load(now.tree, from, 0) + containers.load(now.tree, to, 0);
        if (load > containers.capacity[to] || !containers.marks.hasRoom(containers.countUnits(from))) {
            throw new IllegalStateException("no room in the container");
        }
        remember();
        int moved = containers.storeAll(from, 0, to);
        containers.close(from);
        return moved;
    }

    public int container(int container, int what) throws IndexOutOfBoundsException, IllegalArgumentException {
        requireContainer(container);
        requirePart(what, 3);
        switch (what) {
            case 0: return now.containers.capacity[container];
            case 1: return now.containers.countUnits(container);
            case 2: return now.containers.load(now.tree, container, 0);
            default: return now.containers.given[container];
        }
    }

    public int unitAt(int container, int position) throws IndexOutOfBoundsException {
        requireContainer(container);
        int unit = now.containers.unitIn(container, position);
        if (unit == NONE) {
            throw new IndexOutOfBoundsException("no such position");
        }
        return unit;
    }

    public int resolve(int container, int serial) throws NoSuchElementException {
        int unit = now.containers.marks.unitOf(container, serial);
        if (!now.tree.has(unit)) {
            throw new NoSuchElementException("the mark refers to no unit");
        }
        return unit;
    }

    // ---- copies and requests

    public int copy(int node, int hidden)
            throws IndexOutOfBoundsException, IllegalArgumentException, IllegalStateException {
        requireNode(node);
        requireUnit(node);
        int all = now.tree.pageSet(node);
        if ((hidden & ~all) != 0 || hidden == all) {
            throw new IllegalArgumentException("no such set of hidden pages");
        }
        if (now.copies.made >= MAX_COPIES) {
            throw new IllegalStateException("there have been all copies");
        }
        remember();
        return now.copies.make(node, hidden);
    }

    public int copyPart(int copy, int what) throws IndexOutOfBoundsException, IllegalArgumentException {
        requireCopy(copy);
        requirePart(what, 3);
        int unit = now.copies.unit[copy];
        switch (what) {
            case 0: return unit;
            case 1: return now.copies.hidden[copy];
            case 2: return Integer.bitCount(now.shownSet(unit, copy));
            default: return now.requests.countShowing(copy);
        }
    }

    public int setSeats(int seats) throws IllegalArgumentException {
        if (seats < 1 || seats > MAX_SEATS) {
            throw new IllegalArgumentException("no such number of seats");
        }
        remember();
        int previous = now.seats;
        now.seats = seats;
        return previous;
    }

    public int request(int reader, int node, int day)
            throws IndexOutOfBoundsException, IllegalArgumentException, IllegalStateException,
            UnsupportedOperationException {
        if (reader < 0 || reader >= READERS) {
            throw new IndexOutOfBoundsException("no such reader");
        }
        requireNode(node);
        requireUnit(node);
        requireDay(day);
        if (now.requests.count >= MAX_REQUESTS) {
            throw new IllegalStateException("there are all requests");
        }
        int shown = now.chooseShown(node, day);
        int cause = now.causeOfReader(reader, day);
        if (cause == NO_CAUSE && shown == REFUSED) {
            cause = now.causeOfUnit(node, day);
        }
        if (cause != NO_CAUSE) {
            fillReport(node, cause, now.detailOf(cause, reader, node, day));
            throw new UnsupportedOperationException("the request is refused");
        }
        remember();
        now.requests.append(reader, node, day, shown);
        return shown;
    }

    public int requestPart(int i, int what) throws IndexOutOfBoundsException, IllegalArgumentException {
        requireRequest(i);
        requirePart(what, 4);
        switch (what) {
            case 0: return now.requests.reader[i];
            case 1: return now.requests.unit[i];
            case 2: return now.requests.day[i];
            case 3: return now.requests.shown[i];
            default: return now.countShownPages(i);
        }
    }

    public int cancel(int i) throws IndexOutOfBoundsException {
        requireRequest(i);
        remember();
        now.requests.drop(i);
        return now.requests.count;
    }

    public int review() {
        remember();
        int before = now.requests.count;
        for (int i = before - 1; i >= 0; i--) {
            if (!now.mayStay(i)) {
                now.requests.drop(i);
            }
        }
        return before - now.requests.count;
    }

    public int account(int what) throws IllegalArgumentException {
        requirePart(what, 9);
        switch (what) {
            case 0: return now.tree.size;
            case 1: return now.tree.countUnits();
            case 2: return now.tree.countPages(ROOT);
            case 3: return now.containers.open;
            case 4: return now.containers.stored;
            case 5: return now.copies.countPresent();
            case 6: return now.requests.count;
            case 7: return now.countAllShownPages();
            case 8: return now.requests.countShowing(ORIGINAL);
            default: return now.containers.marks.countReferring(now.tree);
        }
    }

    public int dayCount(int day, int what) throws IllegalArgumentException {
        requireDay(day);
        requirePart(what, 3);
        switch (what) {
            case 0: return now.requests.countOn(day);
            case 1: return now.requests.countReaders(day);
            case 2: return now.countOpenUnits(day);
            default: return now.countOpenPages(day);
        }
    }

    public double openShare(int day) throws IllegalArgumentException, ArithmeticException {
        requireDay(day);
        int pages = now.tree.countPages(ROOT);
        if (pages == 0) {
            throw new ArithmeticException("there are no units");
        }
        return (double) now.countOpenPages(day) / pages;
    }

    // ---- reports, texts, undo and snapshots

    public int report(int level, int what) throws NoSuchElementException, IllegalArgumentException {
        if (level < 0 || level >= report.levels) {
            throw new NoSuchElementException("no such level");
        }
        requirePart(what, 1);
        return what == 0 ? report.code[level] : report.detail[level];
    }

    public int feed(char letter) throws IllegalStateException {
        if (input.length >= MAX_INPUT) {
            throw new IllegalStateException("the input buffer is full");
        }
        return input.append(letter);
    }

    public int read(int parent) throws IndexOutOfBoundsException, UnsupportedOperationException {
        requireNode(parent);
        int error = input.parse();
        input.length = 0;
        if (error != NONE) {
            return SYNTAX_ERROR - error;
        }
        if (!canGraft(parent)) {
            throw new UnsupportedOperationException("a node of the text cannot be added");
        }
        remember();
        graft(parent);
        return input.nodes;
    }

    public int write(int node) throws IndexOutOfBoundsException {
        requireNode(node);
        text.setLength(0);
        Tree tree = now.tree;
        int start = tree.place(node);
        int end = start + tree.below[node];
        int top = tree.depth(node);
        for (int i = start; i <= end; i++) {
            int next = i < end ? tree.depth(tree.line[i + 1]) : top;
            appendNode(tree.line[i]);
            appendLink(tree.depth(tree.line[i]), next, i < end);
        }
        return text.length();
    }

    public char text(int i) throws IndexOutOfBoundsException {
        if (i < 0 || i >= text.length()) {
            throw new IndexOutOfBoundsException("no such index");
        }
        return text.charAt(i);
    }

    public int undo() throws IllegalStateException {
        State before = past[newest];
        if (undoable == 0 || before == null) {
            throw new IllegalStateException("no change can be taken back");
        }
        now.takeOver(before);
        newest = (newest + MAX_UNDO - 1) % MAX_UNDO;
        undoable--;
        return undoable;
    }

    public int save() {
        if (saved == null) {
            saved = new State();
        }
        saved.takeOver(now);
        return now.tree.size;
    }

    public int restore() throws IllegalStateException {
        if (saved == null) {
            throw new IllegalStateException("nothing was saved");
        }
        now.takeOver(saved);
        undoable = 0;
        return now.tree.size;
    }

    // ---- what the calls ask of their arguments

    private static boolean isDay(int day) {
        return day >= 0 && day <= LAST_DAY;
    }

    private static boolean fitsBelow(int parentKind, int kind, int pages, int from, int to) {
        if (kind < SERIES || kind > LAST_KIND || kind <= parentKind) {
            return false;
        }
        if (pages < 0 || pages > (kind == SERIES ? 0 : MAX_PAGES)) {
            return false;
        }
        return from == NONE || isDay(from) && isDay(to) && from <= to;
    }

    private void requireNode(int node) {
        if (!now.tree.has(node)) {
            throw new IndexOutOfBoundsException("no such node");
        }
    }

    private void requireUnit(int node) {
        if (now.tree.pages[node] == 0) {
            throw new IllegalArgumentException("the node is no unit");
        }
    }

    private void requireContainer(int container) {
        if (!now.containers.has(container)) {
            throw new IndexOutOfBoundsException("no such container");
        }
    }

    private void requireCopy(int copy) {
        if (!now.copies.has(copy)) {
            throw new IndexOutOfBoundsException("no such copy");
        }
    }

    private void requireRequest(int i) {
        if (i < 0 || i >= now.requests.count) {
            throw new IndexOutOfBoundsException("no such request");
        }
    }

    private static void requirePart(int what, int last) {
        if (what < 0 || what > last) {
            throw new IllegalArgumentException("no such part");
        }
    }

    private static void requireDay(int day) {
        if (!isDay(day)) {
            throw new IllegalArgumentException("no such day");
        }
    }

    private static void requireCapacity(int capacity) {
        if (capacity < 1 || capacity > MAX_CAPACITY) {
            throw new IllegalArgumentException("no such capacity");
        }
    }

    // ---- what the calls share

    /** Keeps the state for undo; the states are made once and used again, as the oldest is forgotten. */
    private void remember() {
        newest = (newest + 1) % MAX_UNDO;
        if (past[newest] == null) {
            past[newest] = new State();
        }
        past[newest].takeOver(now);
        undoable = Math.min(undoable + 1, MAX_UNDO);
    }

    private void fillReport(int node, int cause, int detail) {
        report.levels = 0;
        report.append(REFUSED_UNIT, node);
        report.append(cause, detail);
        if (cause >= UNIT_CLOSED) {
            report.append(COPIES_OF_UNIT, now.copies.countOf(node));
        }
    }

    private boolean canGraft(int parent) {
        if (input.nodes > MAX_NODES - now.tree.made) {
            return false;
        }
        for (int i = 0; i < input.nodes; i++) {
            int above = input.parent[i];
            int parentKind = above == NONE ? now.tree.kind[parent] : input.kind[above];
            if (!fitsBelow(parentKind, input.kind[i], input.pages[i], input.from[i], input.to[i])) {
                return false;
            }
        }
        return true;
    }

    private void graft(int parent) {
        int first = now.tree.made;
        for (int i = 0; i < input.nodes; i++) {
            int above = input.parent[i] == NONE ? parent : first + input.parent[i];
            now.tree.grow(above, input.kind[i], input.pages[i], input.from[i], input.to[i]);
        }
    }

    private void appendNode(int node) {
        text.append((char) ('0' + now.tree.kind[node]));
        if (now.tree.pages[node] > 0) {
            text.append('p').append(now.tree.pages[node]);
        }
        if (now.tree.from[node] != NONE) {
            text.append('@').append(now.tree.from[node]).append('-').append(now.tree.to[node]);
        }
    }

    /** Appends what stands behind a node, which follows from the depth of the next one alone. */
    private void appendLink(int depth, int nextDepth, boolean hasNext) {
        if (nextDepth > depth) {
            text.append('(');
            return;
        }
        for (int i = nextDepth; i < depth; i++) {
            text.append(')');
        }
        if (hasNext) {
            text.append(',');
        }
    }

    /** All that undo takes back and restore brings back. */
    private static final class State {
        final Tree tree = new Tree();
        final Rules rules = new Rules();
        final Containers containers = new Containers();
        final Copies copies = new Copies();
        final Requests requests = new Requests();
        int seats = FIRST_SEATS;

        void takeOver(State other) {
            tree.takeOver(other.tree);
            rules.takeOver(other.rules);
            containers.takeOver(other.containers);
            copies.takeOver(other.copies);
            requests.takeOver(other.requests);
            seats = other.seats;
        }

        void forgetRemovedUnits() {
            containers.forgetRemovedUnits(tree);
            copies.forgetRemovedUnits(tree);
            requests.forgetRemovedUnits(tree);
        }

        int shownSet(int unit, int shown) {
            int all = tree.pageSet(unit);
            return shown == ORIGINAL ? all : all & ~copies.hidden[shown];
        }

        boolean isOpen(int unit, int shown, int day) {
            return (shownSet(unit, shown) & ~rules.openSet(tree, unit, day)) == 0;
        }

        int lastClosedDayOfCopy(int copy) {
            int unit = copies.unit[copy];
            int visible = shownSet(unit, copy);
            int latest = tree.latestDay(unit);
            int last = rules.lastClosedDay(tree, unit);
            for (int page = 0; page < tree.pages[unit]; page++) {
                if ((visible & (1 << page)) != 0) {
                    last = Math.max(last, rules.lastClosedDayOfPage(unit, page, latest));
                }
            }
            return last;
        }

        int causeOfReader(int reader, int day) {
            int own = requests.countOfReader(reader, day);
            if (own >= MAX_REQUESTS_OF_A_READER) {
                return TOO_MANY_REQUESTS;
            }
            return own == 0 && requests.countReaders(day) >= seats ? NO_SEAT : NO_CAUSE;
        }

        int chooseShown(int unit, int day) {
            boolean isFree = requests.find(unit, day, ORIGINAL) == NONE;
            if (isFree && containers.holder[unit] != NONE && isOpen(unit, ORIGINAL, day)) {
                return ORIGINAL;
            }
            for (int copy = 0; copy < copies.made; copy++) {
                if (copies.unit[copy] == unit && requests.find(unit, day, copy) == NONE && isOpen(unit, copy, day)) {
                    return copy;
                }
            }
            return REFUSED;
        }

        int causeOfUnit(int unit, int day) {
            if (day <= rules.lastClosedDay(tree, unit)) {
                return UNIT_CLOSED;
            }
            if (!isOpen(unit, ORIGINAL, day)) {
                return PAGE_CLOSED;
            }
            return containers.holder[unit] == NONE ? NO_CONTAINER : ORIGINAL_SHOWN;
        }

        int detailOf(int cause, int reader, int unit, int day) {
            switch (cause) {
                case TOO_MANY_REQUESTS: return reader;
                case NO_SEAT: return day;
                case UNIT_CLOSED: return rules.decidingNode(tree, unit);
                case PAGE_CLOSED: return lowestClosedPage(unit, day);
                case NO_CONTAINER: return unit;
                default: return readerOfOriginal(unit, day);
            }
        }

        int lowestClosedPage(int unit, int day) {
            int open = rules.openSet(tree, unit, day);
            for (int page = 0; page < tree.pages[unit]; page++) {
                if ((open & (1 << page)) == 0) {
                    return page;
                }
            }
            return NONE;
        }

        int readerOfOriginal(int unit, int day) {
            int i = requests.find(unit, day, ORIGINAL);
            return i == NONE ? NONE : requests.reader[i];
        }

        boolean mayStay(int i) {
            int unit = requests.unit[i];
            int shown = requests.shown[i];
            boolean isThere = shown != ORIGINAL || containers.holder[unit] != NONE;
            return isThere && isOpen(unit, shown, requests.day[i]);
        }

        int countShownPages(int i) {
            return Integer.bitCount(shownSet(requests.unit[i], requests.shown[i]));
        }

        int countAllShownPages() {
            int pages = 0;
            for (int i = 0; i < requests.count; i++) {
                pages += countShownPages(i);
            }
            return pages;
        }

        int countOpenUnits(int day) {
            int units = 0;
            for (int i = 0; i < tree.size; i++) {
                int node = tree.line[i];
                if (tree.pages[node] > 0 && isOpen(node, ORIGINAL, day)) {
                    units++;
                }
            }
            return units;
        }

        int countOpenPages(int day) {
            int pages = 0;
            for (int i = 0; i < tree.size; i++) {
                pages += Integer.bitCount(rules.openSet(tree, tree.line[i], day));
            }
            return pages;
        }
    }

    /**
     * The nodes. The line holds those that exist in the order in which a description names them, so that a node and
     * all nodes below it always stand side by side.
     */
    private static final class Tree {
        int made = 1;
        int size = 1;
        final int[] line = new int[MAX_NODES];
        final int[] stretch = new int[MAX_NODES];
        final int[] kind = new int[MAX_NODES];
        final int[] parent = new int[MAX_NODES];
        final int[] below = new int[MAX_NODES];
        final int[] pages = new int[MAX_NODES];
        final int[] from = new int[MAX_NODES];
        final int[] to = new int[MAX_NODES];

        Tree() {
            Arrays.fill(kind, NONE);
            kind[ROOT] = 0;
            parent[ROOT] = NONE;
            from[ROOT] = NONE;
            to[ROOT] = NONE;
        }

        /** Leaves out the stretch, which matters within a call alone. */
        void takeOver(Tree other) {
            made = other.made;
            size = other.size;
            System.arraycopy(other.line, 0, line, 0, MAX_NODES);
            System.arraycopy(other.kind, 0, kind, 0, MAX_NODES);
            System.arraycopy(other.parent, 0, parent, 0, MAX_NODES);
            System.arraycopy(other.below, 0, below, 0, MAX_NODES);
            System.arraycopy(other.pages, 0, pages, 0, MAX_NODES);
            System.arraycopy(other.from, 0, from, 0, MAX_NODES);
            System.arraycopy(other.to, 0, to, 0, MAX_NODES);
        }

        boolean has(int node) {
            return node >= 0 && node < made && kind[node] != NONE;
        }

        int grow(int under, int itsKind, int itsPages, int itsFrom, int itsTo) {
            int node = made;
            made++;
            kind[node] = itsKind;
            below[node] = 0;
            pages[node] = itsPages;
            from[node] = itsFrom;
            to[node] = itsFrom == NONE ? NONE : itsTo;
            stretch[0] = node;
            hang(node, under);
            return node;
        }

        int fell(int node) {
            int gone = below[node] + 1;
            cut(node);
            for (int i = 0; i < gone; i++) {
                kind[stretch[i]] = NONE;
            }
            return gone;
        }

        /** Moves a node and all below it from the line to the stretch. */
        void cut(int node) {
            int count = below[node] + 1;
            int at = place(node);
            System.arraycopy(line, at, stretch, 0, count);
            System.arraycopy(line, at + count, line, at, size - at - count);
            size -= count;
            widen(parent[node], -count);
        }

        /** Moves a node and all below it from the stretch to the end of what is below another node. */
        void hang(int node, int under) {
            int count = below[node] + 1;
            int at = place(under) + below[under] + 1;
            System.arraycopy(line, at, line, at + count, size - at);
            System.arraycopy(stretch, 0, line, at, count);
            size += count;
            parent[node] = under;
            widen(under, count);
        }

        private void widen(int lowest, int count) {
            int node = lowest;
            for (int steps = 0; steps <= LAST_KIND && node != NONE; steps++) {
                below[node] += count;
                node = parent[node];
            }
        }

        int place(int node) {
            int at = 0;
            while (at < size - 1 && line[at] != node) {
                at++;
            }
            return at;
        }

        int depth(int node) {
            int depth = 0;
            for (int at = parent[node]; depth < LAST_KIND && at != NONE; at = parent[at]) {
                depth++;
            }
            return depth;
        }

        int latestDay(int node) {
            int start = place(node);
            int end = start + below[node];
            int latest = NONE;
            for (int i = start; i <= end; i++) {
                latest = Math.max(latest, to[line[i]]);
            }
            return latest;
        }

        int countPages(int node) {
            int start = place(node);
            int end = start + below[node];
            int count = 0;
            for (int i = start; i <= end; i++) {
                count += pages[line[i]];
            }
            return count;
        }

        int countUnits() {
            int units = 0;
            for (int i = 0; i < size; i++) {
                if (pages[line[i]] > 0) {
                    units++;
                }
            }
            return units;
        }

        int countChildren(int node) {
            int children = 0;
            for (int i = 0; i < size; i++) {
                if (parent[line[i]] == node) {
                    children++;
                }
            }
            return children;
        }

        int findChild(int node, int position) {
            int children = 0;
            for (int i = 0; i < size; i++) {
                if (parent[line[i]] == node) {
                    if (children == position) {
                        return line[i];
                    }
                    children++;
                }
            }
            return NONE;
        }

        int pageSet(int node) {
            return (1 << pages[node]) - 1;
        }
    }

    /** The rules of the nodes, and the lengths of single pages, of which 0 stands for none. */
    private static final class Rules {
        final int[] mode = new int[MAX_NODES];
        final int[] length = new int[MAX_NODES];
        final int[] pageLength = new int[MAX_NODES * MAX_PAGES];

        Rules() {
            Arrays.fill(mode, NONE);
        }

        void takeOver(Rules other) {
            System.arraycopy(other.mode, 0, mode, 0, MAX_NODES);
            System.arraycopy(other.length, 0, length, 0, MAX_NODES);
            System.arraycopy(other.pageLength, 0, pageLength, 0, MAX_NODES * MAX_PAGES);
        }

        /**
         * Goes up from the node to the first rule that makes the term whatever was above it. The greatest length on
         * the way decides, and of equal ones the uppermost, as a rule that adds has to be greater to change the term.
         */
        int decidingNode(Tree tree, int node) {
            int deciding = NONE;
            int greatest = 0;
            int at = node;
            for (int steps = 0; steps <= LAST_KIND && at != NONE && mode[at] != OPENS; steps++) {
                if (mode[at] != NONE && length[at] >= greatest) {
                    greatest = length[at];
                    deciding = at;
                }
                at = mode[at] == REPLACES ? NONE : tree.parent[at];
            }
            return deciding;
        }

        int term(Tree tree, int node) {
            int deciding = decidingNode(tree, node);
            return deciding == NONE ? 0 : length[deciding];
        }

        int lastClosedDay(Tree tree, int node) {
            return lastDay(term(tree, node), tree.latestDay(node));
        }

        int lastClosedDayOfPage(int unit, int page, int latest) {
            return lastDay(pageLength[unit * MAX_PAGES + page], latest);
        }

        private static int lastDay(int term, int latest) {
            if (term == 0) {
                return NONE;
            }
            return latest == NONE ? CLOSED_ON_ALL_DAYS : latest + term;
        }

        int openSet(Tree tree, int node, int day) {
            if (tree.pages[node] == 0 || day <= lastClosedDay(tree, node)) {
                return 0;
            }
            int latest = tree.latestDay(node);
            int open = 0;
            for (int page = 0; page < tree.pages[node]; page++) {
                if (day > lastClosedDayOfPage(node, page, latest)) {
                    open |= 1 << page;
                }
            }
            return open;
        }
    }

    /**
     * The containers, of which those that do not exist have the capacity 0. One row holds the units of all of them,
     * each unit where it was put last, so that the units of one container stand there in its order.
     */
    private static final class Containers {
        int made = 0;
        int open = 0;
        int stored = 0;
        final int[] capacity = new int[MAX_CONTAINERS];
        final int[] given = new int[MAX_CONTAINERS];
        final int[] row = new int[MAX_NODES];
        final int[] holder = new int[MAX_NODES];
        final int[] serial = new int[MAX_NODES];
        final Marks marks = new Marks();

        Containers() {
            Arrays.fill(holder, NONE);
            Arrays.fill(serial, NONE);
        }

        void takeOver(Containers other) {
            made = other.made;
            open = other.open;
            stored = other.stored;
            System.arraycopy(other.capacity, 0, capacity, 0, MAX_CONTAINERS);
            System.arraycopy(other.given, 0, given, 0, MAX_CONTAINERS);
            System.arraycopy(other.row, 0, row, 0, MAX_NODES);
            System.arraycopy(other.holder, 0, holder, 0, MAX_NODES);
            System.arraycopy(other.serial, 0, serial, 0, MAX_NODES);
            marks.takeOver(other.marks);
        }

        boolean has(int container) {
            return container >= 0 && container < made && capacity[container] > 0;
        }

        boolean canOpen() {
            return open < MAX_CONTAINERS_AT_A_TIME && made < MAX_CONTAINERS;
        }

        int open(int itsCapacity) {
            int container = made;
            capacity[container] = itsCapacity;
            made++;
            open++;
            return container;
        }

        void close(int container) {
            capacity[container] = 0;
            open--;
        }

        int store(int unit, int container) {
            release(unit);
            row[stored] = unit;
            stored++;
            given[container]++;
            holder[unit] = container;
            serial[unit] = given[container];
            marks.give(container, unit);
            return given[container];
        }

        int storeAll(int container, int position, int target) {
            int moved = countUnits(container) - position;
            for (int i = 0; i < moved; i++) {
                store(unitIn(container, position), target);
            }
            return moved;
        }

        void release(int unit) {
            if (holder[unit] == NONE) {
                return;
            }
            int at = 0;
            while (at < stored - 1 && row[at] != unit) {
                at++;
            }
            stored--;
            System.arraycopy(row, at + 1, row, at, stored - at);
            holder[unit] = NONE;
            serial[unit] = NONE;
        }

        void forgetRemovedUnits(Tree tree) {
            for (int i = stored - 1; i >= 0; i--) {
                if (!tree.has(row[i])) {
                    release(row[i]);
                }
            }
        }

        int countUnits(int container) {
            int units = 0;
            for (int i = 0; i < stored; i++) {
                if (holder[row[i]] == container) {
                    units++;
                }
            }
            return units;
        }

        int unitIn(int container, int position) {
            int units = 0;
            for (int i = 0; i < stored; i++) {
                if (holder[row[i]] == container) {
                    if (units == position) {
                        return row[i];
                    }
                    units++;
                }
            }
            return NONE;
        }

        /** The sum of the pages of the units from a position on. */
        int load(Tree tree, int container, int position) {
            int units = 0;
            int pages = 0;
            for (int i = 0; i < stored; i++) {
                if (holder[row[i]] == container) {
                    pages += units >= position ? tree.pages[row[i]] : 0;
                    units++;
                }
            }
            return pages;
        }
    }

    /** All marks in the order in which they were given, so that the n-th one of a container has the serial number n. */
    private static final class Marks {
        int count = 0;
        int[] container = new int[FIRST_MARKS];
        int[] unit = new int[FIRST_MARKS];

        void takeOver(Marks other) {
            if (unit.length < other.count) {
                container = new int[other.unit.length];
                unit = new int[other.unit.length];
            }
            count = other.count;
            System.arraycopy(other.container, 0, container, 0, count);
            System.arraycopy(other.unit, 0, unit, 0, count);
        }

        boolean hasRoom(int more) {
            return more <= MAX_MARKS - count;
        }

        void give(int itsContainer, int itsUnit) {
            if (count >= unit.length) {
                int longer = Math.min(2 * unit.length, MAX_MARKS);
                container = Arrays.copyOf(container, longer);
                unit = Arrays.copyOf(unit, longer);
            }
            container[count] = itsContainer;
            unit[count] = itsUnit;
            count++;
        }

        int unitOf(int itsContainer, int serial) {
            int last = 0;
            for (int i = 0; i < count; i++) {
                if (container[i] == itsContainer) {
                    last++;
                    if (last == serial) {
                        return unit[i];
                    }
                }
            }
            return NONE;
        }

        int countReferring(Tree tree) {
            int referring = 0;
            for (int i = 0; i < count; i++) {
                if (tree.has(unit[i])) {
                    referring++;
                }
            }
            return referring;
        }
    }

    /** The copies; one that does not exist any more has no unit. */
    private static final class Copies {
        int made = 0;
        final int[] unit = new int[MAX_COPIES];
        final int[] hidden = new int[MAX_COPIES];

        void takeOver(Copies other) {
            made = other.made;
            System.arraycopy(other.unit, 0, unit, 0, MAX_COPIES);
            System.arraycopy(other.hidden, 0, hidden, 0, MAX_COPIES);
        }

        boolean has(int copy) {
            return copy >= 0 && copy < made && unit[copy] != NONE;
        }

        int make(int itsUnit, int itsHidden) {
            int copy = made;
            unit[copy] = itsUnit;
            hidden[copy] = itsHidden;
            made++;
            return copy;
        }

        void forgetRemovedUnits(Tree tree) {
            for (int copy = 0; copy < made; copy++) {
                if (!tree.has(unit[copy])) {
                    unit[copy] = NONE;
                }
            }
        }

        int countOf(int itsUnit) {
            int copies = 0;
            for (int copy = 0; copy < made; copy++) {
                if (unit[copy] == itsUnit) {
                    copies++;
                }
            }
            return copies;
        }

        int countPresent() {
            return made - countOf(NONE);
        }
    }

    /** The requests that were granted and not cancelled. */
    private static final class Requests {
        int count = 0;
        final int[] reader = new int[MAX_REQUESTS];
        final int[] unit = new int[MAX_REQUESTS];
        final int[] day = new int[MAX_REQUESTS];
        final int[] shown = new int[MAX_REQUESTS];

        void takeOver(Requests other) {
            count = other.count;
            System.arraycopy(other.reader, 0, reader, 0, MAX_REQUESTS);
            System.arraycopy(other.unit, 0, unit, 0, MAX_REQUESTS);
            System.arraycopy(other.day, 0, day, 0, MAX_REQUESTS);
            System.arraycopy(other.shown, 0, shown, 0, MAX_REQUESTS);
        }

        void append(int itsReader, int itsUnit, int itsDay, int itsShown) {
            reader[count] = itsReader;
            unit[count] = itsUnit;
            day[count] = itsDay;
            shown[count] = itsShown;
            count++;
        }

        void drop(int i) {
            count--;
            System.arraycopy(reader, i + 1, reader, i, count - i);
            System.arraycopy(unit, i + 1, unit, i, count - i);
            System.arraycopy(day, i + 1, day, i, count - i);
            System.arraycopy(shown, i + 1, shown, i, count - i);
        }

        void forgetRemovedUnits(Tree tree) {
            for (int i = count - 1; i >= 0; i--) {
                if (!tree.has(unit[i])) {
                    drop(i);
                }
            }
        }

        int find(int itsUnit, int itsDay, int itsShown) {
            for (int i = 0; i < count; i++) {
                if (unit[i] == itsUnit && day[i] == itsDay && shown[i] == itsShown) {
                    return i;
                }
            }
            return NONE;
        }

        int countOn(int itsDay) {
            int requests = 0;
            for (int i = 0; i < count; i++) {
                if (day[i] == itsDay) {
                    requests++;
                }
            }
            return requests;
        }

        int countOfReader(int itsReader, int itsDay) {
            int requests = 0;
            for (int i = 0; i < count; i++) {
                if (reader[i] == itsReader && day[i] == itsDay) {
                    requests++;
                }
            }
            return requests;
        }

        int countReaders(int itsDay) {
            int readers = 0;
            for (int i = 0; i < count; i++) {
                if (day[i] == itsDay) {
                    readers |= 1 << reader[i];
                }
            }
            return Integer.bitCount(readers);
        }

        int countShowing(int itsShown) {
            int requests = 0;
            for (int i = 0; i < count; i++) {
                if (shown[i] == itsShown) {
                    requests++;
                }
            }
            return requests;
        }
    }

    /** Why the latest refused request was refused. */
    private static final class Report {
        int levels = 0;
        final int[] code = new int[REPORT_LEVELS];
        final int[] detail = new int[REPORT_LEVELS];

        void append(int itsCode, int itsDetail) {
            code[levels] = itsCode;
            detail[levels] = itsDetail;
            levels++;
        }
    }

    /** The input buffer, and the nodes that its text describes, each with the place of its parent among them. */
    private static final class Input {
        int length = 0;
        int nodes = 0;
        final int[] kind = new int[MAX_INPUT];
        final int[] parent = new int[MAX_INPUT];
        final int[] pages = new int[MAX_INPUT];
        final int[] from = new int[MAX_INPUT];
        final int[] to = new int[MAX_INPUT];
        private final char[] letters = new char[MAX_INPUT];
        private int at = 0;

        int append(char letter) {
            letters[length] = letter;
            length++;
            return length;
        }

        /** Answers the error position, or that there is none. */
        int parse() {
            at = 0;
            nodes = 0;
            int above = NONE;
            for (int round = 0; round < MAX_INPUT; round++) {
                if (!parseNode(above)) {
                    return at;
                }
                if (accept('(')) {
                    above = nodes - 1;
                } else {
                    above = parseEnds(above);
                    if (above == NONE) {
                        return at == length ? NONE : at;
                    }
                    if (!accept(',')) {
                        return at;
                    }
                }
            }
            return at;
        }

        private boolean parseNode(int above) {
            int itsKind = digit();
            if (itsKind == NONE || itsKind > LAST_KIND) {
                return false;
            }
            at++;
            int itsPages = accept('p') ? number() : 0;
            if (itsPages == NONE) {
                return false;
            }
            boolean hasDates = accept('@');
            int itsFrom = hasDates ? number() : NONE;
            if (hasDates && (itsFrom == NONE || !accept('-'))) {
                return false;
            }
            int itsTo = hasDates ? number() : NONE;
            if (hasDates && itsTo == NONE) {
                return false;
            }
            kind[nodes] = itsKind;
            parent[nodes] = above;
            pages[nodes] = itsPages;
            from[nodes] = itsFrom;
            to[nodes] = itsTo;
            nodes++;
            return true;
        }

        /** Reads the ends of lists of nodes; answers the node whose list goes on. */
        private int parseEnds(int above) {
            int open = above;
            for (int round = 0; round < MAX_INPUT && open != NONE && accept(')'); round++) {
                open = parent[open];
            }
            return open;
        }

        private boolean accept(char letter) {
            if (at < length && letters[at] == letter) {
                at++;
                return true;
            }
            return false;
        }

        private int digit() {
            return at < length && letters[at] >= '0' && letters[at] <= '9' ? letters[at] - '0' : NONE;
        }

        private int number() {
            int number = digit();
            for (int digits = 0; digits < MAX_DIGITS && digit() != NONE; digits++) {
                number = digits == 0 ? digit() : 10 * number + digit();
                at++;
            }
            return number;
        }
    }
}
