import java.util.ArrayList;
import java.util.HashMap;
import java.util.List;
import java.util.Map;
import java.util.NoSuchElementException;
import java.util.TreeMap;
import java.util.TreeSet;

/**
 * The document once more, in another way than the program's: whole states are cloned, days are tried one by one, and
 * texts are read by an automaton that goes on letter by letter.
 */
final class Model {
    private static final class Node {
        int kind;
        int parent;
        int pages;
        int from;
        int to;
        int mode = -1;
        int length;
        int[] lengths = new int[20];
        List<Integer> children = new ArrayList<>();

        Node copyOf() {
            Node copy = new Node();
            copy.kind = kind;
            copy.parent = parent;
            copy.pages = pages;
            copy.from = from;
            copy.to = to;
            copy.mode = mode;
            copy.length = length;
            copy.lengths = lengths.clone();
            copy.children = new ArrayList<>(children);
            return copy;
        }
    }

    private static final class Box {
        int capacity;
        int given;
        List<Integer> units = new ArrayList<>();
    }

    private static final class World {
        Map<Integer, Node> nodes = new TreeMap<>();
        int nodesMade;
        Map<Integer, Box> boxes = new TreeMap<>();
        int boxesMade;
        Map<Integer, int[]> copies = new TreeMap<>();
        int copiesMade;
        List<int[]> requests = new ArrayList<>();
        Map<String, Integer> marks = new HashMap<>();
        Map<Integer, Integer> serials = new HashMap<>();
        int seats = 3;

        World copyOf() {
            World copy = new World();
            nodes.forEach((number, node) -> copy.nodes.put(number, node.copyOf()));
            copy.nodesMade = nodesMade;
            boxes.forEach((number, box) -> {
                Box its = new Box();
                its.capacity = box.capacity;
                its.given = box.given;
                its.units = new ArrayList<>(box.units);
                copy.boxes.put(number, its);
            });
            copy.boxesMade = boxesMade;
            copy.copies.putAll(copies);
            copy.copiesMade = copiesMade;
            copy.requests.addAll(requests);
            copy.marks.putAll(marks);
            copy.serials.putAll(serials);
            copy.seats = seats;
            return copy;
        }
    }

    private World w = new World();
    private final ArrayList<World> past = new ArrayList<>();
    private World saved;
    private final List<int[]> levels = new ArrayList<>();
    private String buffer = "";
    private String written = "";

    Model() {
        Node root = new Node();
        root.parent = -1;
        root.from = -1;
        root.to = -1;
        w.nodes.put(0, root);
        w.nodesMade = 1;
    }

    private static void need(boolean holds, RuntimeException otherwise) {
        if (!holds) {
            throw otherwise;
        }
    }

    private static IndexOutOfBoundsException index() {
        return new IndexOutOfBoundsException();
    }

    private static IllegalArgumentException argument() {
        return new IllegalArgumentException();
    }

    private static IllegalStateException state() {
        return new IllegalStateException();
    }

    private Node at(int node) {
        need(w.nodes.containsKey(node), index());
        return w.nodes.get(node);
    }

    private void part(int what, int last) {
        need(0 <= what && what <= last, argument());
    }

    private void day(int day) {
        need(0 <= day && day <= 9999, argument());
    }

    private void change() {
        past.add(w.copyOf());
        if (past.size() > 8) {
            past.remove(0);
        }
    }

    int add(int parent, int kind, int pages, int from, int to) {
        Node above = at(parent);
        need(1 <= kind && kind <= 3 && kind > above.kind, argument());
        need(0 <= pages && pages <= 20 && (kind != 1 || pages == 0), argument());
        if (from != -1) {
            day(from);
            day(to);
            need(from <= to, argument());
        }
        need(w.nodesMade < 40, state());
        change();
        Node node = new Node();
        node.kind = kind;
        node.parent = parent;
        node.pages = pages;
        node.from = from;
        node.to = from == -1 ? -1 : to;
        w.nodes.put(w.nodesMade, node);
        w.nodes.get(parent).children.add(w.nodesMade);
        return w.nodesMade++;
    }

    /** The node and all below it, each before those below it. */
    private List<Integer> tree(int node) {
        List<Integer> all = new ArrayList<>();
        all.add(node);
        for (int child : w.nodes.get(node).children) {
            all.addAll(tree(child));
        }
        return all;
    }

    int remove(int node) {
        Node gone = at(node);
        need(node != 0, argument());
        change();
        gone = w.nodes.get(node);
        List<Integer> all = tree(node);
        w.nodes.get(gone.parent).children.remove((Integer) node);
        for (int one : all) {
            w.nodes.remove(one);
            w.boxes.values().forEach(box -> box.units.remove((Integer) one));
            w.copies.values().removeIf(copy -> copy[0] == one);
            w.requests.removeIf(request -> request[1] == one);
            w.marks.values().removeIf(unit -> unit == one);
        }
        return all.size();
    }

    int move(int node, int parent) {
        Node moved = at(node);
        Node above = at(parent);
        need(node != 0 && !tree(node).contains(parent) && above.kind < moved.kind, argument());
        change();
        int previous = moved.parent;
        w.nodes.get(previous).children.remove((Integer) node);
        w.nodes.get(parent).children.add(node);
        w.nodes.get(node).parent = parent;
        return previous;
    }

    private int latest(int node) {
        return tree(node).stream().mapToInt(one -> w.nodes.get(one).to).max().orElse(-1);
    }

    private int boxOf(int node) {
        for (int box : w.boxes.keySet()) {
            if (w.boxes.get(box).units.contains(node)) {
                return box;
            }
        }
        return -1;
    }

    int node(int node, int what) {
        Node its = at(node);
        part(what, 11);
        switch (what) {
            case 0: return its.kind;
            case 1: return its.parent;
            case 2: return its.pages;
            case 3: return its.from;
            case 4: return its.to;
            case 5: return latest(node);
            case 6: return its.children.size();
            case 7: return tree(node).size() - 1;
            case 8: return tree(node).stream().mapToInt(one -> w.nodes.get(one).pages).sum();
            case 9: return boxOf(node);
            case 10: return boxOf(node) == -1 ? -1 : w.serials.get(node);
            default: return (int) w.copies.values().stream().filter(copy -> copy[0] == node).count();
        }
    }

    int child(int node, int i) {
        Node its = at(node);
        need(0 <= i && i < its.children.size(), index());
        return its.children.get(i);
    }

    int setRule(int node, int mode, int length) {
        at(node);
        need(-1 <= mode && mode <= 2, argument());
        need(mode == -1 || mode == 2 || 1 <= length && length <= 5000, argument());
        change();
        int previous = w.nodes.get(node).mode;
        w.nodes.get(node).mode = mode;
        w.nodes.get(node).length = length;
        return previous;
    }

    int setPage(int node, int page, int length) {
        Node its = at(node);
        need(0 <= page && page < its.pages, index());
        need(0 <= length && length <= 5000, argument());
        change();
        int previous = w.nodes.get(node).lengths[page];
        w.nodes.get(node).lengths[page] = length;
        return previous;
    }

    /** The term and the deciding node. */
    private int[] term(int node) {
        Node its = w.nodes.get(node);
        int[] term = node == 0 ? new int[] {0, -1} : term(its.parent);
        if (its.mode == 0 && its.length > term[0] || its.mode == 1) {
            return new int[] {its.length, node};
        }
        return its.mode == 2 ? new int[] {0, -1} : term;
    }

    private boolean closed(int length, int latest, int day) {
        return length > 0 && (latest == -1 || day <= latest + length);
    }

    private boolean unitClosed(int node, int day) {
        return closed(term(node)[0], latest(node), day);
    }

    private boolean pageClosed(int node, int page, int day) {
        return closed(w.nodes.get(node).lengths[page], latest(node), day);
    }

    int restriction(int node, int what) {
        at(node);
        part(what, 2);
        int[] term = term(node);
        if (what < 2) {
            return term[what];
        }
        if (term[0] == 0) {
            return -1;
        }
        return latest(node) == -1 ? 99999 : latest(node) + term[0];
    }

    int openPages(int node, int day) {
        Node its = at(node);
        day(day);
        int set = 0;
        for (int page = 0; page < its.pages; page++) {
            if (!unitClosed(node, day) && !pageClosed(node, page, day)) {
                set += 1 << page;
            }
        }
        return set;
    }

    private boolean shows(int unit, int hidden, int day) {
        for (int page = 0; page < w.nodes.get(unit).pages; page++) {
            if ((hidden >> page & 1) == 0 && (unitClosed(unit, day) || pageClosed(unit, page, day))) {
                return false;
            }
        }
        return true;
    }

    int firstDay(int copy) {
        need(w.copies.containsKey(copy), index());
        int[] its = w.copies.get(copy);
        for (int day = 0; day <= 9999; day++) {
            if (shows(its[0], its[1], day)) {
                return day;
            }
        }
        throw new NoSuchElementException();
    }

    private boolean further() {
        return w.boxes.size() < 10 && w.boxesMade < 30;
    }

    private int newBox(int capacity) {
        Box box = new Box();
        box.capacity = capacity;
        w.boxes.put(w.boxesMade, box);
        return w.boxesMade++;
    }

    int addContainer(int capacity) {
        need(1 <= capacity && capacity <= 200, argument());
        need(further(), state());
        change();
        return newBox(capacity);
    }

    private int pagesOf(List<Integer> units) {
        return units.stream().mapToInt(unit -> w.nodes.get(unit).pages).sum();
    }

    private int place(int unit, int container) {
        w.boxes.values().forEach(box -> box.units.remove((Integer) unit));
        Box box = w.boxes.get(container);
        box.units.add(unit);
        box.given++;
        w.marks.put(container + "." + box.given, unit);
        w.serials.put(unit, box.given);
        return box.given;
    }

    int put(int node, int container) {
        Node its = at(node);
        need(w.boxes.containsKey(container), index());
        need(its.pages > 0, argument());
        List<Integer> units = new ArrayList<>(w.boxes.get(container).units);
        units.remove((Integer) node);
        units.add(node);
        need(pagesOf(units) <= w.boxes.get(container).capacity, state());
        change();
        return place(node, container);
    }

    int takeOut(int node) {
        at(node);
        int box = boxOf(node);
        need(box != -1, state());
        change();
        w.boxes.get(box).units.remove((Integer) node);
        return box;
    }

    int split(int container, int position, int capacity) {
        need(w.boxes.containsKey(container), index());
        List<Integer> units = new ArrayList<>(w.boxes.get(container).units);
        need(0 <= position && position < units.size(), index());
        need(1 <= capacity && capacity <= 200, argument());
        List<Integer> moved = units.subList(position, units.size());
        need(further() && pagesOf(moved) <= capacity, state());
        change();
        int box = newBox(capacity);
        moved.forEach(unit -> place(unit, box));
        return box;
    }

    int merge(int from, int to) {
        need(w.boxes.containsKey(from) && w.boxes.containsKey(to), index());
        need(from != to, argument());
        List<Integer> moved = new ArrayList<>(w.boxes.get(from).units);
        need(pagesOf(moved) + pagesOf(w.boxes.get(to).units) <= w.boxes.get(to).capacity, state());
        change();
        moved.forEach(unit -> place(unit, to));
        w.boxes.remove(from);
        return moved.size();
    }

    int container(int container, int what) {
        need(w.boxes.containsKey(container), index());
        part(what, 3);
        Box box = w.boxes.get(container);
        int[] parts = {box.capacity, box.units.size(), pagesOf(box.units), box.given};
        return parts[what];
    }

    int unitAt(int container, int position) {
        need(w.boxes.containsKey(container), index());
        need(0 <= position && position < w.boxes.get(container).units.size(), index());
        return w.boxes.get(container).units.get(position);
    }

    int resolve(int container, int serial) {
        Integer unit = w.marks.get(container + "." + serial);
        need(unit != null, new NoSuchElementException());
        return unit;
    }

    int copy(int node, int hidden) {
        Node its = at(node);
        need(its.pages > 0, argument());
        need(0 <= hidden && hidden < Math.pow(2, its.pages) - 1, argument());
        need(w.copiesMade < 16, state());
        change();
        w.copies.put(w.copiesMade, new int[] {node, hidden});
        return w.copiesMade++;
    }

    private int pagesShown(int[] request) {
        int pages = w.nodes.get(request[1]).pages;
        return request[3] == -1 ? pages : pages - Integer.bitCount(w.copies.get(request[3])[1]);
    }

    int copyPart(int copy, int what) {
        need(w.copies.containsKey(copy), index());
        part(what, 3);
        int[] its = w.copies.get(copy);
        int[] parts = {its[0], its[1], w.nodes.get(its[0]).pages - Integer.bitCount(its[1]),
            (int) w.requests.stream().filter(request -> request[3] == copy).count()};
        return parts[what];
    }

    int setSeats(int seats) {
        need(1 <= seats && seats <= 6, argument());
        change();
        int previous = w.seats;
        w.seats = seats;
        return previous;
    }

    private TreeSet<Integer> readers(int day) {
        TreeSet<Integer> readers = new TreeSet<>();
        w.requests.stream().filter(request -> request[2] == day).forEach(request -> readers.add(request[0]));
        return readers;
    }

    private int refuse(int node, int code, int detail) {
        levels.clear();
        levels.add(new int[] {1, node});
        levels.add(new int[] {code, detail});
        if (code > 3) {
            levels.add(new int[] {8, node(node, 11)});
        }
        throw new UnsupportedOperationException();
    }

    private int grant(int reader, int node, int day, int shown) {
        change();
        w.requests.add(new int[] {reader, node, day, shown});
        return shown;
    }

    int request(int reader, int node, int day) {
        need(0 <= reader && reader <= 7, index());
        Node its = at(node);
        need(its.pages > 0, argument());
        day(day);
        need(w.requests.size() < 30, state());
        if (w.requests.stream().filter(r -> r[0] == reader && r[2] == day).count() == 3) {
            return refuse(node, 2, reader);
        }
        if (!readers(day).contains(reader) && readers(day).size() >= w.seats) {
            return refuse(node, 3, day);
        }
        int holder = -1;
        for (int[] request : w.requests) {
            holder = request[1] == node && request[2] == day && request[3] == -1 ? request[0] : holder;
        }
        if (shows(node, 0, day) && boxOf(node) != -1 && holder == -1) {
            return grant(reader, node, day, -1);
        }
        for (int copy : w.copies.keySet()) {
            int[] one = w.copies.get(copy);
            boolean taken = w.requests.stream().anyMatch(r -> r[2] == day && r[3] == copy);
            if (one[0] == node && !taken && shows(node, one[1], day)) {
                return grant(reader, node, day, copy);
            }
        }
        if (unitClosed(node, day)) {
            return refuse(node, 4, term(node)[1]);
        }
        for (int page = 0; page < its.pages; page++) {
            if (pageClosed(node, page, day)) {
                return refuse(node, 5, page);
            }
        }
        return boxOf(node) == -1 ? refuse(node, 6, node) : refuse(node, 7, holder);
    }

    int requestPart(int i, int what) {
        need(0 <= i && i < w.requests.size(), index());
        part(what, 4);
        return what < 4 ? w.requests.get(i)[what] : pagesShown(w.requests.get(i));
    }

    int cancel(int i) {
        need(0 <= i && i < w.requests.size(), index());
        change();
        w.requests.remove(i);
        return w.requests.size();
    }

    int review() {
        change();
        int before = w.requests.size();
        w.requests.removeIf(r -> r[3] == -1 ? boxOf(r[1]) == -1 || !shows(r[1], 0, r[2])
            : !shows(r[1], w.copies.get(r[3])[1], r[2]));
        return before - w.requests.size();
    }

    int account(int what) {
        part(what, 9);
        int[] parts = {
            w.nodes.size(),
            (int) w.nodes.values().stream().filter(node -> node.pages > 0).count(),
            w.nodes.values().stream().mapToInt(node -> node.pages).sum(),
            w.boxes.size(),
            w.boxes.values().stream().mapToInt(box -> box.units.size()).sum(),
            w.copies.size(),
            w.requests.size(),
            w.requests.stream().mapToInt(this::pagesShown).sum(),
            (int) w.requests.stream().filter(request -> request[3] == -1).count(),
            w.marks.size(),
        };
        return parts[what];
    }

    private int openPagesOn(int day) {
        return w.nodes.keySet().stream().mapToInt(node -> Integer.bitCount(openPages(node, day))).sum();
    }

    int dayCount(int day, int what) {
        day(day);
        part(what, 3);
        int[] parts = {
            (int) w.requests.stream().filter(request -> request[2] == day).count(),
            readers(day).size(),
            (int) w.nodes.keySet().stream().filter(n -> w.nodes.get(n).pages > 0 && shows(n, 0, day)).count(),
            openPagesOn(day),
        };
        return parts[what];
    }

    double openShare(int day) {
        day(day);
        need(account(1) > 0, new ArithmeticException());
        return (double) openPagesOn(day) / account(2);
    }

    int report(int level, int what) {
        need(0 <= level && level < levels.size(), new NoSuchElementException());
        part(what, 1);
        return levels.get(level)[what];
    }

    int feed(char letter) {
        need(buffer.length() < 100, state());
        buffer += letter;
        return buffer.length();
    }

    /** For each state of the automaton the letters that lead on: a kind, then pages, days, and what stands behind. */
    private static String next(String state, char letter, int depth) {
        boolean digit = letter >= '0' && letter <= '9';
        int digits = state.length() - 1;
        switch (state.charAt(0)) {
            case 'n': return letter >= '0' && letter <= '3' ? "k" : null;
            case 'k': return letter == 'p' ? "p" : letter == '@' ? "f" : behind(letter, depth, true);
            case 'p':
                if (digit) {
                    return digits < 4 ? state + "x" : null;
                }
                return digits == 0 ? null : letter == '@' ? "f" : behind(letter, depth, true);
            case 'f': return digit ? digits < 4 ? state + "x" : null : digits > 0 && letter == '-' ? "t" : null;
            case 't':
                if (digit) {
                    return digits < 4 ? state + "x" : null;
                }
                return digits == 0 ? null : behind(letter, depth, true);
            default: return behind(letter, depth, false);
        }
    }

    private static String behind(char letter, int depth, boolean first) {
        if (letter == '(') {
            return first ? "n" : null;
        }
        return depth > 0 && letter == ',' ? "n" : depth > 0 && letter == ')' ? "e" : null;
    }

    private static int errorIn(String text) {
        String state = "n";
        int depth = 0;
        for (int i = 0; i < text.length(); i++) {
            state = next(state, text.charAt(i), depth);
            if (state == null) {
                return i;
            }
            depth += text.charAt(i) == '(' ? 1 : text.charAt(i) == ')' ? -1 : 0;
        }
        return depth == 0 && (state.equals("k") || state.equals("e") || state.matches("[pt]x+")) ? -1 : text.length();
    }

    int read(int parent) {
        at(parent);
        String text = buffer;
        buffer = "";
        int error = errorIn(text);
        if (error >= 0) {
            return -100 - error;
        }
        World before = w.copyOf();
        ArrayList<World> pastBefore = new ArrayList<>(past);
        int added = 0;
        try {
            List<Integer> above = new ArrayList<>(List.of(parent));
            for (String token : text.replaceAll("([(),])", " $1 ").trim().split(" +")) {
                if (token.equals("(")) {
                    above.add(w.nodesMade - 1);
                } else if (token.equals(")")) {
                    above.remove(above.size() - 1);
                } else if (!token.equals(",")) {
                    addFrom(above.get(above.size() - 1), token);
                    added++;
                }
            }
        } catch (IllegalArgumentException | IllegalStateException e) {
            w = before;
            past.clear();
            past.addAll(pastBefore);
            throw new UnsupportedOperationException();
        }
        past.clear();
        past.addAll(pastBefore);
        past.add(before);
        if (past.size() > 8) {
            past.remove(0);
        }
        return added;
    }

    private void addFrom(int parent, String token) {
        String[] dates = token.split("@");
        String[] pages = dates[0].split("p");
        String[] days = dates.length > 1 ? dates[1].split("-") : new String[] {"-1", "0"};
        add(parent, Integer.parseInt(pages[0]), pages.length > 1 ? Integer.parseInt(pages[1]) : 0,
            Integer.parseInt(days[0]), Integer.parseInt(days[1]));
    }

    private String describe(int node) {
        Node its = w.nodes.get(node);
        List<String> below = new ArrayList<>();
        its.children.forEach(child -> below.add(describe(child)));
        return its.kind + (its.pages == 0 ? "" : "p" + its.pages) + (its.from == -1 ? "" : "@" + its.from + "-" + its.to)
            + (below.isEmpty() ? "" : "(" + String.join(",", below) + ")");
    }

    int write(int node) {
        at(node);
        written = describe(node);
        return written.length();
    }

    char text(int i) {
        need(0 <= i && i < written.length(), index());
        return written.charAt(i);
    }

    String wholeText() {
        return written;
    }

    int undo() {
        need(!past.isEmpty(), state());
        w = past.remove(past.size() - 1);
        return past.size();
    }

    int save() {
        saved = w.copyOf();
        return w.nodes.size();
    }

    int restore() {
        need(saved != null, state());
        w = saved.copyOf();
        past.clear();
        return w.nodes.size();
    }
}
