/**
 * Long runs of calls, drawn by a fixed rule, on the program and on the model: each answer has to be the same. A run
 * ends with its 512th call, which is another method of the face in each run.
 */
public final class ModelTest {
    private static final int RUNS = 900;
    private static final int CALLS = 512;
    private static final int METHODS = 36;
    private static final int[] WEIRD = {-1, -2, 7, 40, 41, 10000, Integer.MAX_VALUE, Integer.MIN_VALUE};
    private static final String LETTERS = "0123p@-(),9x";
    // The methods in the order of their promises: 0 is add, and 35 restore.
    private static final int[] BUILDS = {0, 0, 0, 0, 0, 10};
    private static final int[] CHANGES = {2, 1, 5, 5, 6, 11, 11, 11, 11, 12, 13, 14};
    private static final int[] LENDS = {18, 20, 23, 24, 21, 21, 21, 21, 21, 21, 21, 21};
    private static final int[] ASKS = {3, 4, 7, 8, 9, 15, 16, 17, 19, 22, 25, 26, 27, 3, 7, 8, 17, 19};

    private long seed;
    private int style;
    private int made = 0;
    private int most = CALLS - 1;
    private final FindingAid aid = new FindingAid();
    private final Model model = new Model();
    private final StringBuilder calls = new StringBuilder();

    private ModelTest(long seed) {
        this.seed = seed * 7919 + 13;
    }

    public static void main(String[] args) {
        for (int run = 0; run < RUNS; run++) {
            if (!new ModelTest(run).run(run)) {
                break;
            }
        }
        Check.end();
    }

    /** The style of a run lets it take many small units, undo, lend or go back to what was saved more than others. */
    private boolean run(int run) {
        style = draw(6);
        boolean isSame = true;
        for (int i = 0; isSame && made < most; i++) {
            isSame = step(i);
        }
        most = CALLS;
        isSame = isSame && method(run % METHODS) && made == CALLS;
        if (!isSame) {
            Check.fail("run " + run + ":\n" + calls);
        }
        return isSame;
    }

    private int draw(int bound) {
        seed = seed * 6364136223846793005L + 1442695040888963407L;
        return (int) ((seed >>> 33) % bound);
    }

    private int mostly(int value) {
        return draw(40) == 0 ? WEIRD[draw(WEIRD.length)] : value;
    }

    private interface Exists {
        int of(int number);
    }

    /** Mostly the number of something that there is, counted from a place that is drawn. */
    private int found(int bound, Exists exists) {
        int start = draw(bound);
        for (int i = 0; i < bound && draw(60) != 0; i++) {
            int number = (start + i) % bound;
            if (!Check.outcome(() -> exists.of(number)).endsWith("Exception") && exists.of(number) > 0) {
                return mostly(number);
            }
        }
        return mostly(start);
    }

    private int node() {
        return found(40, node -> model.node(node, 0) + 1);
    }

    private int unit() {
        return draw(12) == 0 ? node() : found(40, node -> model.node(node, 2));
    }

    private int box() {
        return found(30, box -> model.container(box, 0));
    }

    private int copy() {
        return found(16, copy -> model.copyPart(copy, 2));
    }

    private int request() {
        return found(30, i -> model.requestPart(i, 1));
    }

    private int day() {
        if (style >= 3 && draw(4) != 0) {
            return 60 + draw(2);
        }
        int[] edges = {0, 9999, 30, 31, 60, 61, 5030};
        return mostly(draw(3) == 0 ? edges[draw(edges.length)] : draw(4) == 0 ? draw(10000) : draw(80));
    }

    private int length() {
        int[] edges = {0, 1, 30, 31, 5000, 5001};
        return mostly(draw(3) == 0 ? edges[draw(edges.length)] : draw(style >= 3 ? 20 : 60));
    }

    private interface Asked {
        double of(int a, int b, int c);
    }

    /** Makes no call beyond the most that the object may get. */
    private boolean same(String name, int a, int b, int c, Asked program, Asked due) {
        if (made >= most) {
            return true;
        }
        made++;
        String got = Check.outcome(() -> program.of(a, b, c));
        String wanted = Check.outcome(() -> due.of(a, b, c));
        calls.append(name).append(' ').append(a).append(' ').append(b).append(' ').append(c).append(" -> ")
            .append(got).append('\n');
        if (!got.equals(wanted)) {
            calls.append("due is ").append(wanted).append('\n');
            return false;
        }
        return true;
    }

    private boolean step(int i) {
        int choice = draw(100);
        if (i < 25 && choice < 80 || choice < 6) {
            return method(BUILDS[draw(BUILDS.length)]);
        }
        if (style == 4 && choice < 16) {
            return snapshot();
        }
        if (choice < 12) {
            return draw(3) == 0 ? written() : fed();
        }
        if (choice < (style >= 3 ? 25 : 40)) {
            return change();
        }
        return choice < 65 ? lend() : method(ASKS[draw(ASKS.length)]);
    }

    /** Removes, cancels and reviews less than else, as much would be gone by it. */
    private boolean change() {
        int choice = draw(CHANGES.length + (style == 2 ? 4 : 1));
        if (choice >= CHANGES.length) {
            return choice == CHANGES.length ? snapshot() : method(33);
        }
        return CHANGES[choice] == 1 && draw(4) != 0 || method(CHANGES[choice]);
    }

    private boolean lend() {
        int method = LENDS[draw(LENDS.length)];
        if (method == 23 && draw(style == 5 ? 8 : 2) != 0 || method == 24 && draw(6) != 0) {
            return true;
        }
        return method(method) && (method != 21 || report());
    }

    private boolean report() {
        boolean isWhole = draw(3) == 0;
        for (int i = isWhole ? 0 : 2; i < (isWhole ? 6 : 4); i++) {
            if (!same("report", i / 2, i % 2, 0, (a, b, c) -> aid.report(a, b), (a, b, c) -> model.report(a, b))) {
                return false;
            }
        }
        return method(28);
    }

    private boolean snapshot() {
        int choice = draw(style == 4 ? 8 : 12);
        return method(choice == 0 ? 34 : choice == 1 ? 35 : 33);
    }

    private boolean fed() {
        String text = draw(3) == 0 ? garbage() : mutate(description(0, draw(3)));
        for (int i = 0; i < text.length(); i++) {
            int letter = text.charAt(i);
            if (!same("feed", letter, 0, 0, (a, b, c) -> aid.feed((char) a), (a, b, c) -> model.feed((char) a))) {
                return false;
            }
        }
        return draw(10) == 0 || method(30);
    }

    private String garbage() {
        StringBuilder out = new StringBuilder();
        for (int left = draw(12); left > 0; left--) {
            out.append(LETTERS.charAt(draw(LETTERS.length())));
        }
        return out.toString();
    }

    private String mutate(String text) {
        if (text.isEmpty() || draw(3) != 0) {
            return text;
        }
        int at = draw(text.length());
        String instead = draw(2) == 0 ? "" : String.valueOf(LETTERS.charAt(draw(LETTERS.length())));
        return text.substring(0, at) + instead + text.substring(at + draw(2));
    }

    private String description(int above, int room) {
        int kind = draw(30) == 0 ? draw(4) : Math.min(3, above + 1 + draw(2));
        StringBuilder out = new StringBuilder().append(kind);
        if (kind > 1 && draw(3) != 0 || draw(20) == 0) {
            out.append('p').append(draw(10) == 0 ? "0" : "").append(draw(22));
        }
        if (draw(2) == 0) {
            int from = draw(30);
            out.append('@').append(from).append('-').append(draw(20) == 0 ? draw(10000) : from + draw(9));
        }
        if (kind < 3 && room > 0 && draw(2) == 0) {
            String open = "(";
            for (int i = 1 + draw(3); i > 0; i--) {
                out.append(open).append(description(kind, room - 1));
                open = ",";
            }
            out.append(')');
        }
        return out.toString();
    }

    private boolean written() {
        if (!method(31)) {
            return false;
        }
        int length = model.wholeText().length();
        int count = draw(6) == 0 ? length : 0;
        for (int i = 0; i < count; i++) {
            if (!textAt(i)) {
                return false;
            }
        }
        return textAt(length - 1) && textAt(length) && method(32);
    }

    private boolean textAt(int index) {
        return same("text", index, 0, 0, (a, b, c) -> aid.text(a), (a, b, c) -> model.text(a));
    }

    /** One call of the method with this number, in the order of the promises. */
    private boolean method(int number) {
        return number < 10 ? ofNodes(number) : number < 18 ? ofContainers(number)
            : number < 28 ? ofRequests(number) : ofTexts(number);
    }

    private boolean add() {
        int kind = mostly(draw(4) == 0 ? 1 : 2 + draw(2));
        int pages = mostly(kind == 1 ? 0 : style == 1 ? draw(3) : draw(21));
        int from = draw(3) == 0 ? -1 : mostly(draw(30));
        int to = mostly(from + draw(30));
        return same("add(.., " + from + ", " + to + ")", draw(2) == 0 ? 0 : node(), kind, pages,
            (a, b, c) -> aid.add(a, b, c, from, to), (a, b, c) -> model.add(a, b, c, from, to));
    }

    private boolean ofNodes(int number) {
        switch (number) {
            case 0: return add();
            case 1: return same("remove", node(), 0, 0, (a, b, c) -> aid.remove(a), (a, b, c) -> model.remove(a));
            case 2: return same("move", node(), node(), 0, (a, b, c) -> aid.move(a, b), (a, b, c) -> model.move(a, b));
            case 3: return same("node", node(), mostly(draw(12)), 0, (a, b, c) -> aid.node(a, b),
                (a, b, c) -> model.node(a, b));
            case 4: return same("child", node(), mostly(draw(4)), 0, (a, b, c) -> aid.child(a, b),
                (a, b, c) -> model.child(a, b));
            case 5: return same("setRule", node(), mostly(draw(4) - 1), length(), aid::setRule, model::setRule);
            case 6: return same("setPage", unit(), mostly(draw(8)), length(), aid::setPage, model::setPage);
            case 7: return same("restriction", node(), mostly(draw(3)), 0, (a, b, c) -> aid.restriction(a, b),
                (a, b, c) -> model.restriction(a, b));
            case 8: return same("openPages", unit(), day(), 0, (a, b, c) -> aid.openPages(a, b),
                (a, b, c) -> model.openPages(a, b));
            default: return same("firstDay", copy(), 0, 0, (a, b, c) -> aid.firstDay(a),
                (a, b, c) -> model.firstDay(a));
        }
    }

    private boolean ofContainers(int number) {
        switch (number) {
            case 10: return same("addContainer", mostly(style == 1 ? 200 : 1 + draw(60)), 0, 0,
                (a, b, c) -> aid.addContainer(a), (a, b, c) -> model.addContainer(a));
            case 11: return same("put", unit(), box(), 0, (a, b, c) -> aid.put(a, b), (a, b, c) -> model.put(a, b));
            case 12: return same("takeOut", unit(), 0, 0, (a, b, c) -> aid.takeOut(a), (a, b, c) -> model.takeOut(a));
            case 13: return same("split", found(30, box -> model.container(box, 1)), mostly(draw(4)),
                mostly(1 + draw(200)), aid::split, model::split);
            case 14: return same("merge", box(), box(), 0, (a, b, c) -> aid.merge(a, b),
                (a, b, c) -> model.merge(a, b));
            case 15: return same("container", box(), mostly(draw(4)), 0, (a, b, c) -> aid.container(a, b),
                (a, b, c) -> model.container(a, b));
            case 16: return same("unitAt", box(), mostly(draw(5)), 0, (a, b, c) -> aid.unitAt(a, b),
                (a, b, c) -> model.unitAt(a, b));
            default: return same("resolve", draw(2) == 0 ? box() : mostly(draw(30)), mostly(draw(12)), 0,
                (a, b, c) -> aid.resolve(a, b), (a, b, c) -> model.resolve(a, b));
        }
    }

    private boolean ofRequests(int number) {
        switch (number) {
            case 18: return same("copy", unit(), mostly(draw(draw(2) == 0 ? 4 : 40)), 0, (a, b, c) -> aid.copy(a, b),
                (a, b, c) -> model.copy(a, b));
            case 19: return same("copyPart", copy(), mostly(draw(4)), 0, (a, b, c) -> aid.copyPart(a, b),
                (a, b, c) -> model.copyPart(a, b));
            case 20: return same("setSeats", mostly(draw(8)), 0, 0, (a, b, c) -> aid.setSeats(a),
                (a, b, c) -> model.setSeats(a));
            case 21: return same("request", mostly(draw(style == 4 ? 3 : 8)), unit(), day(), aid::request,
                model::request);
            case 22: return same("requestPart", request(), mostly(draw(5)), 0, (a, b, c) -> aid.requestPart(a, b),
                (a, b, c) -> model.requestPart(a, b));
            case 23: return same("cancel", request(), 0, 0, (a, b, c) -> aid.cancel(a), (a, b, c) -> model.cancel(a));
            case 24: return same("review", 0, 0, 0, (a, b, c) -> aid.review(), (a, b, c) -> model.review());
            case 25: return same("account", mostly(draw(10)), 0, 0, (a, b, c) -> aid.account(a),
                (a, b, c) -> model.account(a));
            case 26: return same("dayCount", day(), mostly(draw(4)), 0, (a, b, c) -> aid.dayCount(a, b),
                (a, b, c) -> model.dayCount(a, b));
            default: return same("openShare", day(), 0, 0, (a, b, c) -> aid.openShare(a),
                (a, b, c) -> model.openShare(a));
        }
    }

    private boolean ofTexts(int number) {
        switch (number) {
            case 28: return same("report", mostly(draw(4)), mostly(draw(3)), 0, (a, b, c) -> aid.report(a, b),
                (a, b, c) -> model.report(a, b));
            case 29: return same("feed", LETTERS.charAt(draw(LETTERS.length())), 0, 0,
                (a, b, c) -> aid.feed((char) a), (a, b, c) -> model.feed((char) a));
            case 30: return same("read", draw(3) == 0 ? node() : 0, 0, 0, (a, b, c) -> aid.read(a),
                (a, b, c) -> model.read(a));
            case 31: return same("write", draw(2) == 0 ? 0 : node(), 0, 0, (a, b, c) -> aid.write(a),
                (a, b, c) -> model.write(a));
            case 32: return textAt(mostly(draw(30)));
            case 33: return same("undo", 0, 0, 0, (a, b, c) -> aid.undo(), (a, b, c) -> model.undo());
            case 34: return same("save", 0, 0, 0, (a, b, c) -> aid.save(), (a, b, c) -> model.save());
            default: return same("restore", 0, 0, 0, (a, b, c) -> aid.restore(), (a, b, c) -> model.restore());
        }
    }
}
