/** Long runs of calls, drawn by a fixed rule, on the program and on the model: each answer has to be the same. */
public final class ModelTest {
    private static final int RUNS = 800;
    private static final int CALLS = 511;
    private static final int[] WEIRD = {-1, -2, 7, 40, 41, 10000, Integer.MAX_VALUE, Integer.MIN_VALUE};
    private static final String LETTERS = "0123p@-(),9x";

    private long seed;
    private int style;
    private FindingAid aid = new FindingAid();
    private Model model = new Model();
    private final StringBuilder calls = new StringBuilder();

    private ModelTest(long seed) {
        this.seed = seed * 7919 + 13;
    }

    public static void main(String[] args) {
        for (int run = 0; run < RUNS; run++) {
            if (!new ModelTest(run).run(run)) {
                break;
            }
        }
        Check.end();
    }

    /** The style of a run lets it take many small units, undo, lend or go back to what was saved more than others. */
    private boolean run(int run) {
        style = draw(6);
        for (int i = 0; i < CALLS; i++) {
            if (!step(i)) {
                Check.fail("run " + run + ":\n" + calls);
                return false;
            }
        }
        return true;
    }

    private int draw(int bound) {
        seed = seed * 6364136223846793005L + 1442695040888963407L;
        return (int) ((seed >>> 33) % bound);
    }

    private int mostly(int value) {
        return draw(40) == 0 ? WEIRD[draw(WEIRD.length)] : value;
    }

    private interface Exists {
        int of(int number);
    }

    /** Mostly the number of something that there is, counted from a place that is drawn. */
    private int found(int bound, Exists exists) {
        int start = draw(bound);
        for (int i = 0; i < bound && draw(60) != 0; i++) {
            int number = (start + i) % bound;
            if (!Check.outcome(() -> exists.of(number)).endsWith("Exception") && exists.of(number) > 0) {
                return mostly(number);
            }
        }
        return mostly(start);
    }

    private int node() {
        return found(40, node -> model.node(node, 0) + 1);
    }

    private int unit() {
        return draw(12) == 0 ? node() : found(40, node -> model.node(node, 2));
    }

    private int box() {
        return found(30, box -> model.container(box, 0));
    }

    private int copy() {
        return found(16, copy -> model.copyPart(copy, 2));
    }

    private int request() {
        return found(30, i -> model.requestPart(i, 1));
    }

    private int day() {
        if (style >= 3 && draw(4) != 0) {
            return 60 + draw(2);
        }
        int[] edges = {0, 9999, 30, 31, 60, 61, 5030};
        return mostly(draw(3) == 0 ? edges[draw(edges.length)] : draw(4) == 0 ? draw(10000) : draw(80));
    }

    private int length() {
        int[] edges = {0, 1, 30, 31, 5000, 5001};
        return mostly(draw(3) == 0 ? edges[draw(edges.length)] : draw(style >= 3 ? 20 : 60));
    }

    private interface Asked {
        double of(int a, int b, int c);
    }

    private boolean same(String name, int a, int b, int c, Asked program, Asked due) {
        String got = Check.outcome(() -> program.of(a, b, c));
        String wanted = Check.outcome(() -> due.of(a, b, c));
        calls.append(name).append(' ').append(a).append(' ').append(b).append(' ').append(c).append(" -> ")
            .append(got).append('\n');
        if (!got.equals(wanted)) {
            calls.append("due is ").append(wanted).append('\n');
            return false;
        }
        return true;
    }

    private boolean step(int i) {
        int choice = draw(100);
        if (i < 25 && choice < 80 || choice < 6) {
            return build();
        }
        if (style == 4 && choice < 16) {
            return snapshot();
        }
        if (choice < 12) {
            return text();
        }
        if (choice < (style >= 3 ? 25 : 40)) {
            return change();
        }
        return choice < 65 ? lend() : ask();
    }

    private boolean build() {
        if (draw(6) == 0) {
            int capacity = mostly(style == 1 ? 200 : 1 + draw(60));
            return same("addContainer", capacity, 0, 0, (a, b, c) -> aid.addContainer(a),
                (a, b, c) -> model.addContainer(a));
        }
        int kind = mostly(draw(4) == 0 ? 1 : 2 + draw(2));
        int pages = mostly(kind == 1 ? 0 : style == 1 ? draw(3) : draw(21));
        int from = draw(3) == 0 ? -1 : mostly(draw(30));
        int to = mostly(from + draw(30));
        return same("add(.., " + from + ", " + to + ")", draw(2) == 0 ? 0 : node(), kind, pages,
            (a, b, c) -> aid.add(a, b, c, from, to), (a, b, c) -> model.add(a, b, c, from, to));
    }

    private boolean change() {
        switch (draw(style == 2 ? 16 : 13)) {
            case 0: return same("move", node(), node(), 0, (a, b, c) -> aid.move(a, b), (a, b, c) -> model.move(a, b));
            case 1: return draw(4) != 0 || same("remove", node(), 0, 0, (a, b, c) -> aid.remove(a),
                (a, b, c) -> model.remove(a));
            case 2:
            case 3: return same("setRule", node(), mostly(draw(4) - 1), length(), aid::setRule, model::setRule);
            case 4: return same("setPage", unit(), mostly(draw(8)), length(), aid::setPage, model::setPage);
            case 5:
            case 6:
            case 7:
            case 8: return same("put", unit(), box(), 0, (a, b, c) -> aid.put(a, b), (a, b, c) -> model.put(a, b));
            case 9: return same("takeOut", unit(), 0, 0, (a, b, c) -> aid.takeOut(a), (a, b, c) -> model.takeOut(a));
            case 10: return same("split", found(30, box -> model.container(box, 1)), mostly(draw(4)),
                mostly(1 + draw(200)), aid::split, model::split);
            case 11: return same("merge", box(), box(), 0, (a, b, c) -> aid.merge(a, b),
                (a, b, c) -> model.merge(a, b));
            case 12: return snapshot();
            default: return undo();
        }
    }

    private boolean undo() {
        return same("undo", 0, 0, 0, (a, b, c) -> aid.undo(), (a, b, c) -> model.undo());
    }

    private boolean snapshot() {
        int choice = draw(style == 4 ? 8 : 12);
        if (choice == 0) {
            return same("save", 0, 0, 0, (a, b, c) -> aid.save(), (a, b, c) -> model.save());
        }
        if (choice == 1) {
            return same("restore", 0, 0, 0, (a, b, c) -> aid.restore(), (a, b, c) -> model.restore());
        }
        return undo();
    }

    private boolean lend() {
        switch (draw(12)) {
            case 0: return same("copy", unit(), mostly(draw(draw(2) == 0 ? 4 : 40)), 0, (a, b, c) -> aid.copy(a, b),
                (a, b, c) -> model.copy(a, b));
            case 1: return same("setSeats", mostly(draw(8)), 0, 0, (a, b, c) -> aid.setSeats(a),
                (a, b, c) -> model.setSeats(a));
            case 2: return draw(style == 5 ? 8 : 2) != 0 || same("cancel", request(), 0, 0,
                (a, b, c) -> aid.cancel(a), (a, b, c) -> model.cancel(a));
            case 3: return draw(6) != 0 || same("review", 0, 0, 0, (a, b, c) -> aid.review(),
                (a, b, c) -> model.review());
            default: return same("request", mostly(draw(style == 4 ? 3 : 8)), unit(), day(), aid::request,
                model::request) && report();
        }
    }

    private boolean report() {
        for (int i = 0; i < 6; i++) {
            if (!same("report", i / 2, i % 2, 0, (a, b, c) -> aid.report(a, b), (a, b, c) -> model.report(a, b))) {
                return false;
            }
        }
        return same("report", mostly(draw(4)), mostly(draw(3)), 0, (a, b, c) -> aid.report(a, b),
            (a, b, c) -> model.report(a, b));
    }

    private boolean text() {
        if (draw(3) == 0) {
            return written();
        }
        String text = draw(3) == 0 ? garbage() : mutate(description(0, draw(3)));
        for (int i = 0; i < text.length(); i++) {
            int letter = text.charAt(i);
            if (!same("feed", letter, 0, 0, (a, b, c) -> aid.feed((char) a), (a, b, c) -> model.feed((char) a))) {
                return false;
            }
        }
        return draw(10) == 0 || same("read of " + text, draw(3) == 0 ? node() : 0, 0, 0, (a, b, c) -> aid.read(a),
            (a, b, c) -> model.read(a));
    }

    private String garbage() {
        StringBuilder out = new StringBuilder();
        for (int left = draw(12); left > 0; left--) {
            out.append(LETTERS.charAt(draw(LETTERS.length())));
        }
        return out.toString();
    }

    private String mutate(String text) {
        if (text.isEmpty() || draw(3) != 0) {
            return text;
        }
        int at = draw(text.length());
        String instead = draw(2) == 0 ? "" : String.valueOf(LETTERS.charAt(draw(LETTERS.length())));
        return text.substring(0, at) + instead + text.substring(at + draw(2));
    }

    private String description(int above, int room) {
        int kind = draw(30) == 0 ? draw(4) : Math.min(3, above + 1 + draw(2));
        StringBuilder out = new StringBuilder().append(kind);
        if (kind > 1 && draw(3) != 0 || draw(20) == 0) {
            out.append('p').append(draw(10) == 0 ? "0" : "").append(draw(22));
        }
        if (draw(2) == 0) {
            int from = draw(30);
            out.append('@').append(from).append('-').append(draw(20) == 0 ? draw(10000) : from + draw(9));
        }
        if (kind < 3 && room > 0 && draw(2) == 0) {
            String open = "(";
            for (int i = 1 + draw(3); i > 0; i--) {
                out.append(open).append(description(kind, room - 1));
                open = ",";
            }
            out.append(')');
        }
        return out.toString();
    }

    private boolean written() {
        if (!same("write", draw(2) == 0 ? 0 : node(), 0, 0, (a, b, c) -> aid.write(a), (a, b, c) -> model.write(a))) {
            return false;
        }
        return same("text", mostly(draw(30)), 0, 0, (a, b, c) -> aid.text(a), (a, b, c) -> model.text(a))
            && Dump.text(aid).equals(model.wholeText());
    }

    private boolean ask() {
        switch (draw(13)) {
            case 0: return same("node", node(), mostly(draw(12)), 0, (a, b, c) -> aid.node(a, b),
                (a, b, c) -> model.node(a, b));
            case 1: return same("child", node(), mostly(draw(4)), 0, (a, b, c) -> aid.child(a, b),
                (a, b, c) -> model.child(a, b));
            case 2: return same("restriction", node(), mostly(draw(3)), 0, (a, b, c) -> aid.restriction(a, b),
                (a, b, c) -> model.restriction(a, b));
            case 3: return same("openPages", unit(), day(), 0, (a, b, c) -> aid.openPages(a, b),
                (a, b, c) -> model.openPages(a, b));
            case 4: return draw(3) != 0 || same("firstDay", copy(), 0, 0, (a, b, c) -> aid.firstDay(a),
                (a, b, c) -> model.firstDay(a));
            case 5: return same("container", box(), mostly(draw(4)), 0, (a, b, c) -> aid.container(a, b),
                (a, b, c) -> model.container(a, b));
            case 6: return same("unitAt", box(), mostly(draw(5)), 0, (a, b, c) -> aid.unitAt(a, b),
                (a, b, c) -> model.unitAt(a, b));
            case 7: return same("resolve", draw(2) == 0 ? box() : mostly(draw(30)), mostly(draw(12)), 0,
                (a, b, c) -> aid.resolve(a, b), (a, b, c) -> model.resolve(a, b));
            case 8: return same("copyPart", copy(), mostly(draw(4)), 0, (a, b, c) -> aid.copyPart(a, b),
                (a, b, c) -> model.copyPart(a, b));
            case 9: return same("requestPart", request(), mostly(draw(5)), 0, (a, b, c) -> aid.requestPart(a, b),
                (a, b, c) -> model.requestPart(a, b));
            case 10: return same("account", mostly(draw(10)), 0, 0, (a, b, c) -> aid.account(a),
                (a, b, c) -> model.account(a));
            case 11: return same("dayCount", day(), mostly(draw(4)), 0, (a, b, c) -> aid.dayCount(a, b),
                (a, b, c) -> model.dayCount(a, b));
            default: return same("openShare", day(), 0, 0, (a, b, c) -> aid.openShare(a),
                (a, b, c) -> model.openShare(a));
        }
    }
}
