import java.util.ArrayList;
import java.util.List;

/**
 * All that an object of a given past answers, what can be taken back and what was saved included, as a text. Each
 * block of questions is put to an object of its own with this past, so that none gets more than 512 calls.
 */
final class Look {
    interface Past {
        FindingAid make();
    }

    interface Asked {
        double of(FindingAid aid);
    }

    private interface Block {
        void ask(FindingAid aid, StringBuilder out);
    }

    private static final int[] DAYS = {0, 10, 351, 400, 9999};
    private static final List<Block> STATE = List.of(
        (aid, out) -> nodes(aid, 0, 13, out), (aid, out) -> nodes(aid, 14, 26, out),
        (aid, out) -> nodes(aid, 27, 39, out), (aid, out) -> containers(aid, out), (aid, out) -> marks(aid, out),
        (aid, out) -> copies(aid, out), (aid, out) -> requests(aid, out), (aid, out) -> accounts(aid, out),
        (aid, out) -> numbers(aid, out));

    private Look() {
    }

    /** What stays as it is after any refused call. */
    static String all(Past past) {
        StringBuilder out = new StringBuilder(withoutReport(past));
        FindingAid aid = past.make();
        for (int level = 0; level < 4; level++) {
            int number = level;
            line(out, "report", () -> aid.report(number, 0));
            line(out, "report", () -> aid.report(number, 1));
        }
        return out.toString();
    }

    static String withoutReport(Past past) {
        StringBuilder out = new StringBuilder(state(past));
        out.append("text ").append(Make.text(past.make())).append('\n');
        FindingAid fed = past.make();
        line(out, "feed", () -> fed.feed('x'));
        line(out, "read", () -> fed.read(0));
        boolean isThere = true;
        for (int changes = 1; isThere; changes++) {
            int count = changes;
            isThere = !Check.outcome(() -> undo(past.make(), count)).endsWith("Exception");
            out.append("undo ").append(isThere ? undo(past.make(), count) + state(() -> undone(past, count)) : "none");
        }
        isThere = !Check.outcome(() -> past.make().restore()).endsWith("Exception");
        out.append("restore ").append(isThere ? past.make().restore() + state(() -> restored(past)) : "none");
        return out.toString();
    }

    /** What save saves. */
    static String state(Past past) {
        StringBuilder out = new StringBuilder();
        for (Block block : STATE) {
            block.ask(past.make(), out);
        }
        return out.toString();
    }

    private static int undo(FindingAid aid, int count) {
        int left = 0;
        for (int i = 0; i < count; i++) {
            left = aid.undo();
        }
        return left;
    }

    private static FindingAid undone(Past past, int count) {
        FindingAid aid = past.make();
        undo(aid, count);
        return aid;
    }

    private static FindingAid restored(Past past) {
        FindingAid aid = past.make();
        aid.restore();
        return aid;
    }

    private static boolean isRefused(Check.Call call) {
        return Check.outcome(call).endsWith("Exception");
    }

    private static void nodes(FindingAid aid, int first, int last, StringBuilder out) {
        for (int node = first; node <= last; node++) {
            int number = node;
            if (isRefused(() -> aid.node(number, 0))) {
                continue;
            }
            out.append("node ").append(node).append(':');
            for (int what = 0; what < 12; what++) {
                out.append(' ').append(aid.node(node, what));
            }
            for (int what = 0; what < 3; what++) {
                out.append(" r").append(aid.restriction(node, what));
            }
            for (int i = 0; i < aid.node(node, 6); i++) {
                out.append(" c").append(aid.child(node, i));
            }
            for (int day : DAYS) {
                out.append(" o").append(aid.openPages(node, day));
            }
            out.append('\n');
        }
    }

    private static void containers(FindingAid aid, StringBuilder out) {
        for (int container = 0; container < 30; container++) {
            int number = container;
            if (isRefused(() -> aid.container(number, 0))) {
                continue;
            }
            out.append("container ").append(container).append(':');
            for (int what = 0; what < 4; what++) {
                out.append(' ').append(aid.container(container, what));
            }
            for (int position = 0; position < aid.container(container, 1); position++) {
                out.append(" u").append(aid.unitAt(container, position));
            }
            out.append('\n');
        }
    }

    private static void marks(FindingAid aid, StringBuilder out) {
        for (int container = 0; container < 31; container++) {
            for (int serial = 0; serial < 10; serial++) {
                int number = container;
                int its = serial;
                String unit = Check.outcome(() -> aid.resolve(number, its));
                if (!unit.endsWith("Exception")) {
                    out.append("mark ").append(container).append('.').append(serial).append(unit).append('\n');
                }
            }
        }
    }

    private static void copies(FindingAid aid, StringBuilder out) {
        for (int copy = 0; copy < 17; copy++) {
            int number = copy;
            for (int what = 0; what < 4; what++) {
                int part = what;
                line(out, "copy " + copy, () -> aid.copyPart(number, part));
            }
            line(out, "first day " + copy, () -> aid.firstDay(number));
        }
    }

    private static void requests(FindingAid aid, StringBuilder out) {
        for (int i = 0; i < 31; i++) {
            int number = i;
            for (int what = 0; what < 5; what++) {
                int part = what;
                line(out, "request " + i, () -> aid.requestPart(number, part));
            }
        }
    }

    private static void accounts(FindingAid aid, StringBuilder out) {
        for (int what = 0; what < 10; what++) {
            out.append("account ").append(aid.account(what)).append('\n');
        }
        for (int day : DAYS) {
            for (int what = 0; what < 4; what++) {
                out.append("day ").append(aid.dayCount(day, what)).append('\n');
            }
            line(out, "share", () -> aid.openShare(day));
        }
    }

    /** The numbers that come next, and the seats. */
    private static void numbers(FindingAid aid, StringBuilder out) {
        int unit = firstUnit(aid);
        line(out, "the next node", () -> aid.add(0, 1, 0, -1, 0));
        line(out, "the next container", () -> aid.addContainer(1));
        line(out, "the next copy", () -> aid.copy(unit, 0));
        line(out, "the seats", () -> aid.setSeats(1));
    }

    private static int firstUnit(FindingAid aid) {
        List<Integer> units = new ArrayList<>();
        for (int node = 0; node < 40; node++) {
            int number = node;
            if (!isRefused(() -> aid.node(number, 2)) && aid.node(node, 2) > 0) {
                units.add(node);
            }
        }
        return units.isEmpty() ? 0 : units.get(0);
    }

    private static void line(StringBuilder out, String name, Check.Call call) {
        out.append(name).append(": ").append(Check.outcome(call)).append('\n');
    }
}
