/** All that the calls without a change tell of an object, as a text. */
final class Dump {
    private static final int[] DAYS = {0, 10, 50, 100, 200, 500, 1000, 5000, 9999};

    private Dump() {
    }

    static String of(FindingAid aid) {
        return state(aid) + report(aid) + text(aid);
    }

    /** Leaves out the report and the text, which undo and restore leave as they are. */
    static String state(FindingAid aid) {
        StringBuilder out = new StringBuilder();
        for (int node = 0; node < 40; node++) {
            if (!Check.outcome(() -> aid.node(0, 0)).equals("0.0")) {
                Check.fail("there is no root");
            }
            node(out, aid, node);
        }
        for (int container = 0; container < 30; container++) {
            container(out, aid, container);
        }
        for (int copy = 0; copy < 16; copy++) {
            int number = copy;
            parts(out, "copy " + copy, 4, what -> aid.copyPart(number, what));
            line(out, "first day " + copy, () -> aid.firstDay(number));
        }
        for (int i = 0; i < 30; i++) {
            int number = i;
            parts(out, "request " + i, 5, what -> aid.requestPart(number, what));
        }
        parts(out, "account", 10, aid::account);
        for (int day : DAYS) {
            parts(out, "day " + day, 4, what -> aid.dayCount(day, what));
            line(out, "share " + day, () -> aid.openShare(day));
        }
        return out.toString();
    }

    private static String report(FindingAid aid) {
        StringBuilder out = new StringBuilder();
        for (int level = 0; level < 4; level++) {
            int number = level;
            parts(out, "report " + level, 2, what -> aid.report(number, what));
        }
        return out.toString();
    }

    static String text(FindingAid aid) {
        StringBuilder out = new StringBuilder();
        for (int i = 0; i < 1000; i++) {
            int index = i;
            if (Check.outcome(() -> aid.text(index)).endsWith("Exception")) {
                return out.toString();
            }
            out.append(aid.text(i));
        }
        return out.toString();
    }

    private static void node(StringBuilder out, FindingAid aid, int node) {
        parts(out, "node " + node, 12, what -> aid.node(node, what));
        parts(out, "restriction " + node, 3, what -> aid.restriction(node, what));
        if (Check.outcome(() -> aid.node(node, 0)).endsWith("Exception")) {
            return;
        }
        for (int i = 0; i < aid.node(node, 6); i++) {
            out.append(" child ").append(aid.child(node, i));
        }
        for (int day : DAYS) {
            out.append(" open ").append(aid.openPages(node, day));
        }
        out.append('\n');
    }

    private static void container(StringBuilder out, FindingAid aid, int container) {
        parts(out, "container " + container, 4, what -> aid.container(container, what));
        for (int serial = 0; serial < 50; serial++) {
            int number = serial;
            String unit = Check.outcome(() -> aid.resolve(container, number));
            out.append(unit.endsWith("Exception") ? " none" : " mark " + unit);
        }
        if (!Check.outcome(() -> aid.container(container, 0)).endsWith("Exception")) {
            for (int position = 0; position < aid.container(container, 1); position++) {
                out.append(" unit ").append(aid.unitAt(container, position));
            }
        }
        out.append('\n');
    }

    private interface Part {
        double of(int what);
    }

    private static void parts(StringBuilder out, String name, int count, Part part) {
        for (int what = 0; what < count; what++) {
            int number = what;
            line(out, name + " " + what, () -> part.of(number));
        }
    }

    private static void line(StringBuilder out, String name, Check.Call call) {
        out.append(name).append(": ").append(Check.outcome(call)).append('\n');
    }
}
