import java.util.HashMap;
import java.util.Map;

/**
 * A refused call is put to one of two objects with the same past: whatever is asked of them then, taking back and
 * restoring included, both have to answer the same.
 */
final class Twins {
    private static final Map<Look.Past, String> LOOKS = new HashMap<>();
    private static final Map<Look.Past, String> LOOKS_WITHOUT_REPORT = new HashMap<>();

    private Twins() {
    }

    static void refuse(String what, Class<? extends RuntimeException> due, Look.Past past, Look.Asked... calls) {
        for (int i = 0; i < calls.length; i++) {
            String name = what + ", call " + (i + 1);
            Look.Asked call = calls[i];
            FindingAid aid = past.make();
            Check.fails(name, due, () -> call.of(aid));
            String before = LOOKS.computeIfAbsent(past, Look::all);
            Check.same("what stands after " + name, Look.all(() -> after(past, call)), before);
        }
    }

    /** A request that is refused leaves its report and nothing else. */
    static void refuseWithReport(String what, Look.Past past, Look.Asked call, int... report) {
        FindingAid aid = past.make();
        Check.fails(what, Check.UNSUPPORTED, () -> call.of(aid));
        for (int i = 0; i < report.length; i++) {
            Check.same("the report of " + what + ", " + i, aid.report(i / 2, i % 2), report[i]);
        }
        Check.fails("the level behind, " + what, Check.NO_ELEMENT, () -> aid.report(report.length / 2, 0));
        String before = LOOKS_WITHOUT_REPORT.computeIfAbsent(past, Look::withoutReport);
        Check.same("what stands after " + what, Look.withoutReport(() -> after(past, call)), before);
    }

    private static FindingAid after(Look.Past past, Look.Asked call) {
        FindingAid aid = past.make();
        Check.outcome(() -> call.of(aid));
        return aid;
    }
}
