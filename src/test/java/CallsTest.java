/** "An object is used for at most 512 calls": runs whose last call is the 512th. */
public final class CallsTest {
    private static final int CALLS = 512;
    private static final int CALLS_OF_RICH = 31;
    private static final int MIN = Integer.MIN_VALUE;
    private static final int MAX = Integer.MAX_VALUE;

    /** Counts the calls of one object. */
    private static final class Run {
        private final String name;
        private final FindingAid aid;
        private int calls;

        Run(String name, FindingAid aid, int calls) {
            this.name = name;
            this.aid = aid;
            this.calls = calls;
        }

        void due(double due, Look.Asked call) {
            calls++;
            Check.same(name + ", call " + calls, call.of(aid), due);
        }

        void fails(Class<? extends RuntimeException> due, Look.Asked call) {
            calls++;
            Check.fails(name + ", call " + calls, due, () -> call.of(aid));
        }

        /** Asks what changes nothing, up to so many calls before the last. */
        void fill(int left) {
            int nodes = aid.account(0);
            calls++;
            while (calls < CALLS - left) {
                due(nodes, x -> x.account(0));
            }
        }

        void end() {
            Check.same("the calls of " + name, calls, CALLS);
        }
    }

    public static void main(String[] args) {
        eachCallIsThe512th();
        eachRefusalIsThe512th();
        puts();
        mostMarks();
        changesAndUndo();
        changesAndNinthUndo();
        addAndUndo();
        saveAndRestore();
        requestAndCancel();
        refusedRequests();
        letters();
        texts();
        Check.end();
    }

    private static void eachCallIsThe512th() {
        Object[][] calls = {
            {"add", 7, (Look.Asked) x -> x.add(2, 3, 20, 0, 9999)}, {"remove", 2, (Look.Asked) x -> x.remove(2)},
            {"move", 2, (Look.Asked) x -> x.move(3, 0)}, {"node", 10, (Look.Asked) x -> x.node(0, 8)},
            {"child", 5, (Look.Asked) x -> x.child(0, 2)}, {"setRule", 0, (Look.Asked) x -> x.setRule(1, 1, 60)},
            {"setPage", 120, (Look.Asked) x -> x.setPage(2, 1, 0)},
            {"restriction", 350, (Look.Asked) x -> x.restriction(3, 2)},
            {"openPages", 29, (Look.Asked) x -> x.openPages(2, 400)}, {"firstDay", 421, (Look.Asked) x -> x.firstDay(0)},
            {"addContainer", 3, (Look.Asked) x -> x.addContainer(7)}, {"put", 2, (Look.Asked) x -> x.put(3, 1)},
            {"takeOut", 1, (Look.Asked) x -> x.takeOut(5)}, {"split", 3, (Look.Asked) x -> x.split(0, 1, 3)},
            {"merge", 1, (Look.Asked) x -> x.merge(1, 0)}, {"container", 2, (Look.Asked) x -> x.container(0, 3)},
            {"unitAt", 3, (Look.Asked) x -> x.unitAt(0, 1)}, {"resolve", 2, (Look.Asked) x -> x.resolve(0, 1)},
            {"copy", 3, (Look.Asked) x -> x.copy(3, 6)}, {"copyPart", 1, (Look.Asked) x -> x.copyPart(0, 3)},
            {"setSeats", 4, (Look.Asked) x -> x.setSeats(6)}, {"request", -1, (Look.Asked) x -> x.request(5, 3, 500)},
            {"requestPart", 4, (Look.Asked) x -> x.requestPart(2, 4)}, {"cancel", 3, (Look.Asked) x -> x.cancel(0)},
            {"review", 1, (Look.Asked) FindingAid::review}, {"account", 3, (Look.Asked) x -> x.account(9)},
            {"dayCount", 3, (Look.Asked) x -> x.dayCount(430, 1)}, {"report", 1, (Look.Asked) x -> x.report(1, 1)},
            {"feed", 4, (Look.Asked) x -> x.feed(')')}, {"read", 1, (Look.Asked) x -> x.read(0)},
            {"write", 36, (Look.Asked) x -> x.write(0)}, {"text", '1', (Look.Asked) x -> x.text(0)},
            {"undo", 7, (Look.Asked) FindingAid::undo}, {"save", 6, (Look.Asked) FindingAid::save},
            {"restore", 7, (Look.Asked) FindingAid::restore},
        };
        for (Object[] one : calls) {
            Run run = new Run((String) one[0], Make.rich(), CALLS_OF_RICH);
            run.fill(1);
            run.due(one[1] instanceof Character ? (Character) one[1] : (Integer) one[1], (Look.Asked) one[2]);
            run.end();
        }
        Run run = new Run("openShare", Make.rich(), CALLS_OF_RICH);
        run.fill(1);
        run.due(0.9, x -> x.openShare(351));
        run.end();
    }

    private static void eachRefusalIsThe512th() {
        refusedAsThe512th(Check.INDEX, x -> x.add(MAX, MAX, MAX, MAX, MAX), x -> x.remove(MIN), x -> x.move(MIN, MAX),
            x -> x.node(MAX, 0), x -> x.child(0, MAX), x -> x.setRule(MIN, 0, 1), x -> x.setPage(2, MAX, 1),
            x -> x.restriction(MAX, 0), x -> x.openPages(MIN, 0), x -> x.firstDay(MAX), x -> x.put(MIN, MAX),
            x -> x.takeOut(MAX), x -> x.split(0, MIN, 1), x -> x.merge(MAX, MIN), x -> x.container(MAX, 0),
            x -> x.unitAt(0, MIN), x -> x.copy(MAX, MAX), x -> x.copyPart(MIN, 0), x -> x.request(MAX, 2, 0),
            x -> x.requestPart(MAX, 0), x -> x.cancel(MIN), x -> x.read(MAX), x -> x.write(MIN), x -> x.text(MAX));
        refusedAsThe512th(Check.ARGUMENT, x -> x.add(0, MIN, MIN, MIN, MIN), x -> x.remove(0), x -> x.move(0, 1),
            x -> x.node(0, MAX), x -> x.setRule(0, MAX, MAX), x -> x.setPage(2, 0, MIN), x -> x.restriction(0, MAX),
            x -> x.openPages(2, MAX), x -> x.addContainer(MAX), x -> x.put(0, 0), x -> x.split(0, 0, MAX),
            x -> x.merge(0, 0), x -> x.container(0, MIN), x -> x.copy(2, MIN), x -> x.copyPart(0, MAX),
            x -> x.setSeats(MIN), x -> x.request(0, 2, MAX), x -> x.requestPart(0, MIN), x -> x.account(MAX),
            x -> x.dayCount(MIN, MAX), x -> x.openShare(MAX), x -> x.report(0, MAX));
        refusedAsThe512th(Check.STATE, x -> x.put(2, 1), x -> x.takeOut(4), x -> x.split(0, 0, 7), x -> x.merge(0, 1));
        refusedAsThe512th(Check.NO_ELEMENT, x -> x.resolve(MIN, MAX), x -> x.resolve(2, 1), x -> x.report(MAX, 0));
        refusedAsThe512th(Check.UNSUPPORTED, x -> x.request(1, 2, 430), x -> x.read(3));
    }

    private static void refusedAsThe512th(Class<? extends RuntimeException> due, Look.Asked... calls) {
        for (int i = 0; i < calls.length; i++) {
            Run run = new Run(due.getName() + " " + i, Make.rich(), CALLS_OF_RICH);
            run.fill(1);
            run.fails(due, calls[i]);
            run.end();
        }
    }

    private static void puts() {
        Run run = new Run("puts", new FindingAid(), 0);
        run.due(1, x -> x.add(0, 2, 5, -1, 0));
        run.due(2, x -> x.add(0, 2, 5, -1, 0));
        run.due(0, x -> x.addContainer(10));
        for (int serial = 1; serial <= 505; serial++) {
            int unit = 1 + serial % 2;
            run.due(serial, x -> x.put(unit, 0));
        }
        run.due(505, x -> x.container(0, 3));
        run.due(505, x -> x.account(9));
        run.due(2, x -> x.resolve(0, 1));
        run.due(1, x -> x.resolve(0, 504));
        run.end();
    }

    /** 39 units go through all 30 containers, back and forth, and are put one by one then. */
    private static void mostMarks() {
        Run run = new Run("marks", new FindingAid(), 0);
        run.due(0, x -> x.addContainer(200));
        for (int unit = 1; unit <= 39; unit++) {
            int its = unit;
            run.due(unit, x -> x.add(0, 3, 5, -1, 0));
            run.due(unit, x -> x.put(its, 0));
        }
        for (int container = 1; container <= 29; container++) {
            int its = container;
            run.due(container, x -> x.split(0, 0, 195));
            run.due(39, x -> x.merge(its, 0));
        }
        int puts = CALLS - 1 - 2 * 39 - 2 * 29 - 3;
        for (int i = 0; i < puts; i++) {
            int unit = 1 + i % 39;
            int serial = 30 * 39 + i + 1;
            run.due(serial, x -> x.put(unit, 0));
        }
        run.due(59 * 39 + puts, x -> x.account(9));
        run.due(39, x -> x.resolve(29, 39));
        run.due(1 + (puts - 1) % 39, x -> x.resolve(0, 30 * 39 + puts));
        run.end();
    }

    private static void changesAndUndo() {
        Run run = new Run("changes and undo", new FindingAid(), 0);
        for (int i = 0; i < CALLS - 8; i++) {
            int seats = 1 + i % 6;
            run.due(i == 0 ? 3 : 1 + (i - 1) % 6, x -> x.setSeats(seats));
        }
        for (int left = 7; left >= 0; left--) {
            run.due(left, FindingAid::undo);
        }
        run.end();
    }

    private static void changesAndNinthUndo() {
        Run run = new Run("changes and nine times undo", new FindingAid(), 0);
        for (int i = 0; i < CALLS - 9; i++) {
            run.due(0, FindingAid::review);
        }
        for (int left = 7; left >= 0; left--) {
            run.due(left, FindingAid::undo);
        }
        run.fails(Check.STATE, FindingAid::undo);
        run.end();
    }

    private static void addAndUndo() {
        Run run = new Run("add and undo", new FindingAid(), 0);
        for (int i = 0; i < CALLS / 2; i++) {
            run.due(1, x -> x.add(0, 2, 20, 0, 9999));
            run.due(0, FindingAid::undo);
        }
        run.end();
    }

    private static void saveAndRestore() {
        Run run = new Run("save and restore", new FindingAid(), 0);
        for (int node = 1; node < 40; node++) {
            int its = node;
            run.due(node, x -> x.add(0, 1, 0, -1, 0));
            run.due(node + 1, FindingAid::save);
            run.due(1, x -> x.remove(its));
            run.due(node + 1, FindingAid::restore);
        }
        while (run.calls < CALLS - 2) {
            run.due(40, FindingAid::save);
            run.due(40, FindingAid::restore);
        }
        run.fails(Check.STATE, x -> x.add(0, 1, 0, -1, 0));
        run.fails(Check.STATE, FindingAid::undo);
        run.end();
    }

    private static void requestAndCancel() {
        Run run = new Run("request and cancel", new FindingAid(), 0);
        run.due(1, x -> x.add(0, 2, 5, 0, 0));
        run.due(0, x -> x.addContainer(5));
        run.due(1, x -> x.put(1, 0));
        for (int i = 0; i < 30; i++) {
            int number = i;
            run.due(-1, x -> x.request(number % 8, 1, number));
        }
        while (run.calls < CALLS - 1) {
            int day = run.calls;
            run.due(29, x -> x.cancel(0));
            run.due(-1, x -> x.request(7, 1, 9999 - day));
        }
        run.fails(Check.STATE, x -> x.request(0, 1, 31));
        run.end();
    }

    private static void refusedRequests() {
        Run run = new Run("refused requests", new FindingAid(), 0);
        run.due(1, x -> x.add(0, 2, 5, 0, 0));
        run.due(-1, x -> x.setRule(0, 0, 5000));
        while (run.calls < CALLS - 2) {
            int day = run.calls;
            run.fails(Check.UNSUPPORTED, x -> x.request(day % 8, 1, day));
        }
        run.due(4, x -> x.report(1, 0));
        run.fails(Check.NO_ELEMENT, x -> x.report(3, 0));
        run.end();
    }

    private static void letters() {
        Run run = new Run("letters", new FindingAid(), 0);
        for (int i = 1; i <= 100; i++) {
            run.due(i, x -> x.feed('3'));
        }
        while (run.calls < CALLS - 2) {
            run.fails(Check.STATE, x -> x.feed('3'));
        }
        run.due(-101, x -> x.read(0));
        run.due(1, x -> x.feed('3'));
        run.end();
    }

    private static void texts() {
        Run run = new Run("texts", new FindingAid(), 0);
        for (int unit = 1; unit <= 39; unit++) {
            run.due(unit, x -> x.add(0, 2, 20, 1000, 9999));
        }
        int length = 2 + 39 * 15;
        while (run.calls < CALLS - 3) {
            run.due(length, x -> x.write(0));
        }
        run.due(')', x -> x.text(length - 1));
        run.due('9', x -> x.text(length - 2));
        run.fails(Check.INDEX, x -> x.text(length));
        run.end();
    }
}
