/** Promises 12 to 19: addContainer, put, takeOut, split, merge, container, unitAt, resolve. */
public final class ContainersTest {
    public static void main(String[] args) {
        addContainerCounts();
        putGivesMarks();
        putRefuses();
        takeOutTells();
        splitMovesUnits();
        splitRefuses();
        mergeMovesUnits();
        mergeRefuses();
        containerTells();
        marksGoOn();
        manyMarks();
        Check.end();
    }

    private static void addContainerCounts() {
        FindingAid aid = units(3, 5);
        for (int capacity : new int[] {0, -1, 201, Integer.MIN_VALUE, Integer.MAX_VALUE}) {
            Check.refuses("capacity " + capacity, Check.ARGUMENT, aid, () -> aid.addContainer(capacity));
        }
        for (int container = 0; container < 10; container++) {
            Check.same("container", aid.addContainer(container == 0 ? 1 : 200), container);
        }
        Check.refuses("the 11th at a time", Check.STATE, aid, () -> aid.addContainer(5));
        Check.refuses("first its capacity", Check.ARGUMENT, aid, () -> aid.addContainer(0));
        for (int container = 10; container < 30; container++) {
            Check.same("merge", aid.merge(container - 1, 0), 0);
            Check.same("container", aid.addContainer(200), container);
        }
        Check.fails("there is no container 30", Check.INDEX, () -> aid.container(30, 0));
        aid.merge(29, 0);
        Check.refuses("the 31st", Check.STATE, aid, () -> aid.addContainer(5));
        aid.put(1, 1);
        Check.refuses("the 31st by split", Check.STATE, aid, () -> aid.split(1, 0, 50));
        Check.same("at a time", aid.account(3), 9);
    }

    private static void putGivesMarks() {
        FindingAid aid = units(4, 5);
        aid.addContainer(15);
        aid.addContainer(200);
        Check.same("serial", aid.put(1, 0), 1);
        Check.same("serial", aid.put(2, 0), 2);
        Check.same("serial", aid.put(3, 0), 3);
        Check.same("into the same, which is full", aid.put(1, 0), 4);
        order(aid, 0, 2, 3, 1);
        Check.same("into another", aid.put(3, 1), 1);
        order(aid, 0, 2, 1);
        order(aid, 1, 3);
        Check.same("its container", aid.node(3, 9), 1);
        Check.same("its serial", aid.node(3, 10), 1);
        Check.same("the room is free again", aid.put(4, 0), 5);
        Check.same("the count goes on", aid.container(0, 3), 5);
    }

    private static void putRefuses() {
        FindingAid aid = units(3, 5);
        aid.add(0, 2, 0, -1, 0);
        aid.addContainer(9);
        aid.addContainer(200);
        aid.put(1, 0);
        Check.refuses("no node", Check.INDEX, aid, () -> aid.put(5, 0));
        Check.refuses("no node", Check.INDEX, aid, () -> aid.put(-1, 0));
        Check.refuses("no container", Check.INDEX, aid, () -> aid.put(4, 2));
        Check.refuses("no container", Check.INDEX, aid, () -> aid.put(1, -1));
        Check.refuses("no unit", Check.ARGUMENT, aid, () -> aid.put(4, 0));
        Check.refuses("no unit", Check.ARGUMENT, aid, () -> aid.put(0, 0));
        Check.refuses("no room", Check.STATE, aid, () -> aid.put(2, 0));
        aid.merge(1, 0);
        Check.refuses("merged container", Check.INDEX, aid, () -> aid.put(1, 1));
        aid.takeOut(1);
        Check.same("room", aid.put(2, 0), 2);
    }

    private static void takeOutTells() {
        FindingAid aid = units(3, 5);
        aid.addContainer(200);
        aid.addContainer(200);
        aid.put(1, 1);
        aid.put(2, 1);
        aid.put(3, 1);
        Check.same("takeOut", aid.takeOut(2), 1);
        order(aid, 1, 1, 3);
        Check.refuses("again", Check.STATE, aid, () -> aid.takeOut(2));
        Check.refuses("no unit", Check.STATE, aid, () -> aid.takeOut(0));
        Check.refuses("no node", Check.INDEX, aid, () -> aid.takeOut(4));
        Check.refuses("no node", Check.INDEX, aid, () -> aid.takeOut(-1));
        Check.same("the mark goes on", aid.resolve(1, 2), 2);
        Check.same("the next serial", aid.put(2, 1), 4);
    }

    private static void splitMovesUnits() {
        FindingAid aid = units(5, 4);
        aid.addContainer(20);
        for (int unit = 1; unit <= 5; unit++) {
            aid.put(unit, 0);
        }
        aid.put(1, 0);
        Check.same("split", aid.split(0, 2, 12), 1);
        order(aid, 0, 2, 3);
        order(aid, 1, 4, 5, 1);
        Check.same("new marks", aid.node(1, 10), 3);
        Check.same("new marks", aid.node(4, 10), 1);
        Check.same("put so far", aid.container(1, 3), 3);
        Check.same("put so far", aid.container(0, 3), 6);
        Check.same("old mark", aid.resolve(0, 6), 1);
        Check.same("new mark", aid.resolve(1, 3), 1);
        Check.same("split of all", aid.split(0, 0, 8), 2);
        order(aid, 0);
        order(aid, 2, 2, 3);
        Check.same("capacity", aid.container(2, 0), 8);
        Check.same("containers", aid.account(3), 3);
        Check.same("undo", aid.undo(), 7);
        order(aid, 0, 2, 3);
    }

    private static void splitRefuses() {
        FindingAid aid = units(3, 5);
        aid.addContainer(200);
        Check.refuses("an empty one", Check.INDEX, aid, () -> aid.split(0, 0, 10));
        aid.put(1, 0);
        aid.put(2, 0);
        aid.put(3, 0);
        int[][] places = {{1, 0}, {-1, 0}, {0, 3}, {0, -1}, {0, Integer.MAX_VALUE}, {0, Integer.MIN_VALUE}};
        for (int[] place : places) {
            Check.refuses("split " + place[0] + " " + place[1], Check.INDEX, aid,
                () -> aid.split(place[0], place[1], 0));
        }
        Check.refuses("capacity", Check.ARGUMENT, aid, () -> aid.split(0, 1, 0));
        Check.refuses("capacity", Check.ARGUMENT, aid, () -> aid.split(0, 1, 201));
        Check.refuses("no room", Check.STATE, aid, () -> aid.split(0, 1, 9));
        for (int container = 1; container < 10; container++) {
            aid.addContainer(1);
        }
        Check.refuses("the 11th at a time", Check.STATE, aid, () -> aid.split(0, 1, 10));
        aid.merge(9, 8);
        Check.same("the tenth", aid.split(0, 1, 10), 10);
    }

    private static void mergeMovesUnits() {
        FindingAid aid = units(5, 4);
        aid.addContainer(20);
        aid.addContainer(20);
        aid.put(1, 0);
        aid.put(2, 1);
        aid.put(3, 0);
        aid.put(4, 1);
        aid.put(1, 0);
        Check.same("merge", aid.merge(0, 1), 2);
        order(aid, 1, 2, 4, 3, 1);
        Check.same("new mark", aid.node(3, 10), 3);
        Check.same("new mark", aid.node(1, 10), 4);
        Check.same("mark of the merged one", aid.resolve(0, 3), 1);
        Check.same("mark of the merged one", aid.resolve(0, 1), 1);
        Check.fails("it does not exist", Check.INDEX, () -> aid.container(0, 0));
        Check.same("containers", aid.account(3), 1);
        Check.same("the next number", aid.addContainer(7), 2);
        Check.same("merge of an empty one", aid.merge(2, 1), 0);
    }

    private static void mergeRefuses() {
        FindingAid aid = units(3, 5);
        aid.addContainer(14);
        aid.addContainer(200);
        aid.addContainer(15);
        aid.put(1, 0);
        aid.put(2, 0);
        aid.put(3, 1);
        int[][] none = {{3, 0}, {0, 3}, {-1, 0}, {0, -1}, {3, 3}};
        for (int[] pair : none) {
            Check.refuses("merge " + pair[0] + " " + pair[1], Check.INDEX, aid, () -> aid.merge(pair[0], pair[1]));
        }
        Check.refuses("the same", Check.ARGUMENT, aid, () -> aid.merge(1, 1));
        Check.refuses("no room", Check.STATE, aid, () -> aid.merge(1, 0));
        Check.same("merge", aid.merge(1, 2), 1);
        Check.same("exact room", aid.merge(0, 2), 2);
        Check.refuses("merged", Check.INDEX, aid, () -> aid.merge(0, 2));
    }

    private static void containerTells() {
        FindingAid aid = units(3, 5);
        aid.addContainer(123);
        aid.put(1, 0);
        aid.put(2, 0);
        aid.put(1, 0);
        int[] parts = {123, 2, 10, 3};
        for (int what = 0; what < 4; what++) {
            Check.same("container " + what, aid.container(0, what), parts[what]);
        }
        Check.fails("what", Check.ARGUMENT, () -> aid.container(0, 4));
        Check.fails("what", Check.ARGUMENT, () -> aid.container(0, -1));
        Check.fails("container", Check.INDEX, () -> aid.container(1, 4));
        Check.fails("container", Check.INDEX, () -> aid.container(-1, 0));
        int[][] none = {{0, 2}, {0, -1}, {1, 0}, {-1, 0}, {30, 0}, {0, Integer.MAX_VALUE}};
        for (int[] place : none) {
            Check.fails("unitAt " + place[0] + " " + place[1], Check.INDEX, () -> aid.unitAt(place[0], place[1]));
        }
    }

    private static void marksGoOn() {
        FindingAid aid = units(3, 5);
        aid.addContainer(50);
        aid.put(1, 0);
        aid.put(2, 0);
        aid.split(0, 1, 50);
        aid.merge(0, 1);
        aid.put(1, 1);
        Check.same("marks", aid.account(9), 5);
        int[][] due = {{0, 1, 1}, {0, 2, 2}, {1, 1, 2}, {1, 2, 1}, {1, 3, 1}};
        for (int[] mark : due) {
            Check.same("mark " + mark[0] + "." + mark[1], aid.resolve(mark[0], mark[1]), mark[2]);
        }
        int[][] none = {{0, 0}, {0, 3}, {1, 4}, {2, 1}, {-1, 1}, {30, 1}, {0, -1}, {0, Integer.MAX_VALUE}};
        for (int[] mark : none) {
            Check.fails("mark " + mark[0] + "." + mark[1], Check.NO_ELEMENT, () -> aid.resolve(mark[0], mark[1]));
        }
        aid.remove(2);
        Check.fails("removed unit", Check.NO_ELEMENT, () -> aid.resolve(0, 2));
        Check.same("marks", aid.account(9), 3);
        aid.undo();
        Check.same("back again", aid.resolve(0, 2), 2);
    }

    /** As many marks as 512 calls can give, and more. */
    private static void manyMarks() {
        FindingAid aid = units(39, 1);
        aid.addContainer(200);
        for (int unit = 1; unit < 40; unit++) {
            aid.put(unit, 0);
        }
        for (int container = 1; container < 30; container++) {
            aid.split(container - 1, 0, 200);
            aid.merge(container - 1, container);
        }
        Check.same("marks", aid.account(9), 30 * 39);
        for (int i = 0; i < 1600; i++) {
            Check.same("serial", aid.put(1 + i % 39, 29), 40 + i);
        }
        aid.save();
        Check.same("marks", aid.account(9), 1600 + 30 * 39);
        Check.same("a late mark", aid.resolve(29, 1639), 1 + 1599 % 39);
        aid.undo();
        Check.fails("undone", Check.NO_ELEMENT, () -> aid.resolve(29, 1639));
        aid.restore();
        Check.same("restored", aid.resolve(29, 1639), 1 + 1599 % 39);
        Check.same("an early mark", aid.resolve(0, 39), 39);
        for (int i = 1600 + 30 * 39; i < 4096; i++) {
            aid.put(1, 29);
        }
        Check.refuses("a mark beyond all that the document allows", Check.STATE, aid, () -> aid.put(1, 29));
        Check.same("marks", aid.account(9), 4096);
    }

    private static void order(FindingAid aid, int container, int... units) {
        Check.same("units of " + container, aid.container(container, 1), units.length);
        for (int i = 0; i < units.length; i++) {
            Check.same("unit " + i + " of " + container, aid.unitAt(container, i), units[i]);
        }
        Check.fails("the place behind them", Check.INDEX, () -> aid.unitAt(container, units.length));
    }

    private static FindingAid units(int count, int pages) {
        FindingAid aid = new FindingAid();
        for (int i = 0; i < count; i++) {
            aid.add(0, 2, pages, 0, 10);
        }
        return aid;
    }
}
