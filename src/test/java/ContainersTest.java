/** Promises 12 to 19: addContainer, put, takeOut, split, merge, container, unitAt, resolve. */
public final class ContainersTest {
    public static void main(String[] args) {
        putGivesMarks();
        takeOutTells();
        splitMovesUnits();
        mergeMovesUnits();
        containerTells();
        marksGoOn();
        manyMarks();
        Check.end();
    }

    private static void putGivesMarks() {
        FindingAid aid = Make.units(4, 5);
        aid.addContainer(15);
        aid.addContainer(200);
        Check.same("serial", aid.put(1, 0), 1);
        Check.same("serial", aid.put(2, 0), 2);
        Check.same("serial", aid.put(3, 0), 3);
        Check.same("into the same, which is full", aid.put(1, 0), 4);
        order(aid, 0, 2, 3, 1);
        Check.same("into another", aid.put(3, 1), 1);
        order(aid, 0, 2, 1);
        order(aid, 1, 3);
        Check.same("its container", aid.node(3, 9), 1);
        Check.same("its serial", aid.node(3, 10), 1);
        Check.same("the room is free again", aid.put(4, 0), 5);
        Check.same("the count goes on", aid.container(0, 3), 5);
    }

    private static void takeOutTells() {
        FindingAid aid = Make.units(3, 5);
        aid.addContainer(200);
        aid.addContainer(200);
        aid.put(1, 1);
        aid.put(2, 1);
        aid.put(3, 1);
        Check.same("takeOut", aid.takeOut(2), 1);
        order(aid, 1, 1, 3);
        Check.same("the mark goes on", aid.resolve(1, 2), 2);
        Check.same("the next serial", aid.put(2, 1), 4);
    }

    private static void splitMovesUnits() {
        FindingAid aid = Make.units(5, 4);
        aid.addContainer(20);
        for (int unit = 1; unit <= 5; unit++) {
            aid.put(unit, 0);
        }
        aid.put(1, 0);
        Check.same("split", aid.split(0, 2, 12), 1);
        order(aid, 0, 2, 3);
        order(aid, 1, 4, 5, 1);
        Check.same("new marks", aid.node(1, 10), 3);
        Check.same("new marks", aid.node(4, 10), 1);
        Check.same("put so far", aid.container(1, 3), 3);
        Check.same("put so far", aid.container(0, 3), 6);
        Check.same("old mark", aid.resolve(0, 6), 1);
        Check.same("new mark", aid.resolve(1, 3), 1);
        Check.same("split of all", aid.split(0, 0, 8), 2);
        order(aid, 0);
        order(aid, 2, 2, 3);
        Check.same("capacity", aid.container(2, 0), 8);
        Check.same("containers", aid.account(3), 3);
        Check.same("undo", aid.undo(), 7);
        order(aid, 0, 2, 3);
    }

    private static void mergeMovesUnits() {
        FindingAid aid = Make.units(5, 4);
        aid.addContainer(20);
        aid.addContainer(20);
        aid.put(1, 0);
        aid.put(2, 1);
        aid.put(3, 0);
        aid.put(4, 1);
        aid.put(1, 0);
        Check.same("merge", aid.merge(0, 1), 2);
        order(aid, 1, 2, 4, 3, 1);
        Check.same("new mark", aid.node(3, 10), 3);
        Check.same("new mark", aid.node(1, 10), 4);
        Check.same("mark of the merged one", aid.resolve(0, 3), 1);
        Check.same("mark of the merged one", aid.resolve(0, 1), 1);
        Check.fails("it does not exist", Check.INDEX, () -> aid.container(0, 0));
        Check.same("containers", aid.account(3), 1);
        Check.same("the next number", aid.addContainer(7), 2);
        Check.same("merge of an empty one", aid.merge(2, 1), 0);
    }

    private static void containerTells() {
        FindingAid aid = Make.units(3, 5);
        aid.addContainer(123);
        aid.put(1, 0);
        aid.put(2, 0);
        aid.put(1, 0);
        int[] parts = {123, 2, 10, 3};
        for (int what = 0; what < 4; what++) {
            Check.same("container " + what, aid.container(0, what), parts[what]);
        }
    }

    private static void marksGoOn() {
        FindingAid aid = Make.units(3, 5);
        aid.addContainer(50);
        aid.put(1, 0);
        aid.put(2, 0);
        aid.split(0, 1, 50);
        aid.merge(0, 1);
        aid.put(1, 1);
        Check.same("marks", aid.account(9), 5);
        int[][] due = {{0, 1, 1}, {0, 2, 2}, {1, 1, 2}, {1, 2, 1}, {1, 3, 1}};
        for (int[] mark : due) {
            Check.same("mark " + mark[0] + "." + mark[1], aid.resolve(mark[0], mark[1]), mark[2]);
        }
        aid.remove(2);
        Check.fails("removed unit", Check.NO_ELEMENT, () -> aid.resolve(0, 2));
        Check.same("marks", aid.account(9), 3);
        aid.undo();
        Check.same("back again", aid.resolve(0, 2), 2);
    }

    /** More marks than 512 calls can give: what is answered then is free, but it has to be an answer. */
    private static void manyMarks() {
        FindingAid aid = Make.units(39, 1);
        aid.addContainer(200);
        for (int unit = 1; unit < 40; unit++) {
            aid.put(unit, 0);
        }
        for (int container = 1; container < 30; container++) {
            aid.split(container - 1, 0, 200);
            aid.merge(container - 1, container);
        }
        Check.same("marks", aid.account(9), 30 * 39);
        for (int i = 0; i < 1600; i++) {
            Check.same("serial", aid.put(1 + i % 39, 29), 40 + i);
        }
        aid.save();
        Check.same("marks", aid.account(9), 1600 + 30 * 39);
        Check.same("a late mark", aid.resolve(29, 1639), 1 + 1599 % 39);
        aid.undo();
        Check.fails("undone", Check.NO_ELEMENT, () -> aid.resolve(29, 1639));
        aid.restore();
        Check.same("restored", aid.resolve(29, 1639), 1 + 1599 % 39);
        Check.same("an early mark", aid.resolve(0, 39), 39);
        for (int i = 1600 + 30 * 39; i < 4096; i++) {
            aid.put(1, 29);
        }
        Check.fails("a mark beyond all that the document allows", Check.STATE, () -> aid.put(1, 29));
        Check.same("marks", aid.account(9), 4096);
    }

    private static void order(FindingAid aid, int container, int... units) {
        Check.same("units of " + container, aid.container(container, 1), units.length);
        for (int i = 0; i < units.length; i++) {
            Check.same("unit " + i + " of " + container, aid.unitAt(container, i), units[i]);
        }
        Check.fails("the place behind them", Check.INDEX, () -> aid.unitAt(container, units.length));
    }
}
