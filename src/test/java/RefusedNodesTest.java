/**
 * Each "Throws" line of promises 2 to 11: the first values that are refused on both sides, the exception that is
 * named first where two apply, and that nothing has changed then.
 */
public final class RefusedNodesTest {
    private static final int MIN = Integer.MIN_VALUE;
    private static final int MAX = Integer.MAX_VALUE;
    private static final Look.Past RICH = Make::rich;
    private static final Look.Past ALL_NODES = Make::allNodes;

    public static void main(String[] args) {
        add();
        addOfAllNodes();
        remove();
        move();
        node();
        child();
        setRule();
        setPage();
        restriction();
        openPages();
        firstDay();
        Check.end();
    }

    private static void add() {
        Twins.refuse("add without such a parent, whatever else is wrong", Check.INDEX, RICH,
            x -> x.add(-1, 1, 0, -1, 0), x -> x.add(7, 1, 0, -1, 0), x -> x.add(6, 3, 0, -1, 0),
            x -> x.add(40, 1, 0, -1, 0), x -> x.add(MIN, 1, 0, -1, 0), x -> x.add(MAX, 1, 0, -1, 0),
            x -> x.add(7, 0, 0, -1, 0), x -> x.add(-1, 1, 1, -1, 0), x -> x.add(7, 2, 21, 5, 4));
        Twins.refuse("add of a kind that is not from 1 to 3", Check.ARGUMENT, RICH,
            x -> x.add(0, 0, 0, -1, 0), x -> x.add(0, 4, 0, -1, 0), x -> x.add(0, -1, 0, -1, 0),
            x -> x.add(3, 4, 0, -1, 0), x -> x.add(0, MIN, 0, -1, 0), x -> x.add(0, MAX, 0, -1, 0));
        Twins.refuse("add of a kind that is not greater than that of the parent", Check.ARGUMENT, RICH,
            x -> x.add(1, 1, 0, -1, 0), x -> x.add(2, 2, 0, -1, 0), x -> x.add(2, 1, 0, -1, 0),
            x -> x.add(4, 2, 0, -1, 0), x -> x.add(3, 3, 0, -1, 0), x -> x.add(5, 3, 0, -1, 0),
            x -> x.add(3, 2, 0, -1, 0), x -> x.add(3, 1, 0, -1, 0));
        Twins.refuse("add with a number of pages out of range, or not 0 for a series", Check.ARGUMENT, RICH,
            x -> x.add(0, 2, -1, -1, 0), x -> x.add(0, 2, 21, -1, 0), x -> x.add(0, 3, -1, -1, 0),
            x -> x.add(0, 3, 21, -1, 0), x -> x.add(0, 1, 1, -1, 0), x -> x.add(0, 1, -1, -1, 0),
            x -> x.add(0, 1, 20, -1, 0), x -> x.add(0, 2, MIN, -1, 0), x -> x.add(0, 2, MAX, -1, 0));
        Twins.refuse("add with a day out of range", Check.ARGUMENT, RICH,
            x -> x.add(0, 2, 1, -2, 5), x -> x.add(0, 2, 1, -2, -2), x -> x.add(0, 2, 1, 10000, 10000),
            x -> x.add(0, 2, 1, 0, 10000), x -> x.add(0, 2, 1, 9999, 10000), x -> x.add(0, 2, 1, 0, -1),
            x -> x.add(0, 2, 1, MIN, 5), x -> x.add(0, 2, 1, MIN, MIN), x -> x.add(0, 2, 1, MAX, MAX),
            x -> x.add(0, 2, 1, 0, MAX), x -> x.add(0, 2, 1, 0, MIN));
        Twins.refuse("add with the last day before the first one", Check.ARGUMENT, RICH,
            x -> x.add(0, 2, 1, 1, 0), x -> x.add(0, 3, 1, 9999, 9998), x -> x.add(0, 1, 0, 9999, 0));
    }

    private static void addOfAllNodes() {
        Twins.refuse("add if there have been 40 nodes", Check.STATE, ALL_NODES,
            x -> x.add(0, 1, 0, -1, 0), x -> x.add(38, 3, 20, 0, 9999));
        Twins.refuse("add if there have been 40 nodes, with a wrong argument", Check.ARGUMENT, ALL_NODES,
            x -> x.add(0, 0, 0, -1, 0), x -> x.add(0, 4, 0, -1, 0), x -> x.add(1, 2, 0, -1, 0),
            x -> x.add(0, 1, 1, -1, 0), x -> x.add(0, 2, 21, -1, 0), x -> x.add(0, 2, 1, -2, 0),
            x -> x.add(0, 2, 1, 2, 1));
        Twins.refuse("add if there have been 40 nodes, without such a parent", Check.INDEX, ALL_NODES,
            x -> x.add(39, 3, 0, -1, 0), x -> x.add(40, 3, 0, -1, 0), x -> x.add(-1, 0, 0, -1, 0));
    }

    private static void remove() {
        Twins.refuse("remove of no node", Check.INDEX, RICH,
            x -> x.remove(-1), x -> x.remove(7), x -> x.remove(6), x -> x.remove(40), x -> x.remove(MIN),
            x -> x.remove(MAX));
        Twins.refuse("remove of the root", Check.ARGUMENT, RICH, x -> x.remove(0));
    }

    private static void move() {
        Twins.refuse("move of no node, or to none, whatever else is wrong", Check.INDEX, RICH,
            x -> x.move(-1, 0), x -> x.move(7, 0), x -> x.move(6, 0), x -> x.move(40, 0), x -> x.move(MIN, 0),
            x -> x.move(MAX, 0), x -> x.move(2, -1), x -> x.move(2, 7), x -> x.move(2, 6), x -> x.move(2, 40),
            x -> x.move(2, MIN), x -> x.move(2, MAX), x -> x.move(0, 7), x -> x.move(7, 7));
        Twins.refuse("move of the root", Check.ARGUMENT, RICH,
            x -> x.move(0, 0), x -> x.move(0, 1), x -> x.move(0, 3), x -> x.move(0, 5));
        Twins.refuse("move to the node or below it", Check.ARGUMENT, RICH,
            x -> x.move(1, 1), x -> x.move(1, 2), x -> x.move(1, 3), x -> x.move(2, 2), x -> x.move(2, 3));
        Twins.refuse("move to a parent of a kind that is not less", Check.ARGUMENT, RICH,
            x -> x.move(2, 4), x -> x.move(4, 2), x -> x.move(5, 3), x -> x.move(2, 5), x -> x.move(1, 4),
            x -> x.move(1, 5));
    }

    private static void node() {
        Twins.refuse("node of none, whatever else is wrong", Check.INDEX, RICH,
            x -> x.node(-1, 0), x -> x.node(7, 0), x -> x.node(6, 0), x -> x.node(40, 0), x -> x.node(MIN, 0),
            x -> x.node(MAX, 0), x -> x.node(7, 12), x -> x.node(-1, -1));
        Twins.refuse("node with what out of range", Check.ARGUMENT, RICH,
            x -> x.node(0, -1), x -> x.node(0, 12), x -> x.node(2, 12), x -> x.node(2, MIN), x -> x.node(2, MAX));
    }

    private static void child() {
        Twins.refuse("child of no node, or no such child", Check.INDEX, RICH,
            x -> x.child(-1, 0), x -> x.child(7, 0), x -> x.child(6, 0), x -> x.child(MIN, 0), x -> x.child(MAX, 0),
            x -> x.child(0, 3), x -> x.child(0, -1), x -> x.child(1, 1), x -> x.child(3, 0), x -> x.child(4, 0),
            x -> x.child(0, MIN), x -> x.child(0, MAX));
    }

    private static void setRule() {
        Twins.refuse("setRule for no node, whatever else is wrong", Check.INDEX, RICH,
            x -> x.setRule(-1, 0, 1), x -> x.setRule(7, 0, 1), x -> x.setRule(6, -1, 0), x -> x.setRule(40, 2, 0),
            x -> x.setRule(MIN, 0, 1), x -> x.setRule(MAX, 0, 1), x -> x.setRule(7, 3, 1), x -> x.setRule(7, 0, 0));
        Twins.refuse("setRule with the mode out of range", Check.ARGUMENT, RICH,
            x -> x.setRule(1, -2, 1), x -> x.setRule(1, 3, 1), x -> x.setRule(0, MIN, 1), x -> x.setRule(0, MAX, 1));
        Twins.refuse("setRule with the length out of range", Check.ARGUMENT, RICH,
            x -> x.setRule(1, 0, 0), x -> x.setRule(1, 0, 5001), x -> x.setRule(1, 1, 0), x -> x.setRule(1, 1, 5001),
            x -> x.setRule(1, 0, -1), x -> x.setRule(1, 1, -1), x -> x.setRule(1, 0, MIN), x -> x.setRule(1, 1, MAX));
    }

    private static void setPage() {
        Twins.refuse("setPage for no node or page, whatever else is wrong", Check.INDEX, RICH,
            x -> x.setPage(-1, 0, 1), x -> x.setPage(7, 0, 1), x -> x.setPage(6, 0, 1), x -> x.setPage(MIN, 0, 1),
            x -> x.setPage(MAX, 0, 1), x -> x.setPage(2, -1, 1), x -> x.setPage(2, 5, 1), x -> x.setPage(5, 2, 1),
            x -> x.setPage(0, 0, 1), x -> x.setPage(1, 0, 1), x -> x.setPage(4, 0, 1), x -> x.setPage(2, MIN, 1),
            x -> x.setPage(2, MAX, 1), x -> x.setPage(2, 5, 5001), x -> x.setPage(7, 0, -1));
        Twins.refuse("setPage with the length out of range", Check.ARGUMENT, RICH,
            x -> x.setPage(2, 1, -1), x -> x.setPage(2, 1, 5001), x -> x.setPage(2, 0, -1), x -> x.setPage(2, 4, 5001),
            x -> x.setPage(2, 1, MIN), x -> x.setPage(2, 1, MAX));
    }

    private static void restriction() {
        Twins.refuse("restriction of no node, whatever else is wrong", Check.INDEX, RICH,
            x -> x.restriction(-1, 0), x -> x.restriction(7, 0), x -> x.restriction(6, 0), x -> x.restriction(MIN, 0),
            x -> x.restriction(MAX, 0), x -> x.restriction(7, 3));
        Twins.refuse("restriction with what out of range", Check.ARGUMENT, RICH,
            x -> x.restriction(0, -1), x -> x.restriction(0, 3), x -> x.restriction(2, MIN),
            x -> x.restriction(2, MAX));
    }

    private static void openPages() {
        Twins.refuse("openPages of no node, whatever else is wrong", Check.INDEX, RICH,
            x -> x.openPages(-1, 0), x -> x.openPages(7, 0), x -> x.openPages(6, 0), x -> x.openPages(MIN, 0),
            x -> x.openPages(MAX, 0), x -> x.openPages(7, -1), x -> x.openPages(7, 10000));
        Twins.refuse("openPages on a day out of range", Check.ARGUMENT, RICH,
            x -> x.openPages(2, -1), x -> x.openPages(2, 10000), x -> x.openPages(0, -1), x -> x.openPages(0, 10000),
            x -> x.openPages(2, MIN), x -> x.openPages(2, MAX));
    }

    private static void firstDay() {
        Twins.refuse("firstDay of no copy", Check.INDEX, RICH,
            x -> x.firstDay(-1), x -> x.firstDay(3), x -> x.firstDay(1), x -> x.firstDay(16), x -> x.firstDay(MIN),
            x -> x.firstDay(MAX));
        Twins.refuse("firstDay if there is no such day up to 9999", Check.NO_ELEMENT, RefusedNodesTest::neverShown,
            x -> x.firstDay(0), x -> x.firstDay(1));
    }

    /** The copy 0 of a unit without dates, and the copy 1 that could be shown on the day 10000. */
    private static FindingAid neverShown() {
        FindingAid aid = new FindingAid();
        aid.add(0, 2, 2, -1, 0);
        aid.add(0, 2, 2, 0, 4999);
        aid.setPage(1, 1, 1);
        aid.setPage(2, 1, 5000);
        aid.copy(1, 1);
        aid.copy(2, 1);
        return aid;
    }
}
