/**
 * Each "Throws" line of promises 12 to 19: the first values that are refused on both sides, the exception that is
 * named first where two apply, and that nothing has changed then.
 */
public final class RefusedContainersTest {
    private static final int MIN = Integer.MIN_VALUE;
    private static final int MAX = Integer.MAX_VALUE;
    private static final Look.Past RICH = Make::rich;
    private static final Look.Past TEN = Make::tenContainers;
    private static final Look.Past ALL = Make::allContainers;

    public static void main(String[] args) {
        addContainer();
        put();
        takeOut();
        split();
        splitWithoutRoom();
        merge();
        container();
        unitAt();
        resolve();
        Check.end();
    }

    private static void addContainer() {
        Look.Asked[] capacities = {x -> x.addContainer(0), x -> x.addContainer(201), x -> x.addContainer(-1),
            x -> x.addContainer(MIN), x -> x.addContainer(MAX)};
        Twins.refuse("addContainer with the capacity out of range", Check.ARGUMENT, RICH, capacities);
        Twins.refuse("addContainer with it, if there are 10", Check.ARGUMENT, TEN, capacities);
        Twins.refuse("addContainer with it, if there have been 30", Check.ARGUMENT, ALL, capacities);
        Twins.refuse("addContainer if there are 10 containers", Check.STATE, TEN,
            x -> x.addContainer(1), x -> x.addContainer(200));
        Twins.refuse("addContainer if there have been 30", Check.STATE, ALL,
            x -> x.addContainer(1), x -> x.addContainer(200));
    }

    private static void put() {
        Twins.refuse("put of no node or into no container, whatever else is wrong", Check.INDEX, RICH,
            x -> x.put(-1, 0), x -> x.put(7, 0), x -> x.put(6, 0), x -> x.put(40, 0), x -> x.put(MIN, 0),
            x -> x.put(MAX, 0), x -> x.put(2, -1), x -> x.put(2, 3), x -> x.put(2, 2), x -> x.put(2, 30),
            x -> x.put(2, MIN), x -> x.put(2, MAX), x -> x.put(0, 3), x -> x.put(4, 2), x -> x.put(7, 3));
        Twins.refuse("put of what is no unit", Check.ARGUMENT, RICH,
            x -> x.put(0, 0), x -> x.put(1, 0), x -> x.put(4, 0), x -> x.put(4, 1));
        Twins.refuse("put of what is no unit into a full container", Check.ARGUMENT, RefusedContainersTest::fullOf200,
            x -> x.put(0, 0), x -> x.put(12, 0));
        Twins.refuse("put without room", Check.STATE, TEN, x -> x.put(4, 0));
        Twins.refuse("put of one page too many", Check.STATE, RefusedContainersTest::fullOf200, x -> x.put(11, 0));
        Twins.refuse("put without room keeps the unit where it is", Check.STATE, RICH, x -> x.put(2, 1));
    }

    /** The container 0 is full of 200 pages; the unit 11 has one page, and the node 12 none. */
    private static FindingAid fullOf200() {
        FindingAid aid = Make.shelved(10, 20);
        aid.add(0, 2, 1, -1, 0);
        aid.add(0, 2, 0, -1, 0);
        return aid;
    }

    private static void takeOut() {
        Twins.refuse("takeOut of no node", Check.INDEX, RICH,
            x -> x.takeOut(-1), x -> x.takeOut(7), x -> x.takeOut(6), x -> x.takeOut(40), x -> x.takeOut(MIN),
            x -> x.takeOut(MAX));
        Twins.refuse("takeOut of what is in no container", Check.STATE, RICH,
            x -> x.takeOut(0), x -> x.takeOut(1), x -> x.takeOut(4));
        Twins.refuse("takeOut of a unit that is in none", Check.STATE, TEN, x -> x.takeOut(4));
    }

    private static void split() {
        Twins.refuse("split of no container or at no position, whatever else is wrong", Check.INDEX, RICH,
            x -> x.split(-1, 0, 9), x -> x.split(3, 0, 9), x -> x.split(2, 0, 9), x -> x.split(30, 0, 9),
            x -> x.split(MIN, 0, 9), x -> x.split(MAX, 0, 9), x -> x.split(0, -1, 9), x -> x.split(0, 2, 9),
            x -> x.split(1, 1, 9), x -> x.split(0, MIN, 9), x -> x.split(0, MAX, 9), x -> x.split(0, 2, 0),
            x -> x.split(3, 0, 201), x -> x.split(2, 0, 0));
        Twins.refuse("split with the capacity out of range, whatever else is wrong", Check.ARGUMENT, RICH,
            x -> x.split(0, 0, 0), x -> x.split(0, 1, 201), x -> x.split(0, 1, -1), x -> x.split(0, 1, MIN),
            x -> x.split(0, 1, MAX));
        Twins.refuse("split with it, if there are 10", Check.ARGUMENT, TEN,
            x -> x.split(0, 0, 0), x -> x.split(0, 2, 201));
        Twins.refuse("split with it, if there have been 30", Check.ARGUMENT, ALL,
            x -> x.split(0, 0, 0), x -> x.split(0, 1, 201));
        Twins.refuse("split of an empty one, if there are 10 or have been 30", Check.INDEX, TEN,
            x -> x.split(4, 0, 9), x -> x.split(0, 3, 9), x -> x.split(1, 0, 9));
        Twins.refuse("split of an empty one, if there are 10 or have been 30", Check.INDEX, ALL,
            x -> x.split(29, 0, 9), x -> x.split(0, 2, 9), x -> x.split(1, 0, 9));
    }

    private static void splitWithoutRoom() {
        Twins.refuse("split if there are 10 containers", Check.STATE, TEN,
            x -> x.split(0, 0, 15), x -> x.split(0, 2, 200), x -> x.split(0, 0, 14));
        Twins.refuse("split if there have been 30", Check.STATE, ALL,
            x -> x.split(0, 0, 10), x -> x.split(0, 1, 200), x -> x.split(0, 0, 9));
        Twins.refuse("split without room for the units", Check.STATE, RICH,
            x -> x.split(0, 0, 7), x -> x.split(0, 1, 2), x -> x.split(1, 0, 1));
    }

    private static void merge() {
        Twins.refuse("merge of no container, whatever else is wrong", Check.INDEX, RICH,
            x -> x.merge(-1, 0), x -> x.merge(3, 0), x -> x.merge(2, 0), x -> x.merge(MIN, 0), x -> x.merge(MAX, 0),
            x -> x.merge(0, -1), x -> x.merge(0, 3), x -> x.merge(0, 2), x -> x.merge(0, MIN), x -> x.merge(0, MAX),
            x -> x.merge(2, 2), x -> x.merge(-1, -1), x -> x.merge(30, 30));
        Twins.refuse("merge of both the same", Check.ARGUMENT, RICH, x -> x.merge(0, 0), x -> x.merge(1, 1));
        Twins.refuse("merge of both the same, which is full", Check.ARGUMENT, TEN, x -> x.merge(0, 0));
        Twins.refuse("merge without room", Check.STATE, RICH, x -> x.merge(0, 1));
        Twins.refuse("merge of one page too many", Check.STATE, RefusedContainersTest::tightPair,
            x -> x.merge(0, 1), x -> x.merge(1, 0));
    }

    /** Ten pages in containers of nine in all, so that each has one page too many for the other. */
    private static FindingAid tightPair() {
        FindingAid aid = Make.units(2, 5);
        aid.addContainer(9);
        aid.addContainer(9);
        aid.put(1, 0);
        aid.put(2, 1);
        return aid;
    }

    private static void container() {
        Twins.refuse("container of none, whatever else is wrong", Check.INDEX, RICH,
            x -> x.container(-1, 0), x -> x.container(3, 0), x -> x.container(2, 0), x -> x.container(30, 0),
            x -> x.container(MIN, 0), x -> x.container(MAX, 0), x -> x.container(3, 4), x -> x.container(2, -1));
        Twins.refuse("container with what out of range", Check.ARGUMENT, RICH,
            x -> x.container(0, -1), x -> x.container(0, 4), x -> x.container(0, MIN), x -> x.container(0, MAX));
        Twins.refuse("container of none", Check.INDEX, ALL, x -> x.container(30, 0), x -> x.container(1, 0));
    }

    private static void unitAt() {
        Twins.refuse("unitAt of no container or position", Check.INDEX, RICH,
            x -> x.unitAt(-1, 0), x -> x.unitAt(3, 0), x -> x.unitAt(2, 0), x -> x.unitAt(MIN, 0),
            x -> x.unitAt(MAX, 0), x -> x.unitAt(0, -1), x -> x.unitAt(0, 2), x -> x.unitAt(1, 1),
            x -> x.unitAt(0, MIN), x -> x.unitAt(0, MAX));
        Twins.refuse("unitAt of an empty container", Check.INDEX, ALL, x -> x.unitAt(29, 0));
    }

    private static void resolve() {
        Twins.refuse("resolve of a mark that no unit has got", Check.NO_ELEMENT, RICH,
            x -> x.resolve(0, 0), x -> x.resolve(0, 3), x -> x.resolve(0, -1), x -> x.resolve(1, 0),
            x -> x.resolve(1, 2), x -> x.resolve(3, 1), x -> x.resolve(-1, 1), x -> x.resolve(30, 1),
            x -> x.resolve(0, MIN), x -> x.resolve(0, MAX), x -> x.resolve(MIN, 1), x -> x.resolve(MAX, 1));
        Twins.refuse("resolve of a mark whose unit has been removed", Check.NO_ELEMENT, RICH, x -> x.resolve(2, 1));
    }
}
