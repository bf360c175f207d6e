/** Promises 1 to 6: a new object, add, remove, move, node, child. */
public final class NodesTest {
    public static void main(String[] args) {
        newObject();
        objectsStandApart();
        addTakesAllKindsAndDates();
        removeTakesAllBelow();
        removeForgetsUnits();
        moveChangesTheOrder();
        nodeTells();
        childTells();
        Check.end();
    }

    private static void newObject() {
        FindingAid aid = new FindingAid();
        int[] root = {0, -1, 0, -1, -1, -1, 0, 0, 0, -1, -1, 0};
        for (int what = 0; what < root.length; what++) {
            Check.same("root " + what, aid.node(0, what), root[what]);
        }
        int[] accounts = {1, 0, 0, 0, 0, 0, 0, 0, 0, 0};
        for (int what = 0; what < accounts.length; what++) {
            Check.same("account " + what, aid.account(what), accounts[what]);
        }
        Check.same("seats", aid.setSeats(6), 3);
        Check.same("undo of the seats", aid.undo(), 0);
        Check.fails("undo", Check.STATE, aid::undo);
        Check.fails("restore", Check.STATE, aid::restore);
        Check.fails("text", Check.INDEX, () -> aid.text(0));
        Check.fails("report", Check.NO_ELEMENT, () -> aid.report(0, 0));
        Check.same("the buffer", aid.feed('1'), 1);
    }

    /** "Creates a finding aid with the root alone", whatever others there are, which it leaves as they are. */
    private static void objectsStandApart() {
        Check.same("an object beside a new one", Look.all(NodesTest::besideAnother), Look.all(Make::rich));
        Look.Past late = () -> {
            Make.rich();
            return new FindingAid();
        };
        Check.same("a new object beside another", Look.all(late), Look.all(FindingAid::new));
    }

    private static FindingAid besideAnother() {
        FindingAid aid = Make.rich();
        FindingAid other = Make.shelved(3, 4);
        other.copy(1, 1);
        other.setRule(0, 1, 9);
        other.setPage(2, 1, 7);
        other.setSeats(1);
        other.request(0, 1, 99);
        Check.fails("request", Check.UNSUPPORTED, () -> other.request(1, 1, 99));
        other.save();
        other.write(0);
        other.undo();
        Make.feed(other, "3p");
        return aid;
    }

    private static void addTakesAllKindsAndDates() {
        FindingAid aid = new FindingAid();
        Check.same("series", aid.add(0, 1, 0, 0, 9999), 1);
        Check.same("item in a series", aid.add(1, 3, 20, 9999, 9999), 2);
        Check.same("file in a series", aid.add(1, 2, 0, -1, -77), 3);
        Check.same("item in the archive", aid.add(0, 3, 0, 0, 0), 4);
        Check.same("no last day without dates", aid.node(3, 4), -1);
        Check.same("first day", aid.node(2, 3), 9999);
        Check.same("pages", aid.node(2, 2), 20);
        Check.same("units", aid.account(1), 1);
        Check.same("undo", aid.undo(), 3);
    }

    private static void removeTakesAllBelow() {
        FindingAid aid = sample();
        Check.same("remove", aid.remove(1), 4);
        for (int node = 1; node <= 4; node++) {
            int gone = node;
            Check.fails("removed node " + node, Check.INDEX, () -> aid.node(gone, 0));
        }
        Check.same("the rest", aid.account(0), 3);
        Check.same("child", aid.child(0, 0), 5);
        Check.same("below the root", aid.node(0, 7), 2);
        Check.same("the next number", aid.add(0, 1, 0, -1, 0), 7);
        Check.fails("remove again", Check.INDEX, () -> aid.remove(1));
    }

    private static void removeForgetsUnits() {
        FindingAid aid = sample();
        aid.addContainer(200);
        aid.put(3, 0);
        aid.put(5, 0);
        aid.put(3, 0);
        aid.copy(5, 1);
        aid.copy(3, 1);
        aid.copy(5, 2);
        aid.request(0, 5, 900);
        aid.request(1, 3, 900);
        aid.request(2, 5, 901);
        Check.same("remove", aid.remove(2), 3);
        Check.same("units in the container", aid.container(0, 1), 1);
        Check.same("put so far", aid.container(0, 3), 3);
        Check.fails("mark 1", Check.NO_ELEMENT, () -> aid.resolve(0, 1));
        Check.same("mark 2", aid.resolve(0, 2), 5);
        Check.fails("mark 3", Check.NO_ELEMENT, () -> aid.resolve(0, 3));
        Check.same("marks", aid.account(9), 1);
        Check.same("copies", aid.account(5), 2);
        Check.fails("its copy", Check.INDEX, () -> aid.copyPart(1, 0));
        Check.same("a later copy", aid.copyPart(2, 1), 2);
        Check.same("requests", aid.account(6), 2);
        Check.same("a later request", aid.requestPart(1, 0), 2);
        Check.same("the next copy", aid.copy(5, 3), 3);
    }

    private static void moveChangesTheOrder() {
        FindingAid aid = sample();
        Check.same("move in place", aid.move(1, 0), 0);
        Check.same("child", aid.child(0, 0), 5);
        Check.same("child", aid.child(0, 2), 1);
        Check.same("move up", aid.move(3, 0), 2);
        Check.same("child", aid.child(0, 3), 3);
        Check.same("below", aid.node(1, 7), 2);
        Check.same("back", aid.move(3, 2), 0);
        Check.same("child", aid.child(2, 0), 4);
        Check.same("child", aid.child(2, 1), 3);
        Check.same("move with those below", aid.move(2, 6), 1);
        Check.same("latest day", aid.node(6, 5), 300);
        Check.same("latest day of the old parent", aid.node(1, 5), -1);
        Check.same("parent", aid.node(2, 1), 6);
        Check.same("grandchild", aid.node(4, 1), 2);
        Check.same("all", Make.written(aid, 0), "0(2p5@100-200,1(2(3p4@300-300,3p3@0-100)),1)");
        aid.move(6, 0);
        Check.same("all", Make.written(aid, 0), "0(2p5@100-200,1,1(2(3p4@300-300,3p3@0-100)))");
    }

    private static void nodeTells() {
        FindingAid aid = sample();
        aid.addContainer(50);
        aid.put(4, 0);
        aid.put(3, 0);
        aid.copy(3, 1);
        aid.copy(3, 1);
        int[] two = {2, 1, 0, -1, -1, 300, 2, 2, 7, -1, -1, 0};
        int[] three = {3, 2, 3, 0, 100, 100, 0, 0, 3, 0, 2, 2};
        int[] root = {0, -1, 0, -1, -1, 300, 3, 6, 12, -1, -1, 0};
        for (int what = 0; what < 12; what++) {
            Check.same("node 2, " + what, aid.node(2, what), two[what]);
            Check.same("node 3, " + what, aid.node(3, what), three[what]);
            Check.same("node 0, " + what, aid.node(0, what), root[what]);
        }
        aid.takeOut(4);
        aid.put(4, 0);
        Check.same("the last mark", aid.node(4, 10), 3);
        aid.takeOut(3);
        Check.same("no container", aid.node(3, 9), -1);
        Check.same("no mark", aid.node(3, 10), -1);
    }

    private static void childTells() {
        FindingAid aid = sample();
        int[] children = {1, 5, 6};
        for (int i = 0; i < 3; i++) {
            Check.same("child " + i, aid.child(0, i), children[i]);
        }
        Check.same("child of 2", aid.child(2, 1), 4);
    }

    /** 0(1(2(3p3@0-100,3p4@300-300)),2p5@100-200,1), numbered as it stands. */
    private static FindingAid sample() {
        FindingAid aid = new FindingAid();
        aid.add(0, 1, 0, -1, 0);
        aid.add(1, 2, 0, -1, 0);
        aid.add(2, 3, 3, 0, 100);
        aid.add(2, 3, 4, 300, 300);
        aid.add(0, 2, 5, 100, 200);
        aid.add(0, 1, 0, -1, 0);
        return aid;
    }
}
