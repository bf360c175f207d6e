/** Objects with a past of at most 120 calls, for tests that ask what holds from there on. */
final class Make {
    private Make() {
    }

    static int feed(FindingAid aid, String text) {
        int count = 0;
        for (int i = 0; i < text.length(); i++) {
            count = aid.feed(text.charAt(i));
        }
        return count;
    }

    static int read(FindingAid aid, int parent, String text) {
        feed(aid, text);
        return aid.read(parent);
    }

    static String written(FindingAid aid, int node) {
        int length = aid.write(node);
        String text = text(aid);
        Check.same("the length of " + text, length, text.length());
        return text;
    }

    /** The text that was written last. */
    static String text(FindingAid aid) {
        StringBuilder out = new StringBuilder();
        for (int i = 0; i < 300; i++) {
            try {
                out.append(aid.text(i));
            } catch (IndexOutOfBoundsException end) {
                break;
            }
        }
        return out.toString();
    }

    /** Files 1 to count below the root, with the last day 10. */
    static FindingAid units(int count, int pages) {
        FindingAid aid = new FindingAid();
        for (int i = 0; i < count; i++) {
            aid.add(0, 2, pages, 0, 10);
        }
        return aid;
    }

    /** Units with the last day 10, all of them in container 0. */
    static FindingAid shelved(int count, int pages) {
        FindingAid aid = units(count, pages);
        aid.addContainer(200);
        for (int unit = 1; unit <= count; unit++) {
            aid.put(unit, 0);
        }
        return aid;
    }

    /** 0(1(2p5@100-500(3p4@800-900))), numbered as it stands. */
    static FindingAid chain() {
        FindingAid aid = new FindingAid();
        aid.add(0, 1, 0, -1, 0);
        aid.add(1, 2, 5, 100, 500);
        aid.add(2, 3, 4, 800, 900);
        return aid;
    }

    /**
     * Has something of everything: the tree 0(1(2p5@100-200(3p3@150-300)),2,3p2), numbered as it stands, the file 6
     * removed with its copy 1, the container 2 merged, units 2 and 3 in container 0 of 10 and unit 5 in container 1
     * of 5, the copies 0 of unit 2 and 2 of unit 3, four requests, four seats, eight changes to take back, a state
     * that was saved, a report, a text, and a buffer.
     */
    static FindingAid rich() {
        FindingAid aid = withCopies();
        aid.request(0, 2, 400);
        aid.save();
        aid.setSeats(4);
        aid.put(3, 0);
        aid.remove(6);
        aid.merge(2, 0);
        aid.setRule(1, 0, 50);
        aid.setPage(2, 1, 120);
        aid.request(1, 2, 430);
        aid.request(2, 2, 430);
        aid.request(3, 3, 430);
        Check.fails("the request that leaves the report", Check.UNSUPPORTED, () -> aid.request(4, 2, 400));
        aid.write(1);
        feed(aid, "2p3");
        return aid;
    }

    private static FindingAid withCopies() {
        FindingAid aid = new FindingAid();
        aid.add(0, 1, 0, -1, 0);
        aid.add(1, 2, 5, 100, 200);
        aid.add(2, 3, 3, 150, 300);
        aid.add(0, 2, 0, -1, 0);
        aid.add(0, 3, 2, -1, 0);
        aid.add(0, 2, 4, 0, 10);
        aid.addContainer(10);
        aid.addContainer(5);
        aid.addContainer(5);
        aid.put(2, 0);
        aid.put(6, 2);
        aid.put(5, 1);
        aid.copy(2, 1);
        aid.copy(6, 3);
        aid.copy(3, 4);
        return aid;
    }

    /** All 40 nodes have been: the file 1 with three pages, 2 to 38, and 39, which is removed. */
    static FindingAid allNodes() {
        FindingAid aid = units(39, 3);
        aid.remove(39);
        return aid;
    }

    /** Ten containers at a time, of 13 that have been: 0, which is full, with the units 1 to 3, and 4 to 12. */
    static FindingAid tenContainers() {
        FindingAid aid = units(4, 5);
        aid.addContainer(15);
        for (int container = 1; container <= 3; container++) {
            aid.addContainer(200);
            aid.put(container, 0);
        }
        for (int container = 1; container <= 3; container++) {
            aid.merge(container, 0);
        }
        for (int container = 4; container <= 12; container++) {
            aid.addContainer(200);
        }
        return aid;
    }

    /** All 30 containers have been, and only 0, with the units 1 and 2, and 29 are left. */
    static FindingAid allContainers() {
        FindingAid aid = units(3, 5);
        aid.addContainer(15);
        aid.put(1, 0);
        aid.put(2, 0);
        for (int container = 1; container < 29; container++) {
            aid.addContainer(20);
            aid.merge(container, 0);
        }
        aid.addContainer(20);
        return aid;
    }

    /** All 16 copies have been: 0 of unit 1, and the others of unit 2, which is removed. */
    static FindingAid allCopies() {
        FindingAid aid = units(3, 5);
        aid.copy(1, 1);
        for (int copy = 1; copy < 16; copy++) {
            aid.copy(2, copy);
        }
        aid.remove(2);
        return aid;
    }

    /** 30 requests: reader i % 8 for unit 1 on day 100 + i. Node 4 is no unit. */
    static FindingAid allRequests() {
        FindingAid aid = shelved(3, 5);
        aid.add(0, 2, 0, -1, 0);
        for (int i = 0; i < 30; i++) {
            aid.request(i % 8, 1, 100 + i);
        }
        return aid;
    }

    static FindingAid fullBuffer() {
        FindingAid aid = new FindingAid();
        feed(aid, "0(".repeat(50));
        return aid;
    }
}
