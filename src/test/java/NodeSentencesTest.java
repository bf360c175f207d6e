/** The sentences of "Description" and "Details" on days, nodes and rules that name a boundary, each with a test. */
public final class NodeSentencesTest {
    public static void main(String[] args) {
        daysAreFrom0To9999();
        kindsGrowOnTheWayDown();
        movedKindsGrowOnTheWayDown();
        readKindsGrowOnTheWayDown();
        numbersCountAllNodes();
        thereCanBe40NodesByRead();
        childrenStandInTheOrderOfAdding();
        pagesAreFrom0To20();
        noPagesNoUnit();
        pagesAreNumberedFrom0();
        datesMayBeMissing();
        latestDayIsTheGreatestOfAllBelow();
        theFirstDayIsADayToo();
        lengthsOfRulesAreFrom1To5000();
        lengthOfMode2DoesNotMatter();
        mode0AddsOnlyWhatIsGreater();
        mode1Replaces();
        mode2Opens();
        equalLengthsOfMode0AndMode1();
        closedUpToTheLastDayIncluded();
        closedOnAllDaysWithoutALatestDay();
        theLastClosedDayCanBeGreaterThan9999();
        pagesAreClosedUpToTheLastDayIncluded();
        aPageIsOpenIfNeitherIsClosed();
        theLatestDayOfAPageCountsWhatIsBelow();
        whatIsNoUnitHasNoOpenPages();
        Check.end();
    }

    /** "Days are numbers from 0 to 9999." */
    private static void daysAreFrom0To9999() {
        FindingAid aid = Make.shelved(1, 2);
        Check.same("add", aid.add(0, 2, 1, 0, 0), 2);
        Check.same("add", aid.add(0, 2, 1, 9999, 9999), 3);
        Check.same("add", aid.add(0, 2, 1, 0, 9999), 4);
        Check.same("first day", aid.node(4, 3), 0);
        Check.same("last day", aid.node(4, 4), 9999);
        for (int day : new int[] {0, 9999}) {
            Check.same("openPages", aid.openPages(1, day), 3);
            Check.same("request", aid.request(0, 1, day), -1);
            Check.same("dayCount", aid.dayCount(day, 0), 1);
            Check.same("openShare", aid.openShare(day), 1.0);
        }
        for (int day : new int[] {-1, 10000}) {
            Check.fails("add from", Check.ARGUMENT, () -> aid.add(0, 2, 1, day == -1 ? -2 : day, 9999));
            Check.fails("add to", Check.ARGUMENT, () -> aid.add(0, 2, 1, 0, day));
            Check.fails("openPages", Check.ARGUMENT, () -> aid.openPages(1, day));
            Check.fails("request", Check.ARGUMENT, () -> aid.request(0, 1, day));
            Check.fails("dayCount", Check.ARGUMENT, () -> aid.dayCount(day, 0));
            Check.fails("openShare", Check.ARGUMENT, () -> aid.openShare(day));
        }
        Check.same("read", Make.read(aid, 0, "2@0-9999"), 1);
    }

    /** Node k is of the kind k, and below the node before it; node 4 is a second item. */
    private static FindingAid kinds() {
        FindingAid aid = new FindingAid();
        aid.add(0, 1, 0, -1, 0);
        aid.add(1, 2, 0, -1, 0);
        aid.add(2, 3, 0, -1, 0);
        aid.add(0, 3, 0, -1, 0);
        return aid;
    }

    /** "Node 0 is its root, the archive, of the kind 0; other nodes are of the kinds 1, 2 and 3", which grow. */
    private static void kindsGrowOnTheWayDown() {
        Check.same("the kind of the root", new FindingAid().node(0, 0), 0);
        Check.same("the parent of the root", new FindingAid().node(0, 1), -1);
        for (int above = 0; above <= 3; above++) {
            for (int kind = -1; kind <= 4; kind++) {
                FindingAid aid = kinds();
                int parent = above;
                int its = kind;
                if (kind > above && kind <= 3) {
                    Check.same("kind " + kind + " below " + above, aid.add(above, kind, 0, -1, 0), 5);
                    Check.same("its kind", aid.node(5, 0), kind);
                } else {
                    Check.fails("kind " + kind + " below " + above, Check.ARGUMENT,
                        () -> aid.add(parent, its, 0, -1, 0));
                }
            }
        }
    }

    private static void movedKindsGrowOnTheWayDown() {
        for (int above = 0; above <= 3; above++) {
            for (int kind = 1; kind <= 3; kind++) {
                FindingAid aid = kinds();
                int parent = above;
                int moved = aid.add(0, kind, 0, -1, 0);
                if (kind > above) {
                    Check.same("move of " + kind + " below " + above, aid.move(moved, above), 0);
                    Check.same("its parent", aid.node(moved, 1), above);
                } else {
                    Check.fails("move of " + kind + " below " + above, Check.ARGUMENT, () -> aid.move(moved, parent));
                    Check.same("its parent", aid.node(moved, 1), 0);
                }
            }
        }
    }

    private static void readKindsGrowOnTheWayDown() {
        for (int above = 0; above <= 3; above++) {
            for (int kind = 0; kind <= 3; kind++) {
                FindingAid aid = kinds();
                int parent = above;
                String text = Integer.toString(kind);
                String pair = above + "(" + kind + ")";
                if (kind > above) {
                    Check.same("read of " + kind + " below " + above, Make.read(aid, above, text), 1);
                } else {
                    Check.fails("read of " + kind + " below " + above, Check.UNSUPPORTED,
                        () -> Make.read(aid, parent, text));
                }
                if (above > 0 && kind > above) {
                    Check.same("read of " + pair, Make.read(aid, 0, pair), 2);
                } else {
                    Check.fails("read of " + pair, Check.UNSUPPORTED, () -> Make.read(aid, 0, pair));
                }
            }
        }
    }

    /** "A new node gets the number of nodes that there have been so far; there can be 40 in all." */
    private static void numbersCountAllNodes() {
        FindingAid aid = new FindingAid();
        for (int node = 1; node < 39; node++) {
            Check.same("add", aid.add(0, 1, 0, -1, 0), node);
            Check.same("remove", node % 2 == 0 ? aid.remove(node) : 1, 1);
        }
        Check.same("the 40th", aid.add(0, 1, 0, -1, 0), 39);
        Check.same("nodes that are left", aid.account(0), 21);
        Check.fails("the 41st", Check.STATE, () -> aid.add(0, 1, 0, -1, 0));
        Check.same("remove", aid.remove(39), 1);
        Check.fails("the 41st", Check.STATE, () -> aid.add(0, 1, 0, -1, 0));
        Check.same("undo of remove", aid.undo(), 7);
        Check.fails("the 41st", Check.STATE, () -> aid.add(0, 1, 0, -1, 0));
        Check.same("undo of add", aid.undo(), 6);
        Check.same("the 40th", aid.add(0, 1, 0, -1, 0), 39);
    }

    private static void thereCanBe40NodesByRead() {
        FindingAid aid = new FindingAid();
        Check.same("36 nodes", Make.read(aid, 0, "1(2" + ",3".repeat(34) + ")"), 36);
        Check.same("the last child", aid.child(1, 34), 36);
        Check.fails("four more", Check.UNSUPPORTED, () -> Make.read(aid, 0, "1(2(3,3))"));
        Check.same("none of them was added", aid.account(0), 37);
        Check.same("three more", Make.read(aid, 0, "1(2(3))"), 3);
        Check.same("the last number", aid.node(39, 1), 38);
        Check.fails("one more", Check.UNSUPPORTED, () -> Make.read(aid, 0, "1"));
        Check.fails("one more", Check.STATE, () -> aid.add(0, 1, 0, -1, 0));
    }

    /** "The children of a node are in the order in which they were added." */
    private static void childrenStandInTheOrderOfAdding() {
        FindingAid aid = new FindingAid();
        Check.same("no child", aid.node(0, 6), 0);
        Check.fails("no child", Check.INDEX, () -> aid.child(0, 0));
        aid.add(0, 2, 0, -1, 0);
        aid.add(0, 1, 0, -1, 0);
        aid.add(1, 3, 0, -1, 0);
        aid.add(0, 3, 0, -1, 0);
        aid.add(1, 3, 0, -1, 0);
        aid.move(2, 0);
        int[] children = {1, 4, 2};
        for (int i = 0; i < 3; i++) {
            Check.same("child " + i, aid.child(0, i), children[i]);
        }
        Check.fails("child 3", Check.INDEX, () -> aid.child(0, 3));
        Check.fails("child -1", Check.INDEX, () -> aid.child(0, -1));
        Check.same("child of 1", aid.child(1, 0), 3);
        Check.same("child of 1", aid.child(1, 1), 5);
        Check.fails("child of 1", Check.INDEX, () -> aid.child(1, 2));
    }

    /** "A node of the kind 2 or 3 has a number of pages from 0 to 20; the others have none." */
    private static void pagesAreFrom0To20() {
        for (int kind = 2; kind <= 3; kind++) {
            int its = kind;
            FindingAid aid = new FindingAid();
            Check.same("0 pages", aid.add(0, kind, 0, -1, 0), 1);
            Check.same("20 pages", aid.add(0, kind, 20, -1, 0), 2);
            Check.same("pages", aid.node(1, 2) + 100 * aid.node(2, 2), 2000);
            Check.fails("-1 pages", Check.ARGUMENT, () -> aid.add(0, its, -1, -1, 0));
            Check.fails("21 pages", Check.ARGUMENT, () -> aid.add(0, its, 21, -1, 0));
            Check.same("read of 20 pages", Make.read(aid, 0, kind + "p20"), 1);
            Check.fails("read of 21 pages", Check.UNSUPPORTED, () -> Make.read(aid, 0, its + "p21"));
        }
        FindingAid aid = new FindingAid();
        Check.same("a series", aid.add(0, 1, 0, -1, 0), 1);
        Check.fails("a series with a page", Check.ARGUMENT, () -> aid.add(0, 1, 1, -1, 0));
        Check.fails("a series with -1 pages", Check.ARGUMENT, () -> aid.add(0, 1, -1, -1, 0));
        Check.fails("read of a series with a page", Check.UNSUPPORTED, () -> Make.read(aid, 0, "1p1"));
        Check.same("the root", aid.node(0, 2), 0);
    }

    /** "A node of the kind 2 or 3 with 0 pages is no unit." */
    private static void noPagesNoUnit() {
        for (int kind = 2; kind <= 3; kind++) {
            FindingAid aid = new FindingAid();
            aid.add(0, kind, 0, 5, 5);
            aid.addContainer(1);
            Check.fails("put", Check.ARGUMENT, () -> aid.put(1, 0));
            Check.fails("copy", Check.ARGUMENT, () -> aid.copy(1, 0));
            Check.fails("request", Check.ARGUMENT, () -> aid.request(0, 1, 50));
            Check.fails("setPage", Check.INDEX, () -> aid.setPage(1, 0, 1));
            Check.same("units", aid.account(1), 0);
            Check.same("units with all pages open", aid.dayCount(50, 2), 0);
            aid.add(0, kind, 1, 5, 5);
            Check.same("put of a unit", aid.put(2, 0), 1);
            Check.same("copy of a unit", aid.copy(2, 0), 0);
            Check.same("request of a unit", aid.request(0, 2, 50), -1);
            Check.same("units", aid.account(1), 1);
            Check.same("units with all pages open", aid.dayCount(50, 2), 1);
        }
    }

    /** "A node with pages is a unit; its pages are numbered from 0." */
    private static void pagesAreNumberedFrom0() {
        for (int pages : new int[] {1, 2, 20}) {
            FindingAid aid = new FindingAid();
            aid.add(0, 3, pages, -1, 0);
            Check.same("all pages", aid.openPages(1, 0), (1 << pages) - 1);
            Check.same("the first page", aid.setPage(1, 0, 1), 0);
            Check.same("without it", aid.openPages(1, 0), (1 << pages) - 2);
            Check.same("the last page", aid.setPage(1, pages - 1, 1), pages == 1 ? 1 : 0);
            Check.same("without both", aid.openPages(1, 0), pages < 3 ? 0 : (1 << 19) - 2);
            Check.fails("the page behind", Check.INDEX, () -> aid.setPage(1, pages, 1));
            Check.fails("the page before", Check.INDEX, () -> aid.setPage(1, -1, 1));
        }
    }

    /** "A first day other than -1 that is out of range is refused", and without dates the last one does not matter. */
    private static void datesMayBeMissing() {
        FindingAid aid = new FindingAid();
        int node = 0;
        for (int to : new int[] {-1, 0, -2, 10000, Integer.MIN_VALUE, Integer.MAX_VALUE}) {
            node++;
            Check.same("add without dates", aid.add(0, 2, 1, -1, to), node);
            Check.same("first day", aid.node(node, 3), -1);
            Check.same("last day", aid.node(node, 4), -1);
            Check.same("latest day", aid.node(node, 5), -1);
        }
        for (int from : new int[] {-2, 10000, Integer.MIN_VALUE, Integer.MAX_VALUE}) {
            Check.fails("first day " + from, Check.ARGUMENT, () -> aid.add(0, 2, 1, from, 9999));
            Check.fails("both days " + from, Check.ARGUMENT, () -> aid.add(0, 2, 1, from, from));
        }
        Check.same("the same day twice", aid.add(0, 2, 1, 5, 5), 7);
        Check.fails("a day before", Check.ARGUMENT, () -> aid.add(0, 2, 1, 5, 4));
        Check.same("a day after", aid.add(0, 2, 1, 5, 6), 8);
        Check.same("read", Make.read(aid, 0, "2@7-7"), 1);
        Check.fails("read", Check.UNSUPPORTED, () -> Make.read(aid, 0, "2@7-6"));
        Check.same("read", Make.read(aid, 0, "2@7-8"), 1);
    }

    /** "The latest day of a node is the greatest last day of the node itself and of all nodes below it .., or none". */
    private static void latestDayIsTheGreatestOfAllBelow() {
        FindingAid aid = new FindingAid();
        aid.add(0, 1, 0, -1, 0);
        aid.add(1, 2, 1, -1, 0);
        Check.same("none", aid.node(0, 5), -1);
        aid.add(2, 3, 1, 10, 20);
        latest(aid, 20, 20, 20, 20);
        aid.add(2, 3, 1, 20, 21);
        latest(aid, 21, 21, 21, 20);
        aid.add(2, 3, 1, 0, 20);
        latest(aid, 21, 21, 21, 20);
        aid.add(0, 1, 0, 30, 30);
        latest(aid, 30, 21, 21, 20);
        aid.remove(4);
        latest(aid, 30, 20, 20, 20);
        aid.move(3, 0);
        latest(aid, 30, 20, 20, 20);
        aid.remove(5);
        latest(aid, 30, -1, -1, 20);
        aid.remove(6);
        latest(aid, 20, -1, -1, 20);
        FindingAid own = new FindingAid();
        own.add(0, 1, 0, 0, 50);
        own.add(1, 2, 1, 0, 49);
        own.add(2, 3, 1, 47, 48);
        latest(own, 50, 50, 49, 48);
    }

    private static void latest(FindingAid aid, int... due) {
        for (int node = 0; node < due.length; node++) {
            Check.same("latest day of " + node, aid.node(node, 5), due[node]);
        }
    }

    /** The day 0 as the latest one is not the same as none. */
    private static void theFirstDayIsADayToo() {
        FindingAid aid = new FindingAid();
        aid.add(0, 2, 2, 0, 0);
        aid.setRule(1, 0, 1);
        Check.same("latest day", aid.node(1, 5), 0);
        Check.same("last closed day", aid.restriction(1, 2), 1);
        Check.same("closed", aid.openPages(1, 1), 0);
        Check.same("open", aid.openPages(1, 2), 3);
        aid.setRule(1, -1, 0);
        aid.setPage(1, 1, 1);
        Check.same("a page closed", aid.openPages(1, 1), 1);
        Check.same("open", aid.openPages(1, 2), 3);
    }

    /** "A node can have a rule with a mode and a length from 1 to 5000" */
    private static void lengthsOfRulesAreFrom1To5000() {
        FindingAid aid = Make.chain();
        for (int mode = 0; mode <= 1; mode++) {
            int its = mode;
            Check.same("length 1", aid.setRule(1, mode, 1), mode - 1);
            Check.same("term", aid.restriction(1, 0), 1);
            Check.same("length 5000", aid.setRule(1, mode, 5000), mode);
            Check.same("term", aid.restriction(1, 0), 5000);
            Check.fails("length 0", Check.ARGUMENT, () -> aid.setRule(1, its, 0));
            Check.fails("length 5001", Check.ARGUMENT, () -> aid.setRule(1, its, 5001));
            Check.same("term", aid.restriction(1, 0), 5000);
        }
        Check.fails("mode -2", Check.ARGUMENT, () -> aid.setRule(1, -2, 1));
        Check.fails("mode 3", Check.ARGUMENT, () -> aid.setRule(1, 3, 1));
    }

    /** "mode 2 opens, for which the length does not matter", nor does it for removing a rule. */
    private static void lengthOfMode2DoesNotMatter() {
        FindingAid aid = Make.chain();
        aid.setRule(0, 0, 100);
        for (int length : new int[] {0, -1, 5001, Integer.MIN_VALUE, Integer.MAX_VALUE}) {
            Check.same("opens", aid.setRule(1, 2, length), -1);
            Check.same("term", aid.restriction(1, 0), 0);
            Check.same("removed", aid.setRule(1, -1, length), 2);
            Check.same("term", aid.restriction(1, 0), 100);
        }
    }

    /** "with the term 0 at first: a rule of the mode 0 makes the term its length if that is greater", only then. */
    private static void mode0AddsOnlyWhatIsGreater() {
        FindingAid aid = Make.chain();
        decided(aid, 3, 0, -1);
        aid.setRule(0, 0, 1);
        decided(aid, 3, 1, 0);
        aid.setRule(1, 0, 1);
        decided(aid, 3, 1, 0);
        aid.setRule(1, 0, 2);
        decided(aid, 3, 2, 1);
        aid.setRule(2, 0, 1);
        decided(aid, 3, 2, 1);
        aid.setRule(3, 0, 2);
        decided(aid, 3, 2, 1);
        aid.setRule(3, 0, 3);
        decided(aid, 3, 3, 3);
        decided(aid, 2, 2, 1);
        decided(aid, 0, 1, 0);
    }

    /** "a rule of the mode 1 makes it its length" */
    private static void mode1Replaces() {
        FindingAid aid = Make.chain();
        aid.setRule(0, 1, 50);
        decided(aid, 3, 50, 0);
        aid.setRule(1, 1, 49);
        decided(aid, 3, 49, 1);
        aid.setRule(1, 1, 51);
        decided(aid, 3, 51, 1);
        aid.setRule(2, 0, 51);
        decided(aid, 3, 51, 1);
        aid.setRule(2, 0, 52);
        decided(aid, 3, 52, 2);
        aid.setRule(3, 1, 1);
        decided(aid, 3, 1, 3);
    }

    /** "and a rule of the mode 2 makes it 0. The deciding node is .. without one if the term is 0." */
    private static void mode2Opens() {
        FindingAid aid = Make.chain();
        aid.setRule(0, 2, 0);
        decided(aid, 3, 0, -1);
        aid.setRule(0, 1, 50);
        aid.setRule(1, 2, 0);
        decided(aid, 0, 50, 0);
        decided(aid, 1, 0, -1);
        decided(aid, 3, 0, -1);
        Check.same("no last closed day", aid.restriction(1, 2), -1);
        aid.setRule(2, 0, 1);
        decided(aid, 3, 1, 2);
        aid.setRule(3, 2, 1);
        decided(aid, 3, 0, -1);
        aid.setRule(3, 0, 1);
        decided(aid, 3, 1, 2);
    }

    /** "A rule of the mode 0 whose length is not greater .. even if its length is the term already." */
    private static void equalLengthsOfMode0AndMode1() {
        int[][] rules = {{0, 0}, {0, 1}, {1, 0}, {1, 1}};
        for (int[] pair : rules) {
            FindingAid aid = Make.chain();
            aid.setRule(1, pair[0], 77);
            aid.setRule(2, pair[1], 77);
            decided(aid, 1, 77, 1);
            decided(aid, 2, 77, pair[1] == 1 ? 2 : 1);
            decided(aid, 3, 77, pair[1] == 1 ? 2 : 1);
            aid.setRule(2, pair[1], 76);
            decided(aid, 3, pair[1] == 1 ? 76 : 77, pair[1] == 1 ? 2 : 1);
            aid.setRule(2, pair[1], 78);
            decided(aid, 3, 78, 2);
        }
    }

    private static void decided(FindingAid aid, int node, int term, int deciding) {
        Check.same("term of " + node, aid.restriction(node, 0), term);
        Check.same("deciding node of " + node, aid.restriction(node, 1), deciding);
    }

    /** "A node with a term greater than 0 is closed up to its latest day plus the term, that day included". */
    private static void closedUpToTheLastDayIncluded() {
        for (int[] one : new int[][] {{0, 1}, {0, 5000}, {4998, 5000}, {9996, 2}}) {
            FindingAid aid = new FindingAid();
            aid.add(0, 2, 1, 0, one[0]);
            aid.addContainer(1);
            aid.put(1, 0);
            aid.copy(1, 0);
            aid.setRule(0, 0, one[1]);
            int last = one[0] + one[1];
            Check.same("the last closed day", aid.restriction(1, 2), last);
            for (int day : new int[] {0, last}) {
                Check.same("closed", aid.openPages(1, day), 0);
                Check.fails("request", Check.UNSUPPORTED, () -> aid.request(0, 1, day));
                Check.same("its cause", aid.report(1, 0), 4);
                Check.same("open units", aid.dayCount(day, 2), 0);
                Check.same("open pages", aid.dayCount(day, 3), 0);
                Check.same("share", aid.openShare(day), 0.0);
            }
            Check.same("open", aid.openPages(1, last + 1), 1);
            Check.same("open units", aid.dayCount(last + 1, 2), 1);
            Check.same("open pages", aid.dayCount(last + 1, 3), 1);
            Check.same("share", aid.openShare(last + 1), 1.0);
            Check.same("first day", aid.firstDay(0), last + 1);
            Check.same("request", aid.request(0, 1, last + 1), -1);
            Check.same("it may stay", aid.review(), 0);
            aid.setRule(0, 1, Math.min(5000, one[1] + 1));
            Check.same("a day longer", aid.review(), one[1] == 5000 ? 0 : 1);
        }
    }

    /** ".., or on all days if it has no latest day." */
    private static void closedOnAllDaysWithoutALatestDay() {
        FindingAid aid = new FindingAid();
        aid.add(0, 2, 1, -1, 0);
        aid.copy(1, 0);
        aid.setRule(0, 0, 1);
        Check.same("the unit", aid.restriction(1, 2), 99999);
        Check.same("the root", aid.restriction(0, 2), 99999);
        for (int day : new int[] {0, 1, 2, 9999}) {
            Check.same("closed", aid.openPages(1, day), 0);
        }
        Check.fails("first day", Check.NO_ELEMENT, () -> aid.firstDay(0));
        aid.setRule(0, 2, 0);
        Check.same("open", aid.openPages(1, 0), 1);
        Check.same("first day", aid.firstDay(0), 0);
        Check.same("no closed day", aid.restriction(1, 2), -1);
    }

    /** "The last day on which something is closed can be greater than 9999." */
    private static void theLastClosedDayCanBeGreaterThan9999() {
        FindingAid aid = new FindingAid();
        aid.add(0, 2, 1, 9999, 9999);
        aid.copy(1, 0);
        aid.setRule(1, 0, 5000);
        Check.same("the greatest", aid.restriction(1, 2), 14999);
        aid.setRule(1, 0, 1);
        Check.same("the least", aid.restriction(1, 2), 10000);
        Check.same("closed", aid.openPages(1, 9999), 0);
        aid.setRule(1, -1, 0);
        aid.setPage(1, 0, 5000);
        Check.same("closed page", aid.openPages(1, 9999), 0);
        Check.fails("first day", Check.NO_ELEMENT, () -> aid.firstDay(0));
        aid.add(0, 2, 1, 0, 9998);
        aid.setRule(2, 0, 1);
        Check.same("the last day", aid.restriction(2, 2), 9999);
        Check.same("closed", aid.openPages(2, 9999), 0);
        aid.add(0, 2, 1, 0, 9997);
        aid.setRule(3, 0, 1);
        Check.same("the day before", aid.restriction(3, 2), 9998);
        Check.same("open", aid.openPages(3, 9999), 1);
    }

    /** "A page of a unit can have a length of its own from 1 to 5000; it is closed up to .. that day included, or ..". */
    private static void pagesAreClosedUpToTheLastDayIncluded() {
        FindingAid aid = new FindingAid();
        aid.add(0, 2, 2, 50, 100);
        aid.add(0, 2, 2, -1, 0);
        aid.copy(1, 2);
        for (int length : new int[] {1, 5000}) {
            aid.setPage(1, 0, length);
            Check.same("closed on the first day", aid.openPages(1, 0), 2);
            Check.same("closed on the last day", aid.openPages(1, 100 + length), 2);
            Check.same("open on the next", aid.openPages(1, 101 + length), 3);
            Check.same("first day", aid.firstDay(0), 101 + length);
            Check.same("length of a page without a latest day", aid.setPage(2, 1, length), length == 1 ? 0 : 1);
            Check.same("closed on the first day", aid.openPages(2, 0), 1);
            Check.same("closed on all days", aid.openPages(2, 9999), 1);
        }
        Check.fails("length 5001", Check.ARGUMENT, () -> aid.setPage(1, 0, 5001));
        Check.fails("length -1", Check.ARGUMENT, () -> aid.setPage(1, 0, -1));
        Check.same("length 0 removes it", aid.setPage(1, 0, 0), 5000);
        Check.same("open", aid.openPages(1, 0), 3);
        Check.same("the node itself is not closed by it", aid.restriction(2, 2), -1);
    }

    /** "A page is open on a day if neither its unit nor the page itself is closed then." */
    private static void aPageIsOpenIfNeitherIsClosed() {
        FindingAid aid = new FindingAid();
        aid.add(0, 2, 3, 0, 100);
        aid.setRule(1, 0, 20);
        aid.setPage(1, 0, 10);
        aid.setPage(1, 2, 30);
        int[][] due = {{110, 0}, {111, 0}, {120, 0}, {121, 3}, {130, 3}, {131, 7}};
        for (int[] day : due) {
            Check.same("on day " + day[0], aid.openPages(1, day[0]), day[1]);
        }
    }

    /** "The latest day of a unit, also for its single pages, is that of the unit and all nodes below it." */
    private static void theLatestDayOfAPageCountsWhatIsBelow() {
        FindingAid aid = new FindingAid();
        aid.add(0, 2, 1, 0, 100);
        aid.setPage(1, 0, 5);
        aid.copy(1, 0);
        Check.same("the unit alone", aid.firstDay(0), 106);
        aid.add(1, 3, 1, 0, 200);
        Check.same("with an item", aid.firstDay(0), 206);
        Check.same("closed", aid.openPages(1, 205), 0);
        Check.same("open", aid.openPages(1, 206), 1);
        aid.setRule(1, 0, 6);
        Check.same("the unit itself", aid.restriction(1, 2), 206);
        aid.move(2, 0);
        Check.same("the item moved away", aid.firstDay(0), 107);
    }

    /** "A node that is no unit has no open pages." */
    private static void whatIsNoUnitHasNoOpenPages() {
        FindingAid aid = Make.chain();
        aid.add(0, 2, 0, -1, 0);
        for (int node : new int[] {0, 1, 4}) {
            Check.same("no unit", aid.openPages(node, 0), 0);
            Check.same("no unit", aid.openPages(node, 9999), 0);
        }
        Check.same("a unit", aid.openPages(2, 0), 31);
    }
}
