/** Promises 30 to 37: report, feed, read, write, text, undo, save, restore. */
public final class TextsTest {
    public static void main(String[] args) {
        reportTells();
        feedCounts();
        readReportsErrors();
        readAddsNodes();
        readRefuses();
        readNeedsItsParent();
        writeAndTextTell();
        longTexts();
        undoTakesBack();
        undoKnowsEightChanges();
        queriesAndFailuresAreNoChanges();
        saveAndRestore();
        savedRowsAreItsOwn();
        Check.end();
    }

    private static void reportTells() {
        FindingAid aid = new FindingAid();
        Check.fails("no report", Check.NO_ELEMENT, () -> aid.report(0, 9));
        aid.add(0, 2, 3, 0, 10);
        Check.fails("request", Check.UNSUPPORTED, () -> aid.request(3, 1, 20));
        int[] due = {1, 1, 6, 1, 8, 0};
        for (int i = 0; i < due.length; i++) {
            Check.same("report " + i, aid.report(i / 2, i % 2), due[i]);
        }
        Check.fails("what", Check.ARGUMENT, () -> aid.report(0, 2));
        Check.fails("what", Check.ARGUMENT, () -> aid.report(2, -1));
        Check.fails("level", Check.NO_ELEMENT, () -> aid.report(3, 0));
        Check.fails("level", Check.NO_ELEMENT, () -> aid.report(-1, 2));
        aid.copy(1, 0);
        aid.request(3, 1, 20);
        Check.same("it stays after a granted request", aid.report(1, 0), 6);
        aid.request(3, 1, 21);
        aid.request(3, 1, 22);
        aid.setSeats(1);
        aid.save();
        Check.fails("request", Check.UNSUPPORTED, () -> aid.request(4, 1, 20));
        Check.same("the new one", aid.report(1, 0), 3);
        Check.fails("its levels", Check.NO_ELEMENT, () -> aid.report(2, 0));
        aid.undo();
        Check.same("it stays after undo", aid.report(1, 0), 3);
        aid.restore();
        Check.same("it stays after restore", aid.report(1, 0), 3);
    }

    private static void feedCounts() {
        FindingAid aid = new FindingAid();
        for (int i = 1; i <= 100; i++) {
            Check.same("feed", aid.feed((char) (i * 655)), i);
        }
        Check.refuses("the 101st", Check.STATE, aid, () -> aid.feed('1'));
        Check.same("all of it is read", aid.read(0), -100);
        Check.same("it is empty then", aid.feed('2'), 1);
    }

    private static void readReportsErrors() {
        Object[][] errors = {
            {"", 0}, {"x", 0}, {"4", 0}, {"/", 0}, {"-1", 0}, {"2x", 1}, {"22", 1}, {"2p", 2}, {"2px", 2},
            {"2p12345", 6}, {"2p1234x", 6}, {"2p1p1", 3}, {"2@", 2}, {"2@5", 3}, {"2@5x", 3}, {"2@-5", 2},
            {"2@5-", 4}, {"2@5-x", 4}, {"2@12345-5", 6}, {"2@5-12345", 8}, {"2@5-5p1", 5}, {"2@5-5@5-5", 5},
            {"2(", 2}, {"2()", 2}, {"2(3", 3}, {"2(3,", 4}, {"2(3,)", 4}, {"2(3))", 4}, {"2(3),2", 4}, {"2,2", 1},
            {"2)", 1}, {"2(3)(3)", 4}, {"2(3)p1", 4}, {"2 ", 1}, {" 2", 0}, {"1(2(3)", 6}, {"1(2(3),", 7},
            {"1(2(3),4)", 7}, {"1(2(3)),", 7}, {"1(2(3x", 5}, {"2p1@5-6(3p1@5-6,3p1@5-6;3)", 23},
            {"2\u00b2", 1}, {"2p\u0661", 2}, {"\u0000", 0},
        };
        for (Object[] error : errors) {
            FindingAid aid = new FindingAid();
            String text = (String) error[0];
            Check.same("read of " + text, read(aid, 0, text), -100 - (Integer) error[1]);
            Check.same("nodes", aid.account(0), 1);
            Check.fails("no change", Check.STATE, aid::undo);
            Check.same("the buffer is empty", aid.feed('2'), 1);
        }
        FindingAid aid = new FindingAid();
        Check.same("deep", read(aid, 0, "0(".repeat(50)), -200);
        Check.same("too many ends", read(aid, 0, "0(".repeat(30) + "0" + ")".repeat(31)), -191);
        Check.same("broad", read(aid, 0, "1(" + "3,".repeat(49)), -200);
        Check.fails("deep and correct", Check.UNSUPPORTED, () -> read(aid, 0, "0(".repeat(33) + "0" + ")".repeat(33)));
    }

    private static void readAddsNodes() {
        FindingAid aid = new FindingAid();
        Check.same("read", read(aid, 0, "1p0@0-9999(2p20@0005-05(3,3p07),3@1-1)"), 5);
        int[][] due = {{1, 0, 0, 0, 9999}, {2, 1, 20, 5, 5}, {3, 2, 0, -1, -1}, {3, 2, 7, -1, -1}, {3, 1, 0, 1, 1}};
        for (int i = 0; i < due.length; i++) {
            for (int what = 0; what < 5; what++) {
                Check.same("node " + (i + 1) + ", " + what, aid.node(i + 1, what), due[i][what]);
            }
        }
        Check.same("at the end of another parent", read(aid, 1, "2p3"), 1);
        Check.same("the last child", aid.child(1, 2), 6);
        Check.same("one change for all", aid.undo(), 1);
        Check.same("undo", aid.undo(), 0);
        Check.same("nodes", aid.account(0), 1);
        Check.same("the numbers are free again", read(aid, 0, "3p0000"), 1);
        Check.same("kind", aid.node(1, 0), 3);
    }

    private static void readRefuses() {
        String[] texts = {"0", "0(1)", "1p1", "1(1)", "1(2(2))", "2(1)", "3(3)", "2p21", "2p9999", "2@5-4", "1(2,0)",
            "1(2,3p20,2(3p21))", "1@0-0(2@1-0)"};
        for (String text : texts) {
            FindingAid aid = new FindingAid();
            aid.add(0, 1, 0, -1, 0);
            Check.refuses("read of " + text, Check.UNSUPPORTED, aid, () -> read(aid, 0, text));
            Check.same("the buffer is empty", aid.feed('2'), 1);
            Check.same("no change", aid.undo(), 0);
        }
        FindingAid aid = new FindingAid();
        aid.add(0, 1, 0, -1, 0);
        aid.add(0, 2, 0, -1, 0);
        Check.refuses("a series in a series", Check.UNSUPPORTED, aid, () -> read(aid, 1, "1"));
        Check.refuses("a file in a file", Check.UNSUPPORTED, aid, () -> read(aid, 2, "2"));
        Check.refuses("too many", Check.UNSUPPORTED, aid, () -> read(aid, 0, "1(2" + ",2".repeat(36) + ")"));
        Check.same("just enough", read(aid, 0, "1(2" + ",2".repeat(35) + ")"), 37);
        aid.remove(3);
        Check.refuses("all have been", Check.UNSUPPORTED, aid, () -> read(aid, 0, "1"));
        Check.same("first the syntax", read(aid, 0, "1,"), -101);
    }

    private static void readNeedsItsParent() {
        FindingAid aid = new FindingAid();
        aid.feed('2');
        aid.feed('p');
        for (int parent : new int[] {1, -1, 40, Integer.MAX_VALUE, Integer.MIN_VALUE}) {
            Check.refuses("parent " + parent, Check.INDEX, aid, () -> aid.read(parent));
        }
        Check.same("the buffer stays", aid.feed('3'), 3);
        aid.setSeats(1);
        aid.save();
        aid.undo();
        aid.restore();
        Check.same("also after undo and restore", aid.read(0), 1);
        Check.same("pages", aid.node(1, 2), 3);
    }

    private static void writeAndTextTell() {
        FindingAid aid = new FindingAid();
        Check.same("the root", aid.write(0), 1);
        Check.same("the root", Dump.text(aid), "0");
        String text = "1@0-9999(2p20@5-5(3,3p7),3@1-1,2(3,3))";
        read(aid, 0, text);
        Check.same("length", aid.write(1), text.length());
        Check.same("text", Dump.text(aid), text);
        Check.same("with the root", aid.write(0), text.length() + 3);
        Check.same("text", Dump.text(aid), "0(" + text + ")");
        aid.setRule(0, 0, 5);
        aid.remove(2);
        Check.same("the text stays", Dump.text(aid), "0(" + text + ")");
        aid.undo();
        aid.save();
        aid.restore();
        Check.same("the text stays", Dump.text(aid), "0(" + text + ")");
        Check.refuses("no node", Check.INDEX, aid, () -> aid.write(9));
        Check.refuses("no node", Check.INDEX, aid, () -> aid.write(-1));
        Check.same("a lower node", aid.write(2), 15);
        Check.same("a lower node", Dump.text(aid), "2p20@5-5(3,3p7)");
        Check.same("first character", aid.text(0), '2');
        for (int i : new int[] {-1, 15, Integer.MAX_VALUE, Integer.MIN_VALUE}) {
            Check.fails("index " + i, Check.INDEX, () -> aid.text(i));
        }
    }

    private static void longTexts() {
        FindingAid aid = new FindingAid();
        StringBuilder due = new StringBuilder("0(");
        for (int node = 1; node < 40; node++) {
            aid.add(0, 2, 20, 1000, 9999);
            due.append(node == 1 ? "" : ",").append("2p20@1000-9999");
        }
        due.append(")");
        Check.same("length", aid.write(0), due.length());
        Check.same("text", Dump.text(aid), due.toString());
    }

    private static void undoTakesBack() {
        FindingAid aid = new FindingAid();
        read(aid, 0, "1(2p5@0-100,2p6@50-60(3p2),3p4)");
        aid.addContainer(50);
        aid.put(2, 0);
        aid.put(3, 0);
        aid.copy(3, 1);
        aid.request(0, 2, 9000);
        aid.setSeats(4);
        Check.Call[] changes = {
            () -> aid.add(0, 3, 1, -1, 0), () -> aid.remove(1), () -> aid.remove(3), () -> aid.move(2, 0),
            () -> aid.setRule(1, 0, 5000), () -> aid.setPage(2, 1, 5000), () -> aid.addContainer(7),
            () -> aid.put(5, 0), () -> aid.put(2, 0), () -> aid.takeOut(2), () -> aid.split(0, 1, 9),
            () -> aid.copy(2, 1), () -> aid.setSeats(5), () -> aid.request(1, 3, 9000), () -> aid.cancel(0),
            () -> aid.review(), () -> read(aid, 1, "2(3p1)"),
        };
        for (int i = 0; i < changes.length; i++) {
            // A change of its own before each, so that the state before it is not that of an earlier undo.
            aid.setRule(0, 0, 1 + i);
            String before = Dump.state(aid);
            if (Check.outcome(changes[i]).endsWith("Exception")) {
                Check.fail("change " + i + " is refused");
            }
            Check.same("undo of change " + i, aid.undo(), 7);
            Check.same("the state before change " + i, Dump.state(aid), before);
        }
        aid.addContainer(100);
        String before = Dump.state(aid);
        aid.merge(0, 1);
        aid.undo();
        Check.same("the state before merge", Dump.state(aid), before);
    }

    private static void undoKnowsEightChanges() {
        FindingAid aid = new FindingAid();
        Check.fails("nothing yet", Check.STATE, aid::undo);
        for (int i = 0; i < 10; i++) {
            aid.add(0, 1, 0, -1, 0);
        }
        for (int left = 7; left >= 0; left--) {
            Check.same("left", aid.undo(), left);
            Check.same("nodes", aid.account(0), 4 + left - 1);
        }
        Check.refuses("no further one", Check.STATE, aid, aid::undo);
        aid.add(0, 1, 0, -1, 0);
        Check.same("a new one", aid.undo(), 0);
        for (int i = 0; i < 5; i++) {
            aid.setSeats(3);
        }
        Check.same("a change without effect", aid.undo(), 4);
        aid.setSeats(4);
        Check.same("in place of the one taken back", aid.undo(), 4);
    }

    private static void queriesAndFailuresAreNoChanges() {
        FindingAid aid = new FindingAid();
        read(aid, 0, "2p3@0-10");
        Dump.of(aid);
        aid.write(0);
        aid.feed('x');
        aid.read(0);
        aid.save();
        Check.fails("request", Check.UNSUPPORTED, () -> aid.request(0, 1, 5));
        Check.fails("add", Check.ARGUMENT, () -> aid.add(0, 0, 0, 0, 0));
        Check.same("one change", aid.undo(), 0);
    }

    private static void saveAndRestore() {
        FindingAid aid = new FindingAid();
        Check.refuses("nothing saved", Check.STATE, aid, aid::restore);
        read(aid, 0, "1(2p5@0-100,2p6@50-60(3p2),3p4)");
        aid.addContainer(50);
        aid.put(2, 0);
        aid.copy(3, 1);
        aid.request(0, 2, 200);
        aid.setRule(1, 0, 3);
        aid.setPage(2, 2, 3);
        aid.setSeats(1);
        Check.same("save", aid.save(), 6);
        String saved = Dump.state(aid);
        aid.undo();
        Check.same("undo goes on after save", aid.undo(), 6);
        aid.put(3, 0);
        aid.remove(2);
        aid.addContainer(5);
        aid.copy(3, 0);
        Check.same("restore", aid.restore(), 6);
        Check.same("the state", Dump.state(aid), saved);
        Check.same("seats", aid.setSeats(2), 1);
        Check.same("only the last change", aid.undo(), 0);
        Check.fails("no further one", Check.STATE, aid::undo);
        aid.remove(1);
        Check.same("restore again", aid.restore(), 6);
        Check.same("the state", Dump.state(aid), saved);
        Check.fails("undo", Check.STATE, aid::undo);
        aid.remove(1);
        Check.same("save in its place", aid.save(), 1);
        aid.add(0, 1, 0, -1, 0);
        Check.same("restore", aid.restore(), 1);
        Check.same("numbers go on", aid.add(0, 1, 0, -1, 0), 6);
    }

    /** What is taken over by undo and restore is compared after other values stood in its place. */
    private static void savedRowsAreItsOwn() {
        FindingAid aid = new FindingAid();
        aid.addContainer(50);
        aid.save();
        String empty = Dump.state(aid);
        aid.add(0, 2, 5, 10, 20);
        aid.add(0, 3, 6, 30, 40);
        aid.setRule(1, 1, 77);
        aid.setPage(1, 1, 88);
        aid.put(1, 0);
        aid.copy(1, 3);
        aid.request(1, 1, 9000);
        String first = Dump.state(aid);
        aid.restore();
        Check.same("the empty state", Dump.state(aid), empty);
        read(aid, 0, "3p9@50-60,2(3)");
        read(aid, 0, "2p9@50-60(3p4)");
        aid.setRule(1, 0, 99);
        aid.setPage(1, 1, 11);
        aid.put(1, 0);
        aid.put(2, 0);
        aid.copy(1, 5);
        aid.request(2, 1, 9000);
        String second = Dump.state(aid);
        Check.same("save", aid.save(), 3);
        for (int left = 6; left >= 0; left--) {
            Check.same("left", aid.undo(), left);
        }
        Check.same("all of it is taken back", Dump.state(aid), empty);
        aid.add(0, 3, 6, 30, 40);
        aid.add(0, 1, 0, 50, 60);
        aid.setRule(1, 2, 0);
        aid.setPage(1, 2, 12);
        aid.put(1, 0);
        aid.put(1, 0);
        aid.copy(1, 6);
        aid.request(5, 1, 9100);
        aid.restore();
        Check.same("the second state", Dump.state(aid), second);
        Check.same("the first state was another one", first.equals(second) ? 1 : 0, 0);
    }

    private static int read(FindingAid aid, int parent, String text) {
        for (int i = 0; i < text.length(); i++) {
            aid.feed(text.charAt(i));
        }
        return aid.read(parent);
    }
}
