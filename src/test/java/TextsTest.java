/** Promises 30 to 34: report, feed, read, write, text; UndoSentencesTest asks for 35 to 37. */
public final class TextsTest {
    public static void main(String[] args) {
        reportTells();
        readAddsNodes();
        writeAndTextTell();
        longTexts();
        Check.end();
    }

    private static void reportTells() {
        FindingAid aid = new FindingAid();
        Check.fails("no report", Check.NO_ELEMENT, () -> aid.report(0, 9));
        aid.add(0, 2, 3, 0, 10);
        Check.fails("request", Check.UNSUPPORTED, () -> aid.request(3, 1, 20));
        int[] due = {1, 1, 6, 1, 8, 0};
        for (int i = 0; i < due.length; i++) {
            Check.same("report " + i, aid.report(i / 2, i % 2), due[i]);
        }
        Check.fails("level", Check.NO_ELEMENT, () -> aid.report(3, 0));
        aid.copy(1, 0);
        aid.request(3, 1, 20);
        Check.same("it stays after a granted request", aid.report(1, 0), 6);
        aid.request(3, 1, 21);
        aid.request(3, 1, 22);
        aid.setSeats(1);
        aid.save();
        Check.fails("request", Check.UNSUPPORTED, () -> aid.request(4, 1, 20));
        Check.same("the new one", aid.report(1, 0), 3);
        Check.fails("its levels", Check.NO_ELEMENT, () -> aid.report(2, 0));
        aid.undo();
        Check.same("it stays after undo", aid.report(1, 0), 3);
        aid.restore();
        Check.same("it stays after restore", aid.report(1, 0), 3);
    }

    private static void readAddsNodes() {
        FindingAid aid = new FindingAid();
        Check.same("read", Make.read(aid, 0, "1p0@0-9999(2p20@0005-05(3,3p07),3@1-1)"), 5);
        int[][] due = {{1, 0, 0, 0, 9999}, {2, 1, 20, 5, 5}, {3, 2, 0, -1, -1}, {3, 2, 7, -1, -1}, {3, 1, 0, 1, 1}};
        for (int i = 0; i < due.length; i++) {
            for (int what = 0; what < 5; what++) {
                Check.same("node " + (i + 1) + ", " + what, aid.node(i + 1, what), due[i][what]);
            }
        }
        Check.same("at the end of another parent", Make.read(aid, 1, "2p3"), 1);
        Check.same("the last child", aid.child(1, 2), 6);
        Check.same("one change for all", aid.undo(), 1);
        Check.same("undo", aid.undo(), 0);
        Check.same("nodes", aid.account(0), 1);
        Check.same("the numbers are free again", Make.read(aid, 0, "3p0000"), 1);
        Check.same("kind", aid.node(1, 0), 3);
    }

    private static void writeAndTextTell() {
        FindingAid aid = new FindingAid();
        Check.same("the root", aid.write(0), 1);
        Check.same("the root", Make.text(aid), "0");
        String text = "1@0-9999(2p20@5-5(3,3p7),3@1-1,2(3,3))";
        Make.read(aid, 0, text);
        Check.same("length", aid.write(1), text.length());
        Check.same("text", Make.text(aid), text);
        Check.same("with the root", aid.write(0), text.length() + 3);
        Check.same("text", Make.text(aid), "0(" + text + ")");
        aid.setRule(0, 0, 5);
        aid.remove(2);
        Check.same("the text stays", Make.text(aid), "0(" + text + ")");
        aid.undo();
        aid.save();
        aid.restore();
        Check.same("the text stays", Make.text(aid), "0(" + text + ")");
        Check.same("a lower node", aid.write(2), 15);
        Check.same("a lower node", Make.text(aid), "2p20@5-5(3,3p7)");
        Check.same("first character", aid.text(0), '2');
    }

    /** The longest text, of which one object can tell a part only within its 512 calls. */
    private static void longTexts() {
        String due = "0(" + "2p20@1000-9999,".repeat(38) + "2p20@1000-9999)";
        for (int part = 0; part < 2; part++) {
            FindingAid aid = new FindingAid();
            for (int node = 1; node < 40; node++) {
                aid.add(0, 2, 20, 1000, 9999);
            }
            Check.same("length", aid.write(0), due.length());
            for (int i = part; i < due.length(); i += 2) {
                Check.same("character " + i, aid.text(i), due.charAt(i));
            }
        }
    }
}
