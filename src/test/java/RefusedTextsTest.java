/**
 * Each "Throws" line of promises 30 to 37: the first values that are refused on both sides, the exception that is
 * named first where two apply, and that nothing has changed then but the buffer that read has emptied.
 */
public final class RefusedTextsTest {
    private static final int MIN = Integer.MIN_VALUE;
    private static final int MAX = Integer.MAX_VALUE;
    private static final Look.Past RICH = Make::rich;

    public static void main(String[] args) {
        report();
        feed();
        readOfNoParent();
        readOfWhatCannotBeAdded();
        readOfWrongSyntax();
        write();
        text();
        undoAndRestore();
        Check.end();
    }

    private static void report() {
        Twins.refuse("report of no level, whatever else is wrong", Check.NO_ELEMENT, RICH,
            x -> x.report(-1, 0), x -> x.report(3, 0), x -> x.report(MIN, 0), x -> x.report(MAX, 0),
            x -> x.report(3, 2), x -> x.report(-1, -1));
        Twins.refuse("report with what out of range", Check.ARGUMENT, RICH,
            x -> x.report(0, -1), x -> x.report(0, 2), x -> x.report(2, -1), x -> x.report(2, 2),
            x -> x.report(1, MIN), x -> x.report(1, MAX));
        Twins.refuse("report without one", Check.NO_ELEMENT, FindingAid::new,
            x -> x.report(0, 0), x -> x.report(0, 2), x -> x.report(-1, 0));
    }

    private static void feed() {
        Twins.refuse("feed of a full buffer", Check.STATE, Make::fullBuffer,
            x -> x.feed('1'), x -> x.feed((char) 0), x -> x.feed((char) 65535));
    }

    private static void readOfNoParent() {
        Look.Asked[] parents = {x -> x.read(-1), x -> x.read(7), x -> x.read(6), x -> x.read(40), x -> x.read(MIN),
            x -> x.read(MAX)};
        Twins.refuse("read below no node keeps the buffer", Check.INDEX, RICH, parents);
        for (String text : new String[] {"p3", "@5-4", "(0)", "p99"}) {
            Look.Past past = () -> richWith(text);
            Twins.refuse("read below no node of a text that is wrong, too: 2p3" + text, Check.INDEX, past, parents);
        }
        Twins.refuse("read below no node, with a full buffer", Check.INDEX, Make::fullBuffer,
            x -> x.read(1), x -> x.read(-1));
    }

    private static FindingAid richWith(String more) {
        FindingAid aid = Make.rich();
        Make.feed(aid, more);
        return aid;
    }

    /** The state is that of an object with the same past whose buffer is empty. */
    private static void readOfWhatCannotBeAdded() {
        String[] texts = {"0", "0p0", "0(1)", "1p1", "1p20", "1(1)", "2(2)", "2(1)", "3(3)", "3(1)", "1(3(2))", "2p21",
            "2p9999", "3p21", "2@1-0", "2@9999-9998", "1(2,0)", "1(2,3p20,2(3p21))", "1@0-0(2@1-0)"};
        Look.Past emptied = () -> emptied("");
        String due = Look.all(emptied);
        for (String text : texts) {
            Check.fails("read of " + text, Check.UNSUPPORTED, () -> Make.read(emptied.make(), 0, text));
            Check.same("what stands after read of " + text, Look.all(() -> emptied(text)), due);
        }
        int[][] places = {{1, 1}, {2, 2}, {2, 1}, {3, 3}, {3, 2}, {5, 3}, {5, 2}, {5, 1}, {4, 2}};
        for (int[] place : places) {
            Check.fails("read of the kind " + place[1] + " below " + place[0], Check.UNSUPPORTED,
                () -> Make.read(emptied.make(), place[0], Integer.toString(place[1])));
        }
        // 7 nodes have been: 33 more can be added, and 34 cannot.
        String most = "1(2" + ",3".repeat(31) + ")";
        Check.same("read of 33 nodes", Make.read(emptied.make(), 0, most), 33);
        String tooMany = "1(2" + ",3".repeat(32) + ")";
        Check.fails("read of 34 nodes", Check.UNSUPPORTED, () -> Make.read(emptied.make(), 0, tooMany));
        Check.same("what stands after read of 34 nodes", Look.all(() -> emptied(tooMany)), due);
    }

    private static FindingAid emptied(String text) {
        FindingAid aid = Make.rich();
        Check.same("read of the syntax error", Make.read(aid, 0, "p"), -103);
        Make.feed(aid, text);
        if (!text.isEmpty()) {
            Check.outcome(() -> aid.read(0));
        }
        return aid;
    }

    private static void readOfWrongSyntax() {
        String due = Look.all(() -> emptied(""));
        Object[][] texts = {{"2p", 2}, {"4", 0}, {"2(", 2}, {"2,", 1}, {"1p1(0", 5}, {"2p12345", 6}, {"2@1-0(", 6}};
        for (Object[] one : texts) {
            String text = (String) one[0];
            Check.same("read of " + text, Make.read(emptied(""), 0, text), -100 - (Integer) one[1]);
            Check.same("what stands after read of " + text, Look.all(() -> emptied(text)), due);
        }
        Check.same("read of nothing", emptied("").read(0), -100);
        Check.same("what stands after read of nothing", Look.all(() -> {
            FindingAid aid = emptied("");
            aid.read(0);
            return aid;
        }), due);
        Look.Past allNodes = Make::allNodes;
        Check.same("a wrong text if there have been 40 nodes", Make.read(allNodes.make(), 0, "2,"), -101);
        Check.fails("a correct one", Check.UNSUPPORTED, () -> Make.read(allNodes.make(), 0, "2"));
        Check.fails("below no node", Check.INDEX, () -> Make.read(allNodes.make(), 39, "2"));
    }

    private static void write() {
        Twins.refuse("write of no node keeps the text", Check.INDEX, RICH,
            x -> x.write(-1), x -> x.write(7), x -> x.write(6), x -> x.write(40), x -> x.write(MIN),
            x -> x.write(MAX));
    }

    private static void text() {
        int length = "1(2p5@100-200(3p3@150-300))".length();
        Twins.refuse("text at no index", Check.INDEX, RICH,
            x -> x.text(-1), x -> x.text(length), x -> x.text(MIN), x -> x.text(MAX));
        Twins.refuse("text if nothing was written", Check.INDEX, FindingAid::new, x -> x.text(0), x -> x.text(-1));
    }

    private static void undoAndRestore() {
        Twins.refuse("undo of nothing", Check.STATE, FindingAid::new, FindingAid::undo);
        Twins.refuse("undo of a ninth change", Check.STATE, RefusedTextsTest::undone, FindingAid::undo);
        Twins.refuse("undo after restore", Check.STATE, RefusedTextsTest::restored, FindingAid::undo);
        Twins.refuse("restore of nothing", Check.STATE, FindingAid::new, FindingAid::restore);
        Twins.refuse("restore of nothing", Check.STATE, Make::tenContainers, FindingAid::restore);
    }

    private static FindingAid undone() {
        FindingAid aid = Make.rich();
        for (int left = 7; left >= 0; left--) {
            Check.same("undo", aid.undo(), left);
        }
        return aid;
    }

    private static FindingAid restored() {
        FindingAid aid = Make.rich();
        Check.same("restore", aid.restore(), 7);
        return aid;
    }
}
