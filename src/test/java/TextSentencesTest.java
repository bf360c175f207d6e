/** The sentences of "Description", "Details" and promises 26 to 37 on texts, undo and snapshots that name a boundary. */
public final class TextSentencesTest {
    public static void main(String[] args) {
        kindsOfATextAreDigitsFrom0To3();
        numbersHaveOneToFourDigits();
        partsMayBeMissing();
        listsHaveOneNodeOrMore();
        theErrorIsAtTheFirstWrongCharacter();
        theErrorIsAtTheEndOfATextThatIsTooShort();
        numbersAreWrittenWithoutLeadingZeros();
        correctTextsThatCannotBeAdded();
        nodesOfATextAreNumberedAsTheyStand();
        theBufferHolds100Characters();
        theBufferIsEmptyAfterRead();
        theTextIsEmptyAtFirst();
        atMost8ChangesAreTakenBack();
        changesWithoutEffectAreChanges();
        whatIsNoChange();
        questionsChangeNothing();
        savedOnceRestoredOften();
        noChangeIsTakenBackAfterRestore();
        undoAndRestoreLeaveReportBufferAndText();
        Check.end();
    }

    private static void read(String text, int due) {
        FindingAid aid = new FindingAid();
        Check.same("read of " + text, Make.read(aid, 0, text), due);
        Check.same("nodes after read of " + text, aid.account(0), 1 + Math.max(0, due));
        Check.same("the buffer after read of " + text, aid.feed('x'), 1);
    }

    private static void cannotBeAdded(String text) {
        FindingAid aid = new FindingAid();
        Check.fails("read of " + text, Check.UNSUPPORTED, () -> Make.read(aid, 0, text));
        Check.same("nodes after read of " + text, aid.account(0), 1);
        Check.same("the buffer after read of " + text, aid.feed('x'), 1);
    }

    /** "kind is a digit from 0 to 3" */
    private static void kindsOfATextAreDigitsFrom0To3() {
        cannotBeAdded("0");
        read("1", 1);
        read("2", 1);
        read("3", 1);
        for (char letter : new char[] {'4', '9', '/', ':', 'p', '@', '-', '(', ')', ',', ' ', 0, 0x661, 0xffff}) {
            read(String.valueOf(letter), -100);
            read("1(" + letter, -102);
        }
        read("12", -101);
        read("01", -101);
    }

    /** "a number consists of one to four digits" */
    private static void numbersHaveOneToFourDigits() {
        read("2p", -102);
        read("2p0", 1);
        read("2p00", 1);
        read("2p000", 1);
        read("2p0020", 1);
        read("2p00020", -106);
        read("2p9999x", -106);
        cannotBeAdded("2p9999");
        cannotBeAdded("2p0021");
        read("2@-5", -102);
        read("2@0-0", 1);
        read("2@0000-9999", 1);
        read("2@00000-9999", -106);
        read("2@0000-99999", -111);
        read("2@1-", -104);
        read("2@0001-0002", 1);
        FindingAid aid = new FindingAid();
        Make.read(aid, 0, "2p0007@0089-0123");
        int[] due = {7, 89, 123};
        for (int i = 0; i < 3; i++) {
            Check.same("part " + i, aid.node(1, 2 + i), due[i]);
        }
    }

    /** "brackets mean that something may be missing": the pages, the dates and the list, each, in their order. */
    private static void partsMayBeMissing() {
        read("2", 1);
        read("2p5", 1);
        read("2@5-6", 1);
        read("2p5@5-6", 1);
        read("2(3)", 2);
        read("2p5(3)", 2);
        read("2@5-6(3)", 2);
        read("2p5@5-6(3)", 2);
        read("2@5-6p5", -105);
        read("2p5p5", -103);
        read("2@5-6@5-6", -105);
        read("2(3)p5", -104);
        read("2(3)@5-6", -104);
        read("2(3)(3)", -104);
        read("2@5", -103);
        read("2@5p5", -103);
        read("2@5(3)", -103);
    }

    /** "braces zero or more repetitions" */
    private static void listsHaveOneNodeOrMore() {
        read("1()", -102);
        read("1(2)", 2);
        read("1(2,2)", 3);
        read("1(2,2,3)", 4);
        read("1(2,)", -104);
        read("1(,2)", -102);
        read("1(2,,2)", -104);
        read("1(2", -103);
        read("1(2,2", -105);
        read("1(2(3)", -106);
        read("1(2(3))", 3);
        read("1(2(3)),", -107);
        read("1(2(3),3)", 4);
        read("1(2(3)))", -107);
        read("1)", -101);
        read("1,1", -101);
        read("1(" + "2,".repeat(37) + "2)", 39);
        read("1(" + "2,".repeat(49), -200);
    }

    /** "the offset, from 0, of the first character that cannot continue such a text" */
    private static void theErrorIsAtTheFirstWrongCharacter() {
        read("x", -100);
        read("1x", -101);
        read("2px", -102);
        read("2p1x", -103);
        read("2p1@x", -104);
        read("2p1@1x", -105);
        read("2p1@1-x", -106);
        read("2p1@1-1x", -107);
        read("2p1@1-1(x", -108);
        read("2p1@1-1(3x", -109);
        read("2p1@1-1(3)x", -110);
        read("1(2(3x", -105);
        read("2p1@5-6(3p1@5-6,3p1@5-6;3)", -123);
        read("-1", -100);
        read("2" + (char) 0xb2, -101);
        read("2p" + (char) 0x661, -102);
        read("0(0)0", -104);
        read("0".repeat(100), -101);
        read("0(".repeat(49) + "0)", -200);
        read("0(".repeat(49) + "0x", -199);
        read("0(".repeat(30) + "0" + ")".repeat(31), -191);
        cannotBeAdded("0(".repeat(33) + "0" + ")".repeat(33));
    }

    /** "or the length of the text if it ends too early" */
    private static void theErrorIsAtTheEndOfATextThatIsTooShort() {
        String text = "2p10@1-20(3p1,3)";
        for (int length = 0; length < text.length(); length++) {
            boolean isComplete = length == 1 || length == 3 || length == 4 || length == 8 || length == 9;
            read(text.substring(0, length), isComplete ? 1 : -100 - length);
        }
        read(text, 3);
        read("0(".repeat(50), -200);
    }

    /** "numbers have no leading zeros, and a number of pages that is 0 is left out" */
    private static void numbersAreWrittenWithoutLeadingZeros() {
        Object[][] texts = {
            {"1p0", "1"}, {"2p0000", "2"}, {"2p01", "2p1"}, {"2p0020", "2p20"}, {"2@0-0", "2@0-0"},
            {"2@0000-0000", "2@0-0"}, {"2@0009-0010", "2@9-10"}, {"2@9999-9999", "2@9999-9999"},
            {"2p1@0-0999(3p0,3p10)", "2p1@0-999(3,3p10)"}, {"3p10@100-1000", "3p10@100-1000"},
        };
        for (Object[] one : texts) {
            FindingAid aid = new FindingAid();
            Make.read(aid, 0, (String) one[0]);
            Check.same("written", Make.written(aid, 1), (String) one[1]);
            Check.same("with the root", Make.written(aid, 0), "0(" + one[1] + ")");
        }
        FindingAid aid = new FindingAid();
        aid.add(0, 2, 0, -1, 9999);
        aid.add(0, 3, 20, 0, 9999);
        Check.same("written", Make.written(aid, 0), "0(2,3p20@0-9999)");
        Check.same("the root alone", Make.written(new FindingAid(), 0), "0");
    }

    /** "A text of the kind 0, or with pages for a series, is correct, but ..; p0 is allowed for each kind." */
    private static void correctTextsThatCannotBeAdded() {
        cannotBeAdded("0");
        cannotBeAdded("0p0");
        cannotBeAdded("0@5-6(1)");
        cannotBeAdded("1(0)");
        cannotBeAdded("1p1");
        cannotBeAdded("1p20");
        cannotBeAdded("2(1)");
        cannotBeAdded("2p21");
        cannotBeAdded("2@6-5");
        read("1p0", 1);
        read("2p0", 1);
        read("3p0", 1);
        read("0,", -101);
        read("1p1,", -103);
        read("2p21(", -105);
    }

    /** "The nodes of a text get their numbers in the order in which they stand in it." */
    private static void nodesOfATextAreNumberedAsTheyStand() {
        FindingAid aid = new FindingAid();
        aid.add(0, 1, 0, -1, 0);
        aid.remove(1);
        Check.same("read", Make.read(aid, 0, "1@2-2(2@3-3(3@4-4,3@5-5),3@6-6,2@7-7)"), 6);
        int[] parents = {0, 2, 3, 3, 2, 2};
        for (int node = 2; node <= 7; node++) {
            Check.same("first day of " + node, aid.node(node, 3), node);
            Check.same("parent of " + node, aid.node(node, 1), parents[node - 2]);
        }
    }

    /** "if the buffer already holds 100 characters" */
    private static void theBufferHolds100Characters() {
        FindingAid aid = new FindingAid();
        String text = "1(2p20@1000-2000(3p10@1000-1999,3p10@1000-1998),2p1@1-2,2p1@1-2,2p1@1-2,2p1@1-2,2p1@1-2,2p1,2p1,2,2)";
        Check.same("the length of the test's text", text.length(), 100);
        Check.same("the 100th", Make.feed(aid, text), 100);
        Check.fails("the 101st", Check.STATE, () -> aid.feed('x'));
        Check.same("all of them are read", aid.read(0), 13);
        Check.same("written again", Make.written(aid, 1), text);
        Check.same("the first", aid.feed((char) 65535), 1);
    }

    /** "The buffer is empty afterwards, also after an error or an exception, but not if there is no such parent." */
    private static void theBufferIsEmptyAfterRead() {
        FindingAid aid = new FindingAid();
        Check.same("nothing was fed", aid.read(0), -100);
        Make.feed(aid, "3");
        Check.fails("no such parent", Check.INDEX, () -> aid.read(1));
        Check.fails("no such parent", Check.INDEX, () -> aid.read(-1));
        Check.same("the buffer stays", aid.feed('p'), 2);
        Check.same("an error", aid.read(0), -102);
        Check.same("empty", aid.read(0), -100);
        Make.feed(aid, "0");
        Check.fails("an exception", Check.UNSUPPORTED, () -> aid.read(0));
        Check.same("empty", aid.read(0), -100);
        Make.feed(aid, "3");
        Check.same("a node", aid.read(0), 1);
        Check.same("empty", aid.read(0), -100);
    }

    /** "the text that was written last, which is empty at first" */
    private static void theTextIsEmptyAtFirst() {
        FindingAid aid = new FindingAid();
        Check.fails("empty", Check.INDEX, () -> aid.text(0));
        Make.read(aid, 0, "2p5@1-2");
        Check.fails("still empty", Check.INDEX, () -> aid.text(0));
        Check.same("length", aid.write(1), 7);
        Check.same("the first", aid.text(0), '2');
        Check.same("the last", aid.text(6), '2');
        Check.fails("before", Check.INDEX, () -> aid.text(-1));
        Check.fails("behind", Check.INDEX, () -> aid.text(7));
        aid.remove(1);
        Check.same("it stays", aid.text(6), '2');
        Check.fails("no such node", Check.INDEX, () -> aid.write(1));
        Check.same("it stays", aid.text(6), '2');
        Check.same("a shorter one", aid.write(0), 1);
        Check.same("the first", aid.text(0), '0');
        Check.fails("behind", Check.INDEX, () -> aid.text(1));
    }

    /** "At most 8 changes can be taken back." */
    private static void atMost8ChangesAreTakenBack() {
        for (int changes = 0; changes <= 20; changes++) {
            FindingAid aid = new FindingAid();
            for (int i = 0; i < changes; i++) {
                aid.add(0, 1, 0, -1, 0);
            }
            int left = Math.min(changes, 8);
            for (int i = 1; i <= left; i++) {
                Check.same("undo", aid.undo(), left - i);
                Check.same("nodes", aid.account(0), 1 + changes - i);
            }
            Check.fails("no further one", Check.STATE, aid::undo);
            Check.same("nodes", aid.account(0), 1 + changes - left);
            aid.add(0, 1, 0, -1, 0);
            Check.same("one more", aid.undo(), 0);
            Check.fails("no further one", Check.STATE, aid::undo);
        }
        FindingAid aid = new FindingAid();
        for (int seats = 1; seats <= 6; seats++) {
            aid.setSeats(seats);
        }
        aid.undo();
        aid.undo();
        aid.undo();
        for (int i = 0; i < 5; i++) {
            aid.setSeats(6);
        }
        Check.same("three and five are left", aid.undo(), 7);
        for (int left = 6; left >= 3; left--) {
            Check.same("left", aid.undo(), left);
        }
        Check.same("the third seats", aid.setSeats(1), 3);
    }

    /** "A successful call is a change even if everything stays the same." */
    private static void changesWithoutEffectAreChanges() {
        FindingAid aid = Make.shelved(1, 1);
        aid.save();
        aid.restore();
        Look.Asked[] changes = {x -> x.move(1, 0), x -> x.setRule(1, -1, 0), x -> x.setPage(1, 0, 0),
            x -> x.setSeats(3), FindingAid::review};
        int[] answers = {0, -1, 0, 3, 0};
        for (int i = 0; i < changes.length; i++) {
            Check.same("change " + i, changes[i].of(aid), answers[i]);
        }
        for (int left = changes.length - 1; left >= 0; left--) {
            Check.same("left", aid.undo(), left);
        }
        Check.fails("no further one", Check.STATE, aid::undo);
    }

    /** Only the calls that undo names are changes. */
    private static void whatIsNoChange() {
        FindingAid aid = Make.units(1, 1);
        aid.save();
        aid.restore();
        Check.same("read", Make.read(aid, 0, "x"), -100);
        Check.fails("read", Check.UNSUPPORTED, () -> Make.read(aid, 0, "0"));
        Check.fails("read", Check.INDEX, () -> Make.read(aid, 9, "1"));
        Check.fails("request", Check.UNSUPPORTED, () -> aid.request(0, 1, 20));
        Check.fails("add", Check.ARGUMENT, () -> aid.add(0, 4, 0, -1, 0));
        aid.write(0);
        aid.save();
        Check.fails("no change", Check.STATE, aid::undo);
        Check.same("read of what was fed below no parent", aid.read(0), 1);
        Check.same("that is a change", aid.undo(), 0);
    }

    private static void questionsChangeNothing() {
        Check.same("what stands after all questions", Look.all(TextSentencesTest::asked), Look.all(Make::rich));
    }

    private static FindingAid asked() {
        FindingAid aid = Make.rich();
        for (int i = 0; i < 4; i++) {
            aid.node(2, 5 + i);
            aid.restriction(2, i % 3);
            aid.openPages(3, i);
            aid.container(0, i);
            aid.copyPart(0, i);
            aid.requestPart(i, i);
            aid.account(i);
            aid.dayCount(430, i);
            aid.report(i / 2, i % 2);
            aid.text(i);
        }
        aid.child(0, 2);
        aid.firstDay(0);
        aid.unitAt(0, 1);
        aid.resolve(0, 1);
        aid.openShare(400);
        aid.write(1);
        return aid;
    }

    /** "Restores what was saved, which stays saved", and save puts it "in place of what was saved before". */
    private static void savedOnceRestoredOften() {
        FindingAid aid = new FindingAid();
        Check.fails("nothing was saved", Check.STATE, aid::restore);
        Check.same("save", aid.save(), 1);
        for (int i = 1; i <= 3; i++) {
            Check.same("add", aid.add(0, 1, 0, -1, 0), 1);
            Check.same("add", aid.add(0, 1, 0, -1, 0), 2);
            Check.same("restore", aid.restore(), 1);
        }
        aid.add(0, 1, 0, -1, 0);
        Check.same("save", aid.save(), 2);
        aid.remove(1);
        Check.same("restore", aid.restore(), 2);
        Check.same("the node", aid.node(1, 0), 1);
        aid.remove(1);
        Check.same("save", aid.save(), 1);
        Check.same("undo", aid.undo(), 0);
        Check.same("restore", aid.restore(), 1);
        Check.same("the next number", aid.add(0, 1, 0, -1, 0), 2);
    }

    /** "No change can be taken back afterwards." */
    private static void noChangeIsTakenBackAfterRestore() {
        FindingAid aid = new FindingAid();
        aid.setSeats(1);
        aid.save();
        Check.same("save leaves what can be taken back", aid.undo(), 0);
        aid.setSeats(2);
        aid.setSeats(4);
        aid.restore();
        Check.fails("nothing", Check.STATE, aid::undo);
        Check.same("the saved seats", aid.setSeats(5), 1);
        Check.same("the change after it", aid.undo(), 0);
        Check.fails("nothing", Check.STATE, aid::undo);
        Check.same("the saved seats", aid.setSeats(5), 1);
    }

    /** "everything but the report, the input buffer, the text and what can be taken back" */
    private static void undoAndRestoreLeaveReportBufferAndText() {
        FindingAid aid = Make.units(1, 2);
        aid.save();
        aid.copy(1, 1);
        Check.same("the copy", aid.request(0, 1, 5), 0);
        Check.fails("request", Check.UNSUPPORTED, () -> aid.request(1, 1, 5));
        aid.write(0);
        Make.feed(aid, "3p");
        for (int round = 0; round < 2; round++) {
            Check.same("undo or restore", round == 0 ? aid.undo() : aid.restore(), 2);
            Check.same("the report", aid.report(1, 0), 6);
            Check.same("the copies in it", aid.report(2, 1), 1);
            Check.same("the text", aid.text(9), '0');
            Check.fails("behind the text", Check.INDEX, () -> aid.text(11));
            Check.same("the buffer", aid.feed('1'), 3 + round);
        }
        Check.same("read", aid.read(0), 1);
        Check.same("pages", aid.node(2, 2), 11);
    }
}
