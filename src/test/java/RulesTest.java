/** Promises 7 to 11: setRule, setPage, restriction, openPages, firstDay. */
public final class RulesTest {
    public static void main(String[] args) {
        setRuleTellsThePrevious();
        rulesWorkFromTheRootDown();
        equalLengthsDecide();
        lastClosedDay();
        setPageTellsThePrevious();
        openPagesTells();
        latestDayOfWhatIsBelowCounts();
        firstDayTells();
        Check.end();
    }

    private static void setRuleTellsThePrevious() {
        FindingAid aid = Make.chain();
        Check.same("first rule", aid.setRule(1, 0, 1), -1);
        Check.same("next rule", aid.setRule(1, 1, 5000), 0);
        Check.same("opens", aid.setRule(1, 2, -12345), 1);
        Check.same("removed", aid.setRule(1, -1, 99999), 2);
        Check.same("removed again", aid.setRule(1, -1, 0), -1);
        Check.same("all are changes", aid.undo(), 7);
        Check.same("undo", aid.undo(), 6);
        Check.same("the mode again", aid.setRule(1, 0, 7), 2);
    }

    private static void rulesWorkFromTheRootDown() {
        FindingAid aid = Make.chain();
        aid.setRule(0, 0, 100);
        expect(aid, new int[] {100, 100, 100, 100}, new int[] {0, 0, 0, 0});
        aid.setRule(1, 0, 50);
        expect(aid, new int[] {100, 100, 100, 100}, new int[] {0, 0, 0, 0});
        aid.setRule(1, 0, 150);
        expect(aid, new int[] {100, 150, 150, 150}, new int[] {0, 1, 1, 1});
        aid.setRule(2, 1, 20);
        expect(aid, new int[] {100, 150, 20, 20}, new int[] {0, 1, 2, 2});
        aid.setRule(3, 0, 30);
        expect(aid, new int[] {100, 150, 20, 30}, new int[] {0, 1, 2, 3});
        aid.setRule(2, 2, 0);
        expect(aid, new int[] {100, 150, 0, 30}, new int[] {0, 1, -1, 3});
        aid.setRule(3, -1, 0);
        expect(aid, new int[] {100, 150, 0, 0}, new int[] {0, 1, -1, -1});
    }

    private static void equalLengthsDecide() {
        FindingAid aid = Make.chain();
        aid.setRule(0, 0, 100);
        aid.setRule(1, 0, 100);
        expect(aid, new int[] {100, 100, 100, 100}, new int[] {0, 0, 0, 0});
        aid.setRule(2, 1, 100);
        expect(aid, new int[] {100, 100, 100, 100}, new int[] {0, 0, 2, 2});
        aid.setRule(3, 0, 100);
        expect(aid, new int[] {100, 100, 100, 100}, new int[] {0, 0, 2, 2});
        aid.setRule(3, 1, 100);
        expect(aid, new int[] {100, 100, 100, 100}, new int[] {0, 0, 2, 3});
        aid.setRule(2, 1, 99);
        aid.setRule(3, 0, 99);
        expect(aid, new int[] {100, 100, 99, 99}, new int[] {0, 0, 2, 2});
    }

    private static void expect(FindingAid aid, int[] terms, int[] deciding) {
        for (int node = 0; node < 4; node++) {
            Check.same("term of " + node, aid.restriction(node, 0), terms[node]);
            Check.same("deciding node of " + node, aid.restriction(node, 1), deciding[node]);
        }
    }

    private static void lastClosedDay() {
        FindingAid aid = Make.chain();
        Check.same("open", aid.restriction(3, 2), -1);
        aid.setRule(0, 0, 5000);
        Check.same("the root", aid.restriction(0, 2), 5900);
        Check.same("the file, of what is below it", aid.restriction(2, 2), 5900);
        aid.add(1, 3, 2, 9999, 9999);
        Check.same("beyond the last day", aid.restriction(1, 2), 14999);
        aid.add(0, 1, 0, -1, 0);
        Check.same("without a latest day", aid.restriction(5, 2), 99999);
        aid.setRule(5, 2, 0);
        Check.same("opened", aid.restriction(5, 2), -1);
    }

    private static void setPageTellsThePrevious() {
        FindingAid aid = Make.chain();
        Check.same("first length", aid.setPage(3, 0, 1), 0);
        Check.same("next length", aid.setPage(3, 0, 5000), 1);
        Check.same("removed", aid.setPage(3, 0, 0), 5000);
        Check.same("removed again", aid.setPage(3, 0, 0), 0);
        Check.same("other page", aid.setPage(3, 3, 7), 0);
        Check.same("other unit", aid.setPage(2, 3, 8), 0);
        Check.same("the first unit", aid.setPage(3, 3, 7), 7);
    }

    private static void openPagesTells() {
        FindingAid aid = Make.chain();
        Check.same("all", aid.openPages(3, 0), 15);
        Check.same("no unit", aid.openPages(1, 0), 0);
        aid.setPage(3, 1, 100);
        Check.same("closed page", aid.openPages(3, 1000), 13);
        Check.same("the day after", aid.openPages(3, 1001), 15);
        aid.setRule(1, 0, 50);
        Check.same("closed unit", aid.openPages(3, 950), 0);
        Check.same("the day after", aid.openPages(3, 951), 13);
        aid.add(0, 3, 20, -1, 0);
        Check.same("20 pages", aid.openPages(4, 9999), 0xFFFFF);
        aid.setPage(4, 19, 1);
        Check.same("closed on all days", aid.openPages(4, 9999), 0x7FFFF);
        aid.setRule(4, 0, 1);
        Check.same("closed on all days", aid.openPages(4, 9999), 0);
    }

    private static void latestDayOfWhatIsBelowCounts() {
        FindingAid aid = Make.chain();
        aid.setPage(2, 0, 10);
        Check.same("page of the file", aid.openPages(2, 910), 30);
        Check.same("the day after", aid.openPages(2, 911), 31);
        aid.remove(3);
        Check.same("the file alone", aid.openPages(2, 509), 30);
        Check.same("earlier", aid.openPages(2, 510), 30);
        Check.same("the day after", aid.openPages(2, 511), 31);
    }

    private static void firstDayTells() {
        FindingAid aid = Make.chain();
        aid.copy(3, 2);
        Check.same("always", aid.firstDay(0), 0);
        aid.setPage(3, 1, 4000);
        Check.same("the hidden page does not matter", aid.firstDay(0), 0);
        aid.setPage(3, 0, 10);
        aid.setPage(3, 3, 30);
        aid.setPage(3, 2, 20);
        Check.same("the longest page", aid.firstDay(0), 931);
        aid.setRule(0, 0, 60);
        Check.same("the unit", aid.firstDay(0), 961);
        aid.setRule(0, 0, 5000);
        Check.same("the unit", aid.firstDay(0), 5901);
        aid.add(0, 3, 2, 9999, 9999);
        aid.copy(4, 1);
        aid.copy(4, 2);
        aid.setRule(4, 1, 1);
        Check.fails("beyond the days", Check.NO_ELEMENT, () -> aid.firstDay(1));
        aid.setRule(4, 2, 0);
        aid.setPage(4, 0, 1);
        Check.same("hidden", aid.firstDay(1), 0);
        Check.fails("not hidden", Check.NO_ELEMENT, () -> aid.firstDay(2));
        aid.add(0, 3, 2, 4998, 4999);
        aid.copy(5, 0);
        aid.setPage(5, 0, 4999);
        aid.setRule(5, 2, 0);
        Check.same("the last day", aid.firstDay(3), 9999);
        aid.setPage(5, 0, 5000);
        Check.fails("a day later", Check.NO_ELEMENT, () -> aid.firstDay(3));
        aid.remove(3);
        Check.fails("removed copy", Check.INDEX, () -> aid.firstDay(0));
    }
}
