/** Promises 20 to 29: copy, copyPart, setSeats, request, requestPart, cancel, review, account, dayCount, openShare. */
public final class RequestsTest {
    public static void main(String[] args) {
        copyPartTells();
        setSeatsTellsThePrevious();
        readersAreRefused();
        fewerSeatsThanReaders();
        originalComesFirst();
        copiesFollowInOrder();
        causesOfUnits();
        requestPartTells();
        cancelMovesLaterOnes();
        reviewCancels();
        accountTells();
        dayCountTells();
        openShareTells();
        Check.end();
    }

    private static void copyPartTells() {
        FindingAid aid = Make.units(2, 3);
        aid.copy(2, 5);
        aid.copy(1, 0);
        aid.request(0, 2, 20);
        aid.request(1, 2, 21);
        aid.request(2, 1, 21);
        int[] parts = {2, 5, 1, 2};
        for (int what = 0; what < 4; what++) {
            Check.same("copy 0, " + what, aid.copyPart(0, what), parts[what]);
        }
        Check.same("visible", aid.copyPart(1, 2), 3);
        Check.same("requests", aid.copyPart(1, 3), 1);
        aid.remove(2);
        Check.fails("removed", Check.INDEX, () -> aid.copyPart(0, 0));
        Check.same("the later one", aid.copyPart(1, 0), 1);
        aid.undo();
        Check.same("again", aid.copyPart(0, 3), 2);
    }

    private static void setSeatsTellsThePrevious() {
        FindingAid aid = Make.units(1, 1);
        Check.same("at first", aid.setSeats(1), 3);
        Check.same("then", aid.setSeats(6), 1);
        Check.same("as before", aid.setSeats(6), 6);
        aid.undo();
        aid.undo();
        Check.same("taken back", aid.setSeats(2), 1);
        aid.save();
        aid.setSeats(5);
        aid.restore();
        Check.same("restored", aid.setSeats(5), 2);
    }

    private static void readersAreRefused() {
        FindingAid aid = Make.shelved(6, 2);
        for (int unit = 1; unit <= 3; unit++) {
            Check.same("request", aid.request(4, unit, 50), -1);
        }
        refused(aid, 4, 4, 50, 4, 2, 4);
        Check.same("another day", aid.request(4, 4, 51), -1);
        aid.request(5, 4, 50);
        aid.request(6, 5, 50);
        refused(aid, 7, 6, 50, 6, 3, 50);
        refused(aid, 4, 6, 50, 6, 2, 4);
        Check.same("a reader with a seat", aid.request(5, 6, 50), -1);
        aid.setSeats(4);
        Check.same("a further seat, but the original is shown", cause(aid, 7, 6, 50), 7);
        Check.same("no level 3", Check.outcome(() -> aid.report(3, 0)).equals(Check.NO_ELEMENT.getName()) ? 1 : 0, 1);
    }

    private static void fewerSeatsThanReaders() {
        FindingAid aid = Make.shelved(6, 2);
        aid.request(0, 1, 50);
        aid.request(1, 2, 50);
        aid.request(2, 3, 50);
        Check.same("seats", aid.setSeats(1), 3);
        Check.same("they stay", aid.account(6), 3);
        Check.same("no seat", cause(aid, 3, 4, 50), 3);
        Check.same("a reader with a seat", aid.request(2, 4, 50), -1);
        Check.same("readers", aid.dayCount(50, 1), 3);
    }

    private static void originalComesFirst() {
        FindingAid aid = Make.shelved(2, 3);
        aid.copy(1, 1);
        Check.same("the original", aid.request(0, 1, 50), -1);
        Check.same("the copy", aid.request(1, 1, 50), 0);
        Check.same("nothing is left", cause(aid, 2, 1, 50), 7);
        Check.same("the reader of the original", aid.report(1, 1), 0);
        Check.same("the original on another day", aid.request(2, 1, 51), -1);
        Check.same("another unit", aid.request(2, 2, 50), -1);
        aid.cancel(0);
        Check.same("the original again", aid.request(1, 1, 50), -1);
        Check.same("the same reader again", cause(aid, 1, 1, 50), 7);
        Check.same("himself", aid.report(1, 1), 1);
    }

    private static void copiesFollowInOrder() {
        FindingAid aid = Make.shelved(2, 3);
        aid.copy(2, 1);
        aid.copy(1, 1);
        aid.copy(1, 2);
        aid.copy(1, 3);
        aid.setPage(1, 0, 100);
        Check.same("the first that can be shown", aid.request(0, 1, 50), 1);
        Check.same("the next that can be shown", aid.request(1, 1, 50), 3);
        Check.same("no further one", cause(aid, 2, 1, 50), 5);
        Check.same("the lowest closed page", aid.report(1, 1), 0);
        Check.same("copies", aid.report(2, 1), 3);
        Check.same("another day", aid.request(2, 1, 51), 1);
        aid.takeOut(2);
        Check.same("out of its container", aid.request(2, 2, 50), 0);
        Check.same("pages", aid.account(7), 2 + 1 + 2 + 2);
    }

    private static void causesOfUnits() {
        FindingAid aid = Make.shelved(1, 3);
        aid.add(0, 1, 0, -1, 0);
        aid.setRule(0, 0, 30);
        refused(aid, 0, 1, 40, 1, 4, 0, 0);
        Check.same("the day after", aid.request(0, 1, 41), -1);
        refused(aid, 0, 1, 40, 1, 4, 0, 0);
        aid.move(1, 2);
        aid.setRule(2, 1, 20);
        aid.setPage(1, 2, 25);
        aid.setPage(1, 1, 29);
        aid.takeOut(1);
        refused(aid, 0, 1, 30, 1, 4, 2, 0);
        refused(aid, 0, 1, 31, 1, 5, 1, 0);
        refused(aid, 0, 1, 39, 1, 5, 1, 0);
        refused(aid, 0, 1, 40, 1, 6, 1, 0);
        refused(aid, 0, 1, 41, 1, 6, 1, 0);
        aid.copy(1, 3);
        aid.copy(1, 2);
        refused(aid, 0, 1, 30, 1, 4, 2, 2);
        Check.same("the copy without both pages", cause(aid, 0, 1, 35), 5);
        Check.same("can be shown", aid.request(0, 1, 36), 0);
        aid.put(1, 0);
        aid.request(1, 1, 45);
        aid.request(1, 1, 45);
        aid.request(1, 1, 45);
        refused(aid, 2, 1, 45, 1, 7, 1, 2);
        aid.remove(1);
        Check.same("the report stays", aid.report(0, 1), 1);
    }

    private static void requestPartTells() {
        FindingAid aid = Make.shelved(2, 5);
        aid.copy(2, 3);
        aid.request(7, 2, 9999);
        aid.request(6, 2, 9999);
        int[][] parts = {{7, 2, 9999, -1, 5}, {6, 2, 9999, 0, 3}};
        for (int i = 0; i < 2; i++) {
            for (int what = 0; what < 5; what++) {
                Check.same("request " + i + ", " + what, aid.requestPart(i, what), parts[i][what]);
            }
        }
    }

    private static void cancelMovesLaterOnes() {
        FindingAid aid = Make.shelved(3, 5);
        for (int day = 0; day < 30; day++) {
            aid.request(day % 8, 1 + day % 3, 100 + day);
        }
        Check.same("cancel", aid.cancel(10), 29);
        Check.same("the next one", aid.requestPart(10, 2), 111);
        Check.same("the one before", aid.requestPart(9, 2), 109);
        Check.same("the last one", aid.requestPart(28, 2), 129);
        Check.fails("none", Check.INDEX, () -> aid.requestPart(29, 0));
        Check.same("cancel the last", aid.cancel(28), 28);
        Check.same("cancel the first", aid.cancel(0), 27);
        Check.same("the first", aid.requestPart(0, 0), 1);
        aid.undo();
        Check.same("taken back", aid.requestPart(0, 2), 100);
    }

    private static void reviewCancels() {
        FindingAid aid = Make.shelved(4, 3);
        aid.copy(1, 1);
        aid.request(0, 1, 50);
        aid.request(1, 1, 50);
        aid.request(0, 2, 50);
        aid.request(0, 3, 50);
        aid.request(1, 1, 5000);
        Check.same("all may stay", aid.review(), 0);
        aid.setPage(1, 0, 100);
        aid.takeOut(2);
        aid.setRule(3, 0, 40);
        Check.same("review", aid.review(), 3);
        Check.same("the copy stays", aid.requestPart(0, 3), 0);
        Check.same("a later day stays", aid.requestPart(1, 2), 5000);
        Check.same("again", aid.review(), 0);
        aid.takeOut(1);
        aid.setPage(1, 1, 40);
        Check.same("the copy on the last closed day, the original outside", aid.review(), 2);
        Check.same("undo", aid.undo(), 7);
        Check.same("taken back", aid.account(6), 2);
        aid.setPage(1, 1, 39);
        Check.same("a day earlier it is open", aid.review(), 1);
        Check.same("the copy", aid.requestPart(0, 3), 0);
        FindingAid empty = new FindingAid();
        Check.same("nothing to review", empty.review(), 0);
        Check.same("it is a change", empty.undo(), 0);
    }

    private static void accountTells() {
        FindingAid aid = Make.shelved(4, 3);
        aid.add(0, 1, 0, -1, 0);
        aid.add(0, 2, 0, 5, 5);
        aid.takeOut(4);
        aid.addContainer(5);
        aid.put(1, 1);
        aid.copy(1, 1);
        aid.copy(4, 6);
        aid.request(0, 1, 50);
        aid.request(1, 1, 50);
        aid.request(2, 4, 50);
        int[] due = {7, 4, 12, 2, 3, 2, 3, 6, 1, 5};
        for (int what = 0; what < 10; what++) {
            Check.same("account " + what, aid.account(what), due[what]);
        }
    }

    private static void dayCountTells() {
        FindingAid aid = Make.shelved(3, 3);
        aid.copy(1, 1);
        aid.request(0, 1, 50);
        aid.request(1, 1, 50);
        aid.request(1, 2, 50);
        aid.request(1, 2, 51);
        aid.setPage(1, 0, 40);
        aid.setRule(2, 0, 41);
        int[][] due = {{50, 3, 2, 1, 5}, {51, 1, 1, 2, 6}, {52, 0, 0, 3, 9}, {0, 0, 0, 1, 5}, {9999, 0, 0, 3, 9}};
        for (int[] day : due) {
            for (int what = 0; what < 4; what++) {
                Check.same("day " + day[0] + ", " + what, aid.dayCount(day[0], what), day[1 + what]);
            }
        }
    }

    private static void openShareTells() {
        FindingAid aid = new FindingAid();
        aid.add(0, 2, 0, 5, 5);
        Check.fails("no units", Check.ARITHMETIC, () -> aid.openShare(0));
        aid.add(0, 2, 2, 5, 5);
        aid.add(0, 2, 1, 5, 5);
        Check.same("all", aid.openShare(0), 1.0);
        aid.setPage(2, 1, 1);
        Check.same("two thirds", aid.openShare(6), 2.0 / 3);
        aid.setRule(0, 0, 1);
        Check.same("none", aid.openShare(6), 0.0);
        Check.same("the day after", aid.openShare(7), 1.0);
    }

    /** Asks for the refusal and the whole report. */
    private static void refused(FindingAid aid, int reader, int unit, int day, int... due) {
        Check.fails("request", Check.UNSUPPORTED, () -> aid.request(reader, unit, day));
        int[] report = due.length == 3 ? new int[] {1, due[0], due[1], due[2]}
            : new int[] {1, due[0], due[1], due[2], 8, due[3]};
        for (int i = 0; i < report.length; i++) {
            Check.same("report on day " + day + ", " + i, aid.report(i / 2, i % 2), report[i]);
        }
        Check.fails("level behind", Check.NO_ELEMENT, () -> aid.report(report.length / 2, 0));
    }

    private static int cause(FindingAid aid, int reader, int unit, int day) {
        Check.fails("request", Check.UNSUPPORTED, () -> aid.request(reader, unit, day));
        return aid.report(1, 0);
    }
}
