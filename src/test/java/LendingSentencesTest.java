/** The sentences of "Description" and "Details" on containers, copies and requests that name a boundary. */
public final class LendingSentencesTest {
    public static void main(String[] args) {
        atMost10ContainersAtATime();
        split10ContainersAtATime();
        capacitiesAreFrom1To200();
        thereCanBe30Containers();
        aUnitIsInOneContainerOrInNone();
        theSumOfThePagesIsAtMostTheCapacity();
        sumsOfSplitAndMerge();
        serialNumbersCountWhatWasPut();
        marksGoOnWhateverHappens();
        theMarkIsTheOneGotLast();
        putIntoTheSameContainer();
        unitsOfAFullContainerStayInOrder();
        removedUnitsLeaveTheirContainers();
        splitAtPositionsOfUnitsOnly();
        movedUnitsGetNewMarks();
        copiesHideAnySetButAllPages();
        thereCanBe16Copies();
        copiesAreShownIfTheVisiblePagesAreOpen();
        readersAreFrom0To7();
        seatsAreFrom1To6();
        thereAreAtMost30Requests();
        laterRequestsDecrease();
        cancelledRequestsDoNotCount();
        threeRequestsOfAReaderForADay();
        asManyReadersAsSeats();
        theOriginalIsShownOnceADay();
        copiesAreShownInAscendingOrder();
        all16CopiesAreShownOnOneDay();
        causesComeInTheirOrder();
        reportsAreReplaced();
        shownOfThisVeryUnit();
        Check.end();
    }

    /** "There are at most 10 containers at a time"; those that do not exist any more do not count. */
    private static void atMost10ContainersAtATime() {
        FindingAid aid = new FindingAid();
        Check.same("none", aid.account(3), 0);
        for (int container = 0; container < 10; container++) {
            Check.same("add", aid.addContainer(5), container);
        }
        Check.same("ten", aid.account(3), 10);
        Check.fails("the 11th", Check.STATE, () -> aid.addContainer(5));
        Check.same("merge", aid.merge(4, 9), 0);
        Check.same("the tenth again", aid.addContainer(5), 10);
        Check.fails("the 11th", Check.STATE, () -> aid.addContainer(5));
        Check.same("undo", aid.undo(), 7);
        Check.same("nine", aid.account(3), 9);
        Check.same("the tenth again", aid.addContainer(5), 10);
    }

    private static void split10ContainersAtATime() {
        FindingAid aid = Make.shelved(3, 5);
        for (int container = 1; container < 9; container++) {
            aid.addContainer(5);
        }
        Check.same("the tenth", aid.split(0, 2, 5), 9);
        Check.fails("the 11th", Check.STATE, () -> aid.split(0, 1, 5));
        Check.same("merge", aid.merge(9, 1), 1);
        Check.same("the tenth again", aid.split(0, 1, 5), 10);
        Check.same("containers", aid.account(3), 10);
    }

    /** "with a capacity from 1 to 200" */
    private static void capacitiesAreFrom1To200() {
        FindingAid aid = Make.units(1, 1);
        Check.same("1", aid.addContainer(1), 0);
        Check.same("200", aid.addContainer(200), 1);
        Check.fails("0", Check.ARGUMENT, () -> aid.addContainer(0));
        Check.fails("201", Check.ARGUMENT, () -> aid.addContainer(201));
        Check.same("the number goes on", aid.addContainer(2), 2);
        aid.put(1, 0);
        Check.fails("split 0", Check.ARGUMENT, () -> aid.split(0, 0, 0));
        Check.fails("split 201", Check.ARGUMENT, () -> aid.split(0, 0, 201));
        Check.same("split 1", aid.split(0, 0, 1), 3);
        Check.same("split 200", aid.split(3, 0, 200), 4);
        int[] capacities = {1, 200, 2, 1, 200};
        for (int container = 0; container < 5; container++) {
            Check.same("capacity", aid.container(container, 0), capacities[container]);
        }
    }

    /** "a new one gets the number of containers that there have been so far, and there can be 30 in all" */
    private static void thereCanBe30Containers() {
        FindingAid aid = Make.units(2, 5);
        aid.addContainer(200);
        aid.put(1, 0);
        aid.put(2, 0);
        for (int container = 1; container < 29; container++) {
            boolean isSplit = container % 2 == 0;
            Check.same("a new one", isSplit ? aid.split(0, 1, 9) : aid.addContainer(9), container);
            Check.same("merge", aid.merge(container, 0), isSplit ? 1 : 0);
        }
        Check.same("the 30th", aid.split(0, 0, 10), 29);
        Check.fails("the 31st", Check.STATE, () -> aid.split(29, 0, 10));
        Check.fails("the 31st", Check.STATE, () -> aid.addContainer(10));
        Check.same("containers", aid.account(3), 2);
        Check.same("undo", aid.undo(), 7);
        Check.same("the 30th", aid.addContainer(10), 29);
        Check.fails("the 31st", Check.STATE, () -> aid.split(0, 0, 10));
    }

    /** "A unit is in one container or in none." */
    private static void aUnitIsInOneContainerOrInNone() {
        FindingAid aid = Make.units(1, 5);
        aid.addContainer(5);
        aid.addContainer(5);
        Check.same("in none", aid.node(1, 9), -1);
        aid.put(1, 0);
        aid.put(1, 1);
        Check.same("in one", aid.node(1, 9), 1);
        Check.same("not in the other", aid.container(0, 1), 0);
        Check.same("nor its pages", aid.container(0, 2), 0);
        Check.same("units in containers", aid.account(4), 1);
        Check.same("takeOut", aid.takeOut(1), 1);
        Check.same("in none", aid.node(1, 9), -1);
        Check.same("units in containers", aid.account(4), 0);
        Check.fails("takeOut", Check.STATE, () -> aid.takeOut(1));
    }

    /** "the sum of their pages is at most its capacity" */
    private static void theSumOfThePagesIsAtMostTheCapacity() {
        FindingAid aid = Make.units(10, 20);
        aid.add(0, 3, 1, -1, 0);
        aid.add(0, 3, 19, -1, 0);
        aid.addContainer(200);
        for (int unit = 1; unit <= 9; unit++) {
            aid.put(unit, 0);
        }
        Check.same("199 pages", aid.put(12, 0), 10);
        Check.fails("219 pages", Check.STATE, () -> aid.put(10, 0));
        Check.same("200 pages", aid.put(11, 0), 11);
        Check.same("the sum", aid.container(0, 2), 200);
        aid.add(0, 3, 1, -1, 0);
        Check.fails("201 pages", Check.STATE, () -> aid.put(13, 0));
        aid.addContainer(1);
        Check.same("1 page of 1", aid.put(13, 1), 1);
        Check.fails("2 pages of 1", Check.STATE, () -> aid.put(11, 1));
        Check.fails("19 pages of 1", Check.STATE, () -> aid.put(12, 1));
        Check.same("it stays where it was", aid.node(12, 9), 0);
    }

    private static void sumsOfSplitAndMerge() {
        FindingAid aid = Make.units(4, 5);
        aid.addContainer(20);
        for (int unit = 1; unit <= 4; unit++) {
            aid.put(unit, 0);
        }
        Check.fails("split: 15 pages of 14", Check.STATE, () -> aid.split(0, 1, 14));
        Check.same("split: 15 pages of 15", aid.split(0, 1, 15), 1);
        Check.fails("merge: 20 pages of 15", Check.STATE, () -> aid.merge(0, 1));
        aid.addContainer(19);
        aid.addContainer(20);
        Check.same("merge into an empty one", aid.merge(1, 2), 3);
        Check.fails("merge: 20 pages of 19", Check.STATE, () -> aid.merge(0, 2));
        Check.same("merge into an empty one", aid.merge(0, 3), 1);
        Check.same("merge: 20 pages of 20", aid.merge(2, 3), 3);
        Check.same("the sum", aid.container(3, 2), 20);
    }

    /** "the number of units that have been put into this container so far plus 1" */
    private static void serialNumbersCountWhatWasPut() {
        FindingAid aid = Make.units(3, 1);
        aid.addContainer(5);
        aid.addContainer(5);
        Check.same("the first", aid.put(1, 0), 1);
        Check.same("the next", aid.put(2, 0), 2);
        Check.same("the first of another one", aid.put(1, 1), 1);
        Check.same("back again", aid.put(1, 0), 3);
        aid.takeOut(1);
        aid.remove(2);
        Check.same("what was taken out or removed counts", aid.put(3, 0), 4);
        Check.same("put so far", aid.container(0, 3), 4);
        Check.same("units", aid.container(0, 1), 1);
        aid.undo();
        Check.same("what was taken back does not", aid.put(3, 0), 4);
    }

    /** "A mark goes on to refer to its unit, whatever happens to unit and container." */
    private static void marksGoOnWhateverHappens() {
        FindingAid aid = Make.units(2, 5);
        aid.add(0, 1, 0, -1, 0);
        aid.addContainer(10);
        aid.addContainer(10);
        aid.put(1, 0);
        aid.put(2, 0);
        aid.put(1, 1);
        Check.same("put elsewhere", aid.resolve(0, 1), 1);
        aid.takeOut(1);
        Check.same("taken out", aid.resolve(1, 1), 1);
        aid.move(1, 3);
        Check.same("moved", aid.resolve(0, 1), 1);
        aid.split(0, 0, 10);
        Check.same("split", aid.resolve(0, 2), 2);
        aid.merge(0, 1);
        Check.same("merged", aid.resolve(0, 2), 2);
        Check.same("merged", aid.resolve(0, 1), 1);
        Check.same("all marks", aid.account(9), 4);
        aid.remove(3);
        Check.fails("removed", Check.NO_ELEMENT, () -> aid.resolve(0, 1));
        Check.fails("removed", Check.NO_ELEMENT, () -> aid.resolve(1, 1));
        Check.same("not removed", aid.resolve(2, 1), 2);
        Check.same("the rest", aid.account(9), 2);
        Check.fails("a serial before the first", Check.NO_ELEMENT, () -> aid.resolve(2, 0));
        Check.fails("a serial behind the last", Check.NO_ELEMENT, () -> aid.resolve(2, 2));
        Check.fails("a container behind the last", Check.NO_ELEMENT, () -> aid.resolve(3, 1));
        Check.fails("a container before the first", Check.NO_ELEMENT, () -> aid.resolve(-1, 1));
    }

    /** "The mark of a unit that is in a container is the one that it got last." */
    private static void theMarkIsTheOneGotLast() {
        FindingAid aid = Make.units(2, 5);
        aid.addContainer(10);
        aid.addContainer(10);
        Check.same("no mark", aid.node(1, 10), -1);
        aid.put(1, 0);
        aid.put(2, 0);
        aid.put(1, 0);
        Check.same("the later one", aid.node(1, 10), 3);
        Check.same("the earlier one goes on", aid.resolve(0, 1), 1);
        aid.put(1, 1);
        Check.same("of the other container", aid.node(1, 10), 1);
        aid.takeOut(1);
        Check.same("no mark", aid.node(1, 10), -1);
        aid.merge(0, 1);
        Check.same("by merge", aid.node(2, 10), 2);
    }

    /** "taken out first, so that its own pages do not need room" */
    private static void putIntoTheSameContainer() {
        FindingAid aid = Make.units(2, 5);
        aid.addContainer(10);
        aid.put(1, 0);
        aid.put(2, 0);
        Check.same("the full one", aid.container(0, 2), 10);
        Check.same("again", aid.put(1, 0), 3);
        Check.same("at the end", aid.unitAt(0, 1), 1);
        Check.same("the other one first", aid.unitAt(0, 0), 2);
        Check.same("the last one again", aid.put(1, 0), 4);
        Check.same("at the end", aid.unitAt(0, 1), 1);
        Check.same("still full", aid.container(0, 2), 10);
        Check.same("units", aid.container(0, 1), 2);
    }

    /** "The units of a container are in an order", also all 39 of them, when one is taken out and put again. */
    private static void unitsOfAFullContainerStayInOrder() {
        for (int gone : new int[] {1, 2, 20, 38, 39}) {
            FindingAid aid = Make.shelved(39, 5);
            Check.same("takeOut", aid.takeOut(gone), 0);
            Check.same("units", aid.container(0, 1), 38);
            for (int position = 0; position < 38; position++) {
                Check.same("without " + gone, aid.unitAt(0, position), position + (position < gone - 1 ? 1 : 2));
            }
            Check.same("put", aid.put(gone, 0), 40);
            Check.same("at the end", aid.unitAt(0, 38), gone);
            Check.same("put again", aid.put(gone, 0), 41);
            Check.same("at the end", aid.unitAt(0, 38), gone);
            Check.same("remove", aid.remove(40 - gone), 1);
            Check.same("units", aid.container(0, 1), 38);
            Check.same("marks", aid.account(9), gone == 20 ? 38 : 40);
        }
    }

    /** "Their units are taken out of their containers", where there is room again, and the others stay in order. */
    private static void removedUnitsLeaveTheirContainers() {
        FindingAid aid = Make.units(5, 5);
        aid.addContainer(20);
        for (int unit = 1; unit <= 4; unit++) {
            aid.put(unit, 0);
        }
        Check.fails("no room", Check.STATE, () -> aid.put(5, 0));
        Check.same("remove", aid.remove(2), 1);
        Check.same("the sum", aid.container(0, 2), 15);
        Check.same("units in containers", aid.account(4), 3);
        Check.same("room for one", aid.put(5, 0), 5);
        int[] units = {1, 3, 4, 5};
        for (int position = 0; position < units.length; position++) {
            Check.same("position " + position, aid.unitAt(0, position), units[position]);
        }
        Check.fails("behind the last", Check.INDEX, () -> aid.unitAt(0, 4));
        Check.same("split behind the removed one", aid.split(0, 1, 15), 1);
        Check.same("the first that is moved", aid.unitAt(1, 0), 3);
    }

    /** "A container can be split at positions of its units only." */
    private static void splitAtPositionsOfUnitsOnly() {
        FindingAid aid = Make.shelved(3, 5);
        aid.addContainer(9);
        Check.fails("of an empty one", Check.INDEX, () -> aid.split(1, 0, 9));
        Check.fails("behind the last", Check.INDEX, () -> aid.split(0, 3, 9));
        Check.fails("before the first", Check.INDEX, () -> aid.split(0, -1, 20));
        Check.same("at the last", aid.split(0, 2, 5), 2);
        Check.same("at the first", aid.split(0, 0, 10), 3);
        Check.same("empty", aid.container(0, 1), 0);
        Check.same("order", aid.unitAt(3, 0) * 10 + aid.unitAt(3, 1), 12);
        Check.fails("it is empty now", Check.INDEX, () -> aid.split(0, 0, 9));
    }

    /** "Units that are moved by split and merge get new marks, too; each time that a unit is put .. counts." */
    private static void movedUnitsGetNewMarks() {
        FindingAid aid = Make.shelved(3, 5);
        aid.split(0, 1, 20);
        Check.same("put so far", aid.container(1, 3), 2);
        Check.same("mark", aid.node(2, 10), 1);
        Check.same("mark", aid.node(3, 10), 2);
        Check.same("the one that stays keeps its mark", aid.node(1, 10), 1);
        aid.merge(0, 1);
        Check.same("put so far", aid.container(1, 3), 3);
        Check.same("mark", aid.node(1, 10), 3);
        Check.same("marks", aid.account(9), 6);
        aid.split(1, 0, 20);
        Check.same("put so far stays", aid.container(1, 3), 3);
        Check.same("the next one", aid.put(1, 1), 4);
    }

    /** "its other pages, at least one, are visible" */
    private static void copiesHideAnySetButAllPages() {
        for (int pages : new int[] {1, 2, 20}) {
            FindingAid aid = Make.units(1, pages);
            int all = (1 << pages) - 1;
            Check.same("no page hidden", aid.copy(1, 0), 0);
            Check.same("all but the last", aid.copy(1, all >> 1), 1);
            Check.same("visible", aid.copyPart(0, 2), pages);
            Check.same("visible", aid.copyPart(1, 2), 1);
            Check.fails("all pages", Check.ARGUMENT, () -> aid.copy(1, all));
            Check.fails("the page behind", Check.ARGUMENT, () -> aid.copy(1, 1 << pages));
            Check.fails("the highest bit", Check.ARGUMENT, () -> aid.copy(1, Integer.MIN_VALUE));
            Check.fails("all bits", Check.ARGUMENT, () -> aid.copy(1, -1));
        }
    }

    /** "There can be 16 copies in all"; "Copies that do not exist any more count among the 16." */
    private static void thereCanBe16Copies() {
        FindingAid aid = Make.units(2, 5);
        for (int copy = 0; copy < 15; copy++) {
            Check.same("a new one", aid.copy(1 + copy % 2, copy), copy);
        }
        Check.same("remove", aid.remove(2), 1);
        Check.same("copies", aid.account(5), 8);
        Check.same("the 16th", aid.copy(1, 1), 15);
        Check.fails("the 17th", Check.STATE, () -> aid.copy(1, 1));
        Check.fails("a copy that is gone", Check.INDEX, () -> aid.copyPart(1, 0));
        Check.same("a later one", aid.copyPart(14, 1), 14);
        Check.same("undo", aid.undo(), 7);
        Check.same("the 16th", aid.copy(1, 2), 15);
    }

    /** "A copy can be shown on a day if all its visible pages are open then." */
    private static void copiesAreShownIfTheVisiblePagesAreOpen() {
        FindingAid aid = Make.units(1, 3);
        aid.setPage(1, 0, 10);
        aid.setPage(1, 1, 20);
        int[][] copies = {{0, 31}, {1, 31}, {2, 21}, {3, 0}, {4, 31}, {5, 31}, {6, 21}};
        for (int[] copy : copies) {
            int number = aid.copy(1, copy[0]);
            Check.same("first day with hidden " + copy[0], aid.firstDay(number), copy[1]);
        }
        aid.setRule(1, 0, 15);
        Check.same("the unit is closed longer", aid.firstDay(2), 26);
        Check.same("the unit alone", aid.firstDay(3), 26);
        Check.same("the page is closed longer", aid.firstDay(0), 31);
        for (int hidden : new int[] {3, 6}) {
            FindingAid other = Make.units(1, 3);
            other.setPage(1, 0, 10);
            other.copy(1, hidden);
            int last = hidden == 3 ? -1 : 20;
            Check.same("on the first day", other.request(0, 1, last + 1), 0);
            if (last >= 0) {
                Check.fails("a day earlier", Check.UNSUPPORTED, () -> other.request(1, 1, last));
            }
        }
    }

    /** "There are readers with the numbers from 0 to 7" */
    private static void readersAreFrom0To7() {
        FindingAid aid = Make.shelved(1, 5);
        Check.same("0", aid.request(0, 1, 0), -1);
        Check.same("7", aid.request(7, 1, 1), -1);
        Check.same("reader", aid.requestPart(1, 0), 7);
        Check.fails("-1", Check.INDEX, () -> aid.request(-1, 1, 2));
        Check.fails("8", Check.INDEX, () -> aid.request(8, 1, 2));
    }

    /** "and a number of seats from 1 to 6, at first 3"; "Requests that were granted stay." */
    private static void seatsAreFrom1To6() {
        FindingAid aid = Make.shelved(8, 1);
        Check.fails("0", Check.ARGUMENT, () -> aid.setSeats(0));
        Check.fails("7", Check.ARGUMENT, () -> aid.setSeats(7));
        Check.same("at first", aid.setSeats(6), 3);
        for (int reader = 0; reader < 6; reader++) {
            Check.same("a seat", aid.request(reader, 1 + reader, 50), -1);
        }
        Check.fails("the seventh reader", Check.UNSUPPORTED, () -> aid.request(6, 7, 50));
        Check.same("6", aid.setSeats(1), 6);
        Check.same("1", aid.setSeats(1), 1);
        Check.same("requests stay", aid.account(6), 6);
        Check.same("readers stay", aid.dayCount(50, 1), 6);
        Check.same("review", aid.review(), 0);
        Check.same("the only seat of another day", aid.request(7, 1, 51), -1);
        Check.fails("a second reader", Check.UNSUPPORTED, () -> aid.request(6, 7, 51));
        Check.same("the cause", aid.report(1, 0), 3);
    }

    /** "There are at most 30 requests, in the order in which they were granted, numbered from 0" */
    private static void thereAreAtMost30Requests() {
        FindingAid aid = Make.shelved(1, 5);
        for (int i = 0; i < 30; i++) {
            Check.same("granted", aid.request(i % 8, 1, 200 - i), -1);
            Check.same("number", aid.requestPart(i, 2), 200 - i);
        }
        Check.fails("the 31st", Check.STATE, () -> aid.request(0, 1, 0));
        Check.fails("there is no number 30", Check.INDEX, () -> aid.requestPart(30, 0));
        Check.same("cancel", aid.cancel(29), 29);
        Check.same("the 30th", aid.request(0, 1, 0), -1);
        Check.fails("the 31st", Check.STATE, () -> aid.request(0, 1, 1));
        Check.same("undo", aid.undo(), 7);
        Check.same("the 30th", aid.request(0, 1, 1), -1);
        Check.same("requests", aid.account(6), 30);
    }

    /** "when one is cancelled, the numbers of the later ones decrease by 1" */
    private static void laterRequestsDecrease() {
        int[][] days = {{0, 1, 2}, {1, 0, 2}, {2, 0, 1}};
        for (int[] gone : days) {
            FindingAid aid = Make.shelved(1, 5);
            for (int day = 0; day < 3; day++) {
                aid.request(0, 1, day);
            }
            Check.same("cancel " + gone[0], aid.cancel(gone[0]), 2);
            Check.same("request 0", aid.requestPart(0, 2), gone[1]);
            Check.same("request 1", aid.requestPart(1, 2), gone[2]);
            Check.fails("request 2", Check.INDEX, () -> aid.requestPart(2, 2));
            Check.fails("cancel 2", Check.INDEX, () -> aid.cancel(2));
            aid.cancel(1);
            Check.same("the last", aid.cancel(0), 0);
            Check.fails("none is left", Check.INDEX, () -> aid.cancel(0));
        }
        for (int removed = 1; removed <= 2; removed++) {
            FindingAid aid = Make.shelved(2, 5);
            for (int day = 0; day < 4; day++) {
                aid.request(0, 1 + day % 2, day);
            }
            aid.remove(removed);
            Check.same("request 0", aid.requestPart(0, 2), 2 - removed);
            Check.same("request 1", aid.requestPart(1, 2), 4 - removed);
            Check.same("its unit", aid.requestPart(1, 1), 3 - removed);
            Check.fails("request 2", Check.INDEX, () -> aid.requestPart(2, 0));
        }
    }

    private static void cancelledRequestsDoNotCount() {
        FindingAid aid = Make.shelved(4, 1);
        aid.setSeats(2);
        aid.request(0, 1, 50);
        aid.request(0, 2, 50);
        Check.same("the third request of the reader", aid.request(0, 3, 50), -1);
        aid.cancel(2);
        Check.same("the third again, of the same unit", aid.request(0, 3, 50), -1);
        aid.cancel(2);
        Check.same("the second seat, and the same unit", aid.request(1, 3, 50), -1);
        aid.cancel(2);
        Check.same("the second seat again", aid.request(2, 3, 50), -1);
        aid.cancel(2);
        Check.same("readers with a seat", aid.dayCount(50, 1), 1);
        Check.same("requests for the day", aid.dayCount(50, 0), 2);
        Check.same("pages of all requests", aid.account(7), 2);
        aid.cancel(0);
        aid.cancel(0);
        Check.same("nothing is left to review", aid.review(), 0);
        Check.same("no reader has a seat", aid.dayCount(50, 1), 0);
    }

    /** "refused for the cause 2 if the reader has three requests for the day" */
    private static void threeRequestsOfAReaderForADay() {
        FindingAid aid = Make.shelved(5, 1);
        aid.request(2, 1, 50);
        aid.request(2, 2, 50);
        aid.request(2, 4, 51);
        Check.same("the third", aid.request(2, 3, 50), -1);
        Check.fails("the fourth", Check.UNSUPPORTED, () -> aid.request(2, 4, 50));
        Check.same("its cause", aid.report(1, 0), 2);
        Check.same("its detail", aid.report(1, 1), 2);
        Check.fails("no level 2", Check.NO_ELEMENT, () -> aid.report(2, 0));
        Check.same("another day", aid.request(2, 5, 51), -1);
        Check.same("another reader", aid.request(3, 4, 50), -1);
        aid.setSeats(1);
        Check.fails("the fourth", Check.UNSUPPORTED, () -> aid.request(2, 5, 50));
        Check.same("its cause comes first", aid.report(1, 0), 2);
        aid.cancel(0);
        Check.same("the third again", aid.request(2, 5, 50), -1);
    }

    /** "the cause 3 if the reader has no seat on the day and there are as many readers with one as there are seats" */
    private static void asManyReadersAsSeats() {
        for (int seats = 1; seats <= 6; seats++) {
            FindingAid aid = Make.shelved(8, 1);
            aid.setSeats(seats);
            for (int reader = 0; reader < seats; reader++) {
                Check.same("a seat", aid.request(reader, 1 + reader, 50), -1);
            }
            Check.same("readers with a seat", aid.dayCount(50, 1), seats);
            Check.fails("no seat", Check.UNSUPPORTED, () -> aid.request(7, 8, 50));
            Check.same("its cause", aid.report(1, 0), 3);
            Check.same("its detail", aid.report(1, 1), 50);
            Check.fails("no level 2", Check.NO_ELEMENT, () -> aid.report(2, 0));
            Check.same("with a seat", aid.request(0, 8, 50), -1);
            Check.same("another day", aid.request(7, 8, 49), -1);
            aid.cancel(0);
            Check.fails("reader 0 has another one", Check.UNSUPPORTED, () -> aid.request(7, 1, 50));
            aid.cancel(seats - 1);
            Check.same("his seat is free", aid.request(7, 8, 50), -1);
        }
    }

    /** "the original is shown if all pages .. are open .., the unit is in a container, and there is no request .." */
    private static void theOriginalIsShownOnceADay() {
        FindingAid aid = Make.shelved(2, 2);
        aid.copy(1, 1);
        Check.same("the original", aid.request(0, 1, 50), -1);
        Check.same("the copy", aid.request(1, 1, 50), 0);
        Check.fails("nothing is left", Check.UNSUPPORTED, () -> aid.request(2, 1, 50));
        Check.same("its cause", aid.report(1, 0), 7);
        Check.same("the reader of the original", aid.report(1, 1), 0);
        Check.same("the day before", aid.request(2, 1, 49), -1);
        Check.same("the day after", aid.request(2, 1, 51), -1);
        aid.cancel(0);
        Check.same("the original again", aid.request(2, 1, 50), -1);
        aid.takeOut(1);
        Check.same("in no container", aid.request(3, 1, 52), 0);
        aid.put(1, 0);
        aid.setPage(1, 0, 43);
        Check.same("a page closed", aid.request(3, 1, 53), 0);
        Check.same("not any more", aid.request(3, 1, 54), -1);
    }

    /** "Otherwise the first copy of the unit, in ascending order of numbers, is shown that can be shown .. and is not" */
    private static void copiesAreShownInAscendingOrder() {
        FindingAid aid = Make.units(2, 3);
        aid.setSeats(6);
        aid.copy(1, 1);
        aid.copy(2, 0);
        aid.copy(1, 2);
        aid.copy(1, 4);
        aid.setPage(1, 0, 40);
        aid.setPage(1, 1, 41);
        aid.setPage(1, 2, 42);
        Check.fails("no copy", Check.UNSUPPORTED, () -> aid.request(0, 1, 51));
        Check.same("its cause", aid.report(1, 0), 5);
        Check.same("its detail", aid.report(1, 1), 1);
        Check.same("all copies are counted", aid.report(2, 1), 3);
        Check.same("without the longest page", aid.request(0, 1, 52), 3);
        Check.same("the first of all", aid.request(0, 1, 53), 0);
        Check.same("the next", aid.request(1, 1, 53), 2);
        Check.same("the last", aid.request(2, 1, 53), 3);
        Check.fails("none is left", Check.UNSUPPORTED, () -> aid.request(3, 1, 53));
        Check.same("its cause", aid.report(1, 0), 6);
        aid.cancel(2);
        Check.same("the one that is free", aid.request(3, 1, 53), 2);
    }

    /** Six seats and three requests each are enough for the original and all 16 copies, but for no more. */
    private static void all16CopiesAreShownOnOneDay() {
        FindingAid aid = Make.shelved(1, 5);
        aid.setSeats(6);
        for (int copy = 0; copy < 16; copy++) {
            aid.copy(1, copy);
        }
        for (int i = 0; i < 17; i++) {
            Check.same("request " + i, aid.request(i / 3, 1, 50), i - 1);
        }
        Check.fails("the 18th request", Check.UNSUPPORTED, () -> aid.request(5, 1, 50));
        int[] due = {1, 1, 7, 0, 8, 16};
        for (int i = 0; i < due.length; i++) {
            Check.same("its report, " + i, aid.report(i / 2, i % 2), due[i]);
        }
        Check.fails("no seat", Check.UNSUPPORTED, () -> aid.request(6, 1, 50));
        Check.same("its cause", aid.report(1, 0), 3);
        Check.same("readers with a seat", aid.dayCount(50, 1), 6);
        aid.cancel(16);
        Check.same("the last copy again", aid.request(5, 1, 50), 15);
        aid.cancel(0);
        Check.same("the original again", aid.request(0, 1, 50), -1);
    }

    /** "for the cause 4 if the unit is closed on the day, else 5 if one of its pages is closed, else 6 .., else 7" */
    private static void causesComeInTheirOrder() {
        FindingAid aid = Make.units(1, 3);
        aid.addContainer(10);
        aid.setRule(0, 0, 10);
        aid.setPage(1, 1, 20);
        aid.setPage(1, 2, 19);
        cause(aid, 20, 4, 0);
        cause(aid, 21, 5, 1);
        cause(aid, 30, 5, 1);
        cause(aid, 31, 6, 1);
        aid.put(1, 0);
        cause(aid, 20, 4, 0);
        cause(aid, 30, 5, 1);
        Check.same("the original", aid.request(5, 1, 31), -1);
        cause(aid, 31, 7, 5);
        aid.setRule(1, 1, 10);
        cause(aid, 20, 4, 1);
        aid.setRule(1, 2, 0);
        cause(aid, 20, 5, 1);
        aid.setPage(1, 0, 10);
        cause(aid, 20, 5, 0);
        cause(aid, 21, 5, 1);
    }

    private static void cause(FindingAid aid, int day, int cause, int detail) {
        Check.fails("request on day " + day, Check.UNSUPPORTED, () -> aid.request(2, 1, day));
        int[] due = {1, 1, cause, detail, 8, 0};
        for (int i = 0; i < due.length; i++) {
            Check.same("report of day " + day + ", " + i, aid.report(i / 2, i % 2), due[i]);
        }
        Check.fails("no level 3", Check.NO_ELEMENT, () -> aid.report(3, 0));
    }

    /** "A refused request leaves a report, which replaces the earlier one"; a granted one leaves it as it is. */
    private static void reportsAreReplaced() {
        FindingAid aid = Make.shelved(2, 2);
        Check.fails("no report", Check.NO_ELEMENT, () -> aid.report(0, 0));
        aid.request(0, 1, 50);
        Check.fails("no report", Check.NO_ELEMENT, () -> aid.report(0, 0));
        aid.copy(2, 1);
        aid.copy(2, 2);
        aid.takeOut(1);
        cause(aid, 60, 6, 1);
        aid.request(1, 2, 50);
        Check.same("it stays", aid.report(1, 0), 6);
        aid.setRule(2, 0, 50);
        Check.fails("request", Check.UNSUPPORTED, () -> aid.request(1, 2, 60));
        int[] due = {1, 2, 4, 2, 8, 2};
        for (int i = 0; i < due.length; i++) {
            Check.same("the next one, " + i, aid.report(i / 2, i % 2), due[i]);
        }
        aid.setSeats(1);
        Check.fails("request", Check.UNSUPPORTED, () -> aid.request(5, 2, 50));
        Check.same("a shorter one", aid.report(1, 0), 3);
        Check.fails("its levels", Check.NO_ELEMENT, () -> aid.report(2, 0));
        Check.fails("a wrong request", Check.INDEX, () -> aid.request(8, 2, 50));
        Check.same("it stays", aid.report(1, 0), 3);
    }

    /** "is asked for this very unit or copy; a reader who requests the same unit again is treated like any other one" */
    private static void shownOfThisVeryUnit() {
        FindingAid aid = Make.shelved(2, 2);
        aid.copy(1, 1);
        aid.copy(2, 1);
        Check.same("the original of unit 1", aid.request(0, 1, 50), -1);
        Check.same("the original of unit 2", aid.request(0, 2, 50), -1);
        Check.same("the same reader again", aid.request(0, 1, 50), 0);
        Check.same("the copy of the other unit", aid.request(1, 2, 50), 1);
        Check.fails("once more", Check.UNSUPPORTED, () -> aid.request(1, 2, 50));
        Check.same("its cause", aid.report(1, 0), 7);
        Check.same("the reader of the original of this unit", aid.report(1, 1), 0);
        Check.same("the pages of all requests", aid.account(7), 6);
        Check.same("the originals", aid.account(8), 2);
        Check.same("requests that show copy 0", aid.copyPart(0, 3), 1);
    }
}
