/** The sentences of promises 26 and 35 to 37, asked of each kind of change, after which all is to stand as before. */
public final class UndoSentencesTest {
    private static final Look.Past RICH = Make::rich;
    private static final Look.Asked[] CHANGES = {
        x -> x.add(2, 3, 20, 0, 9999), x -> x.remove(1), x -> x.remove(3), x -> x.remove(5), x -> x.move(3, 0),
        x -> x.move(1, 0), x -> x.setRule(0, 1, 5000), x -> x.setRule(1, -1, 0), x -> x.setRule(1, 0, 50),
        x -> x.setPage(3, 2, 5000), x -> x.setPage(2, 1, 0), x -> x.addContainer(200), x -> x.put(3, 1),
        x -> x.put(2, 0), x -> x.takeOut(2), x -> x.takeOut(5), x -> x.split(0, 0, 9), x -> x.split(0, 1, 200),
        x -> x.merge(1, 0), x -> x.copy(5, 2), x -> x.setSeats(1), x -> x.setSeats(4), x -> x.request(7, 5, 0),
        x -> x.request(4, 3, 430), x -> x.cancel(0), x -> x.cancel(3), FindingAid::review,
        x -> Make.read(x, 0, "(3p1)"), x -> Make.read(x, 1, "@1-2"),
    };

    public static void main(String[] args) {
        eachChangeIsTakenBack();
        eachChangeIsNoneAfterRestore();
        eachChangeIsSaved();
        eightOfManyAreTakenBack();
        takenBackFromTheSaved();
        numbersAreGivenAgain();
        numbersAreGivenAgainAfterRestore();
        reviewCancelsWhatIsNotOpen();
        reviewCancelsOriginalsInNoContainer();
        Check.end();
    }

    private static FindingAid changed(int i) {
        FindingAid aid = Make.rich();
        if (Check.outcome(() -> CHANGES[i].of(aid)).endsWith("Exception")) {
            Check.fail("change " + i + " is refused");
        }
        return aid;
    }

    /** "Takes back the latest change that was not taken back: a successful call of add, remove, move, .." */
    private static void eachChangeIsTakenBack() {
        String before = Look.state(RICH);
        for (int i = 0; i < CHANGES.length; i++) {
            int number = i;
            Check.same("undo of change " + i, changed(i).undo(), 7);
            Check.same("the state after undo of change " + i, Look.state(() -> {
                FindingAid aid = changed(number);
                aid.undo();
                return aid;
            }), before);
        }
    }

    /** "Restores what was saved, which stays saved. No change can be taken back afterwards." */
    private static void eachChangeIsNoneAfterRestore() {
        String saved = Look.state(() -> restored(RICH.make()));
        Check.same("nothing is left of what came after save", saved.equals(Look.state(RICH)) ? 1 : 0, 0);
        for (int i = 0; i < CHANGES.length; i++) {
            int number = i;
            Check.same("restore after change " + i, changed(i).restore(), 7);
            Check.same("the state then", Look.state(() -> restored(changed(number))), saved);
            Check.fails("undo then", Check.STATE, () -> restored(changed(number)).undo());
        }
    }

    private static FindingAid restored(FindingAid aid) {
        aid.restore();
        return aid;
    }

    /** "Saves everything but .., in place of what was saved before." */
    private static void eachChangeIsSaved() {
        for (int i = 0; i < CHANGES.length; i++) {
            int number = i;
            Check.same("save after change " + i, changed(i).save(), changed(i).account(0));
            String now = Look.state(() -> changed(number));
            Check.same("restored at once", Look.state(() -> savedAndRestored(number, false)), now);
            Check.same("restored after other changes", Look.state(() -> savedAndRestored(number, true)), now);
        }
    }

    private static FindingAid savedAndRestored(int change, boolean isChangedThen) {
        FindingAid aid = changed(change);
        aid.save();
        if (isChangedThen) {
            aid.remove(4);
            aid.add(0, 3, 7, 7, 7);
            aid.copy(aid.add(0, 3, 8, 8, 8), 8);
            aid.setRule(0, 1, 77);
            aid.setSeats(2);
            aid.undo();
        }
        return restored(aid);
    }

    /** "At most 8 changes can be taken back", each of them to the state before it. */
    private static void eightOfManyAreTakenBack() {
        for (int count = 8; count <= 17; count++) {
            int all = count;
            for (int taken = 1; taken <= 8; taken++) {
                int back = taken;
                Check.same("undo " + taken + " of " + count, undone(many(all), back), 8 - taken);
                Check.same("the state after undo " + taken + " of " + count, Look.state(() -> {
                    FindingAid aid = many(all);
                    undone(aid, back);
                    return aid;
                }), Look.state(() -> many(all - back)));
            }
            Check.fails("a ninth of " + count, Check.STATE, () -> undone(many(all), 9));
        }
    }

    private static int undone(FindingAid aid, int count) {
        int left = 0;
        for (int i = 0; i < count; i++) {
            left = aid.undo();
        }
        return left;
    }

    /** So many changes, of which each matters. */
    private static FindingAid many(int count) {
        Look.Asked[] changes = {x -> x.add(0, 1, 0, 0, 0), x -> x.add(1, 2, 9, 0, 10), x -> x.addContainer(20),
            x -> x.put(2, 0), x -> x.copy(2, 1), x -> x.request(0, 2, 10), x -> x.request(1, 2, 10),
            x -> x.setSeats(2), x -> x.setPage(2, 1, 5), x -> x.setRule(1, 0, 7), x -> x.split(0, 0, 10),
            x -> x.takeOut(2), FindingAid::review, x -> x.merge(1, 0), x -> x.move(2, 0), x -> x.put(2, 0),
            x -> x.remove(1)};
        FindingAid aid = new FindingAid();
        for (int i = 0; i < count; i++) {
            changes[i].of(aid);
        }
        return aid;
    }

    /** What is restored and changed then is taken back to what was saved, which the change must not reach. */
    private static void takenBackFromTheSaved() {
        String saved = Look.state(() -> restored(RICH.make()));
        for (int rounds = 1; rounds <= 3; rounds++) {
            int count = rounds;
            Check.same("the state after undo, round " + rounds, Look.state(() -> {
                FindingAid aid = Make.rich();
                for (int i = 0; i < count; i++) {
                    aid.restore();
                    aid.remove(1);
                    aid.addContainer(7);
                    aid.setSeats(6);
                    aid.put(6, 0);
                }
                undone(aid, 4);
                return aid;
            }), saved);
        }
    }

    /** Two ways to make the nodes 1 to 3, the container 0, the copies 0 and 1 and the request 0, all of them unlike. */
    private static void make(FindingAid aid, boolean isFirst) {
        if (isFirst) {
            aid.add(0, 2, 5, 10, 20);
            aid.add(1, 3, 6, 30, 40);
            aid.add(0, 1, 0, -1, 0);
        } else {
            aid.add(0, 1, 0, 7, 9);
            aid.add(1, 2, 3, -1, 0);
            aid.add(2, 3, 4, 50, 60);
        }
        aid.addContainer(isFirst ? 20 : 30);
        aid.put(2, 0);
        aid.put(isFirst ? 1 : 3, 0);
        aid.copy(isFirst ? 1 : 2, isFirst ? 3 : 5);
        aid.copy(2, isFirst ? 4 : 2);
        aid.setRule(isFirst ? 1 : 2, isFirst ? 1 : 0, isFirst ? 77 : 88);
        aid.setPage(2, 1, isFirst ? 99 : 11);
        aid.request(isFirst ? 1 : 2, 2, isFirst ? 9000 : 9100);
        aid.setSeats(isFirst ? 5 : 6);
    }

    /** The rows of what is taken back hold other values in between. */
    private static void numbersAreGivenAgain() {
        for (int split = 1; split <= 8; split++) {
            int back = split;
            String due = Look.state(() -> upTo(12 - back, true));
            Check.same("other values taken back, " + back, Look.state(() -> {
                FindingAid aid = new FindingAid();
                aid.save();
                make(aid, false);
                aid.restore();
                make(aid, true);
                undone(aid, back);
                return aid;
            }), due);
        }
    }

    private static FindingAid upTo(int changes, boolean isFirst) {
        FindingAid aid = new FindingAid();
        make(aid, isFirst);
        undone(aid, 12 - changes);
        return aid;
    }

    private static void numbersAreGivenAgainAfterRestore() {
        String first = Look.state(() -> upTo(12, true));
        String second = Look.state(() -> upTo(12, false));
        Check.same("they are unlike", first.equals(second) ? 1 : 0, 0);
        for (int order = 0; order < 2; order++) {
            boolean isFirst = order == 0;
            Check.same("restored over other values", Look.state(() -> {
                FindingAid aid = new FindingAid();
                aid.save();
                make(aid, !isFirst);
                aid.restore();
                make(aid, isFirst);
                aid.save();
                for (int i = 0; i < 8; i++) {
                    aid.undo();
                }
                aid.addContainer(9);
                aid.remove(1);
                aid.restore();
                return aid;
            }), isFirst ? first : second);
        }
        Check.same("restored in place of other values", Look.state(UndoSentencesTest::restoredOverOthers), first);
    }

    private static FindingAid restoredOverOthers() {
        FindingAid aid = new FindingAid();
        for (int i = 0; i < 4; i++) {
            aid.add(0, 1, 0, -1, 0);
        }
        undone(aid, 4);
        aid.add(0, 2, 5, 10, 20);
        aid.add(1, 3, 6, 30, 40);
        aid.add(0, 1, 0, -1, 0);
        aid.addContainer(20);
        aid.put(2, 0);
        aid.put(1, 0);
        aid.copy(1, 3);
        aid.save();
        undone(aid, 7);
        aid.add(0, 1, 0, 7, 9);
        aid.add(1, 2, 3, -1, 0);
        aid.add(2, 3, 4, 50, 60);
        aid.addContainer(30);
        aid.addContainer(30);
        aid.put(3, 1);
        aid.copy(2, 5);
        aid.copy(2, 5);
        aid.restore();
        aid.copy(2, 4);
        aid.setRule(1, 1, 77);
        aid.setPage(2, 1, 99);
        aid.request(1, 2, 9000);
        aid.setSeats(5);
        return aid;
    }

    /** "Cancels all requests that show pages that are not open on their days, as it is now", and no others. */
    private static void reviewCancelsWhatIsNotOpen() {
        for (int length : new int[] {39, 40, 41, 42}) {
            FindingAid aid = Make.shelved(1, 3);
            aid.copy(1, 1);
            aid.copy(1, 2);
            for (int day = 50; day <= 52; day++) {
                aid.request(0, 1, day);
                aid.request(1, 1, day);
                aid.request(2, 1, day);
            }
            aid.setPage(1, 0, length);
            // The original and the copy 1 of each day up to the day 10 + length show the page 0.
            int days = Math.max(0, length - 39);
            Check.same("review with length " + length, aid.review(), 2 * days);
            Check.same("requests that stay", aid.account(6), 9 - 2 * days);
            for (int i = 0; i < days; i++) {
                Check.same("the copy that hides the page", aid.requestPart(i, 3), 0);
            }
            aid.setRule(0, 0, length);
            Check.same("review of a unit that is closed", aid.review(), days);
            Check.same("requests that stay", aid.account(6), 9 - 3 * days);
            Check.same("again", aid.review(), 0);
        }
    }

    /** "or originals of units that are in no container" */
    private static void reviewCancelsOriginalsInNoContainer() {
        FindingAid aid = Make.shelved(2, 3);
        aid.copy(1, 1);
        aid.request(0, 1, 50);
        aid.request(1, 1, 50);
        aid.request(0, 2, 50);
        aid.request(1, 1, 51);
        aid.takeOut(1);
        Check.same("both originals", aid.review(), 2);
        Check.same("the copy stays", aid.requestPart(0, 3), 0);
        Check.same("another unit stays", aid.requestPart(1, 1), 2);
        aid.undo();
        aid.put(1, 0);
        Check.same("in a container again", aid.review(), 0);
        aid.split(0, 0, 200);
        Check.same("in another container", aid.review(), 0);
        Check.same("all of them stay", aid.account(6), 4);
        Check.same("nothing to review", new FindingAid().review(), 0);
    }
}
