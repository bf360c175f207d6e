/**
 * Each "Throws" line of promises 20 to 29: the first values that are refused on both sides, the exception that is
 * named first where two apply, and that nothing has changed then but the report of a request that is refused.
 */
public final class RefusedRequestsTest {
    private static final int MIN = Integer.MIN_VALUE;
    private static final int MAX = Integer.MAX_VALUE;
    private static final Look.Past RICH = Make::rich;
    private static final Look.Past ALL_COPIES = Make::allCopies;
    private static final Look.Past ALL_REQUESTS = Make::allRequests;

    public static void main(String[] args) {
        copy();
        copyPart();
        setSeats();
        request();
        requestOf30();
        requestLeavesReport();
        requestPart();
        cancel();
        account();
        dayCount();
        openShare();
        Check.end();
    }

    private static void copy() {
        Twins.refuse("copy of no node, whatever else is wrong", Check.INDEX, RICH,
            x -> x.copy(-1, 0), x -> x.copy(7, 0), x -> x.copy(6, 0), x -> x.copy(40, 0), x -> x.copy(MIN, 0),
            x -> x.copy(MAX, 0), x -> x.copy(7, 31), x -> x.copy(6, -1));
        Twins.refuse("copy of what is no unit", Check.ARGUMENT, RICH,
            x -> x.copy(0, 0), x -> x.copy(1, 0), x -> x.copy(4, 0), x -> x.copy(4, 1));
        Twins.refuse("copy with a bit that stands for no page", Check.ARGUMENT, RICH,
            x -> x.copy(2, 32), x -> x.copy(2, 33), x -> x.copy(2, MIN), x -> x.copy(2, MAX), x -> x.copy(2, -1),
            x -> x.copy(2, -32), x -> x.copy(5, 4), x -> x.copy(3, 8));
        Twins.refuse("copy with all pages hidden", Check.ARGUMENT, RICH,
            x -> x.copy(2, 31), x -> x.copy(3, 7), x -> x.copy(5, 3));
        Twins.refuse("copy if there have been 16", Check.STATE, ALL_COPIES,
            x -> x.copy(1, 0), x -> x.copy(3, 30));
        Twins.refuse("copy with a wrong argument, if there have been 16", Check.ARGUMENT, ALL_COPIES,
            x -> x.copy(0, 0), x -> x.copy(1, 31), x -> x.copy(1, 32));
        Twins.refuse("copy of no node, if there have been 16", Check.INDEX, ALL_COPIES,
            x -> x.copy(2, 0), x -> x.copy(4, 0));
    }

    private static void copyPart() {
        Twins.refuse("copyPart of no copy, whatever else is wrong", Check.INDEX, RICH,
            x -> x.copyPart(-1, 0), x -> x.copyPart(3, 0), x -> x.copyPart(1, 0), x -> x.copyPart(16, 0),
            x -> x.copyPart(MIN, 0), x -> x.copyPart(MAX, 0), x -> x.copyPart(3, 4), x -> x.copyPart(1, -1));
        Twins.refuse("copyPart with what out of range", Check.ARGUMENT, RICH,
            x -> x.copyPart(0, -1), x -> x.copyPart(0, 4), x -> x.copyPart(2, MIN), x -> x.copyPart(2, MAX));
        Twins.refuse("copyPart of no copy", Check.INDEX, ALL_COPIES, x -> x.copyPart(15, 0), x -> x.copyPart(16, 0));
    }

    private static void setSeats() {
        Twins.refuse("setSeats out of range", Check.ARGUMENT, RICH,
            x -> x.setSeats(0), x -> x.setSeats(7), x -> x.setSeats(-1), x -> x.setSeats(MIN), x -> x.setSeats(MAX));
    }

    private static void request() {
        Twins.refuse("request of no reader or node, whatever else is wrong", Check.INDEX, RICH,
            x -> x.request(-1, 2, 500), x -> x.request(8, 2, 500), x -> x.request(MIN, 2, 500),
            x -> x.request(MAX, 2, 500), x -> x.request(0, -1, 500), x -> x.request(0, 7, 500),
            x -> x.request(0, 6, 500), x -> x.request(0, 40, 500), x -> x.request(0, MIN, 500),
            x -> x.request(0, MAX, 500), x -> x.request(8, 0, 500), x -> x.request(-1, 2, -1),
            x -> x.request(0, 7, 10000), x -> x.request(8, 7, -1), x -> x.request(8, 2, 0));
        Twins.refuse("request of what is no unit, or on a day out of range", Check.ARGUMENT, RICH,
            x -> x.request(0, 0, 500), x -> x.request(7, 1, 500), x -> x.request(0, 4, 500), x -> x.request(0, 4, -1),
            x -> x.request(0, 2, -1), x -> x.request(7, 2, 10000), x -> x.request(0, 2, MIN),
            x -> x.request(0, 2, MAX));
    }

    private static void requestOf30() {
        Twins.refuse("request if there are 30", Check.STATE, ALL_REQUESTS,
            x -> x.request(0, 1, 9999), x -> x.request(7, 2, 0));
        Twins.refuse("request that is refused, if there are 30: no report", Check.STATE, ALL_REQUESTS,
            x -> x.request(0, 1, 100), x -> x.request(1, 1, 129));
        Twins.refuse("request with a wrong argument, if there are 30", Check.ARGUMENT, ALL_REQUESTS,
            x -> x.request(0, 0, 500), x -> x.request(0, 4, 500), x -> x.request(0, 1, -1),
            x -> x.request(0, 1, 10000));
        Twins.refuse("request of no reader or node, if there are 30", Check.INDEX, ALL_REQUESTS,
            x -> x.request(8, 1, 500), x -> x.request(-1, 1, 500), x -> x.request(0, 5, 500));
    }

    private static void requestLeavesReport() {
        Twins.refuseWithReport("request for the cause 2", RefusedRequestsTest::busyDay, x -> x.request(1, 4, 20),
            1, 4, 2, 1);
        Twins.refuseWithReport("request for the cause 3", RefusedRequestsTest::busyDay, x -> x.request(4, 1, 20),
            1, 1, 3, 20);
        Twins.refuseWithReport("request for the cause 4", RICH, x -> x.request(0, 2, 350), 1, 2, 4, 1, 8, 1);
        Twins.refuseWithReport("request for the cause 5", RICH, x -> x.request(0, 2, 420), 1, 2, 5, 1, 8, 1);
        Twins.refuseWithReport("request for the cause 6", RefusedRequestsTest::busyDay, x -> x.request(2, 4, 20),
            1, 4, 6, 4, 8, 0);
        Twins.refuseWithReport("request for the cause 7", RICH, x -> x.request(1, 2, 430), 1, 2, 7, 1, 8, 1);
    }

    /** Three readers with a seat on the day 20, reader 1 with three requests; the unit 4 is in no container. */
    private static FindingAid busyDay() {
        FindingAid aid = Make.shelved(5, 2);
        aid.takeOut(4);
        aid.request(1, 1, 20);
        aid.request(1, 2, 20);
        aid.request(1, 3, 20);
        aid.copy(1, 1);
        aid.request(2, 5, 20);
        aid.request(3, 1, 20);
        return aid;
    }

    private static void requestPart() {
        Twins.refuse("requestPart of no request, whatever else is wrong", Check.INDEX, RICH,
            x -> x.requestPart(-1, 0), x -> x.requestPart(4, 0), x -> x.requestPart(30, 0), x -> x.requestPart(MIN, 0),
            x -> x.requestPart(MAX, 0), x -> x.requestPart(4, 5), x -> x.requestPart(-1, -1));
        Twins.refuse("requestPart with what out of range", Check.ARGUMENT, RICH,
            x -> x.requestPart(0, -1), x -> x.requestPart(0, 5), x -> x.requestPart(3, MIN),
            x -> x.requestPart(3, MAX));
        Twins.refuse("requestPart of the 31st", Check.INDEX, ALL_REQUESTS, x -> x.requestPart(30, 0));
    }

    private static void cancel() {
        Twins.refuse("cancel of no request", Check.INDEX, RICH,
            x -> x.cancel(-1), x -> x.cancel(4), x -> x.cancel(30), x -> x.cancel(MIN), x -> x.cancel(MAX));
        Twins.refuse("cancel of the 31st", Check.INDEX, ALL_REQUESTS, x -> x.cancel(30));
        Twins.refuse("cancel of the first of none", Check.INDEX, FindingAid::new, x -> x.cancel(0));
    }

    private static void account() {
        Twins.refuse("account with what out of range", Check.ARGUMENT, RICH,
            x -> x.account(-1), x -> x.account(10), x -> x.account(MIN), x -> x.account(MAX));
    }

    private static void dayCount() {
        Twins.refuse("dayCount with the day or what out of range", Check.ARGUMENT, RICH,
            x -> x.dayCount(-1, 0), x -> x.dayCount(10000, 0), x -> x.dayCount(MIN, 0), x -> x.dayCount(MAX, 0),
            x -> x.dayCount(0, -1), x -> x.dayCount(0, 4), x -> x.dayCount(400, MIN), x -> x.dayCount(400, MAX),
            x -> x.dayCount(-1, 4));
    }

    private static void openShare() {
        Look.Asked[] days = {x -> x.openShare(-1), x -> x.openShare(10000), x -> x.openShare(MIN),
            x -> x.openShare(MAX)};
        Twins.refuse("openShare on a day out of range", Check.ARGUMENT, RICH, days);
        Twins.refuse("openShare on a day out of range, without units", Check.ARGUMENT, RefusedRequestsTest::noUnits,
            days);
        Twins.refuse("openShare without units", Check.ARITHMETIC, RefusedRequestsTest::noUnits,
            x -> x.openShare(0), x -> x.openShare(9999));
        Twins.refuse("openShare of the root alone", Check.ARITHMETIC, FindingAid::new, x -> x.openShare(0));
    }

    private static FindingAid noUnits() {
        FindingAid aid = Make.units(2, 0);
        aid.add(0, 3, 1, 5, 5);
        aid.remove(3);
        return aid;
    }
}
