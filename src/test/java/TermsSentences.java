/** Each sentence of the document's "Terms" that names a boundary case, with a test of its own; worked out by hand. */
public final class TermsSentences extends Sentences {
    // ---- Conventions

    /** "An object is used for at most 512 calls after it has been made." */
    static void theLastOf512CallsStillCounts() {
        BookedDetours x = road(0, 10);
        for (int call = 3; call < 511; call += 2) {
            x.book(0, 1, 0, 900);
            x.undo();
        }
        due("call 511, book", x.book(0, 1, 0, 900), 0);
        due("call 512, count(4)", x.count(4), 12);
    }

    /** A day with a ride that is done, one aboard, one booked, one cancelled, and a pad with a fault. */
    private static BookedDetours busyDay() {
        BookedDetours x = road(0, 10, 20);
        x.book(0, 1, 0, 900);
        x.book(1, 2, 40, 900);
        x.book(2, 1, 0, 900);
        x.book(0, 2, 300, 900);
        x.save(0);
        x.cancel(2);
        x.pass(41);
        put(x, "0>1@0-9x");
        return x;
    }

    /** "A call that returns an error changes nothing." */
    static void anErrorChangesNothing() {
        BookedDetours x = busyDay();
        int[] stands = {2, 1, 3, 0};
        for (int ride = 0; ride < 4; ride++) due("ride(" + ride + ", 4)", x.ride(ride, 4), stands[ride]);
        changesNothing("set(0, 9)", d -> d.set(0, 9), BAD_VALUE, busyDay(), busyDay());
        changesNothing("set(0, 1)", d -> d.set(0, 1), NOT_POSSIBLE, busyDay(), busyDay());
        changesNothing("stop(0, 31)", d -> d.stop(0, 31), BAD_VALUE, busyDay(), busyDay());
        changesNothing("book(0, 3, ..)", d -> d.book(0, 3, 0, 900), NO_SUCH, busyDay(), busyDay());
        changesNothing("book(0, 0, ..)", d -> d.book(0, 0, 0, 900), BAD_VALUE, busyDay(), busyDay());
        changesNothing("book(.., 0)", d -> d.book(0, 1, 0, 0), NOT_POSSIBLE, busyDay(), busyDay());
        changesNothing("cancel(4)", d -> d.cancel(4), NO_SUCH, busyDay(), busyDay());
        changesNothing("cancel(1)", d -> d.cancel(1), NOT_POSSIBLE, busyDay(), busyDay());
        changesNothing("pass(41)", d -> d.pass(41), BAD_VALUE, busyDay(), busyDay());
        changesNothing("pass(2001)", d -> d.pass(2001), BAD_VALUE, busyDay(), busyDay());
        changesNothing("miss(4)", d -> d.miss(4), NO_SUCH, busyDay(), busyDay());
        changesNothing("miss(3)", d -> d.miss(3), NOT_POSSIBLE, busyDay(), busyDay());
        changesNothing("bookAll()", d -> d.bookAll(), BAD_TEXT, busyDay(), busyDay());
        changesNothing("put(32)", d -> d.put(0x6120L), BAD_VALUE, busyDay(), busyDay());
        changesNothing("save(2)", d -> d.save(2), BAD_VALUE, busyDay(), busyDay());
        changesNothing("restore(2)", d -> d.restore(2), BAD_VALUE, busyDay(), busyDay());
        changesNothing("restore(1)", d -> d.restore(1), NOT_POSSIBLE, busyDay(), busyDay());
    }

    /** A day with 12 stops, 16 rides and a pad of 60 characters. */
    private static BookedDetours fullDay() {
        BookedDetours x = road(0, 1, 2, 3, 4, 5, 6, 7, 8, 9, 10, 11);
        for (int ride = 0; ride < 16; ride++) {
            x.book(0, 1, 0, 900);
            if (ride > 0) x.cancel(ride);
        }
        x.save(0);
        for (int i = 0; i < 6; i++) put(x, "0>1@0-900;");
        return x;
    }

    /** "A call that returns an error changes nothing": TOO_MANY, too. */
    static void tooManyChangesNothing() {
        changesNothing("stop", d -> d.stop(0, 0), TOO_MANY, fullDay(), fullDay());
        changesNothing("book", d -> d.book(0, 1, 0, 900), TOO_MANY, fullDay(), fullDay());
        changesNothing("put", d -> d.put('1'), TOO_MANY, fullDay(), fullDay());
    }

    /** "NONE (-6) is not an error; it is returned only if no error applies." */
    static void noneOnlyIfNoErrorApplies() {
        BookedDetours x = road(0, 10);
        x.book(0, 1, 0, 900);
        x.cancel(0);
        due("never picked up", x.ride(0, 5), NONE);
        due("no such ride, never picked up", x.ride(1, 5), NO_SUCH);
        due("cannot be booked", x.ifBooked(0, 1, 0, 0, 0), NONE);
        due("cannot be booked, no such what", x.ifBooked(0, 1, 0, 0, 4), BAD_VALUE);
        due("cannot be booked, no such stop", x.ifBooked(0, 2, 0, 0, 0), NO_SUCH);
        due("no booked ride", x.dearest(0), NONE);
        due("no booked ride, no such what", x.dearest(2), BAD_VALUE);
        x.pass(1000);
        due("no time", x.earliestBy(0, 1, 0), NONE);
        due("no time, wait out of range", x.earliestBy(0, 1, 601), BAD_VALUE);
    }

    /** "Everything is numbered from 0." */
    static void numbersBeginWith0() {
        BookedDetours x = new BookedDetours();
        due("the first stop", x.stop(7, 8), 0);
        x.stop(9, 9);
        due("coordinate(0, 0)", x.coordinate(0, 0), 7);
        due("the first ride", x.book(0, 1, 0, 900), 0);
        due("ride(0, 0)", x.ride(0, 0), 0);
        due("ride(0, 1)", x.ride(0, 1), 1);
        due("visit(0, 0)", x.visit(0, 0), 0);
        due("the first slot", x.save(0), 1);
        due("the first character", faultOf("x"), 0);
    }

    // ---- Settings

    /** "SEATS (1 to 8; ..)". */
    static void seatsAre1To8() {
        BookedDetours x = new BookedDetours();
        for (int value : new int[] {MIN, -1, 0, 9, MAX}) due("set(0, " + value + ")", x.set(0, value), BAD_VALUE);
        due("set(0, 1)", x.set(0, 1), 3);
        due("count(9)", x.count(9), 1);
        due("set(0, 8)", x.set(0, 8), 1);
        due("count(9)", x.count(9), 8);
    }

    /** "SEATS (..; 3)". */
    static void seatsAre3AtFirst() {
        due("count(9)", new BookedDetours().count(9), 3);
        due("set(0, 5)", new BookedDetours().set(0, 5), 3);
    }

    /** "SLACK (0 to 60; ..)". */
    static void slackIs0To60() {
        BookedDetours x = new BookedDetours();
        for (int value : new int[] {MIN, -1, 61, MAX}) due("set(1, " + value + ")", x.set(1, value), BAD_VALUE);
        due("set(1, 0)", x.set(1, 0), 10);
        due("count(10)", x.count(10), 0);
        due("set(1, 60)", x.set(1, 60), 0);
        due("count(10)", x.count(10), 60);
    }

    /** "SLACK (..; 10)". */
    static void slackIs10AtFirst() {
        due("count(10)", new BookedDetours().count(10), 10);
        due("set(1, 5)", new BookedDetours().set(1, 5), 10);
    }

    /** "STOPPING (0 to 5; ..)". */
    static void stoppingIs0To5() {
        BookedDetours x = new BookedDetours();
        for (int value : new int[] {MIN, -1, 6, MAX}) due("set(2, " + value + ")", x.set(2, value), BAD_VALUE);
        due("set(2, 0)", x.set(2, 0), 1);
        due("count(11)", x.count(11), 0);
        due("set(2, 5)", x.set(2, 5), 0);
        due("count(11)", x.count(11), 5);
    }

    /** "STOPPING (..; 1)". */
    static void stoppingIs1AtFirst() {
        due("count(11)", new BookedDetours().count(11), 1);
        due("set(2, 5)", new BookedDetours().set(2, 5), 1);
    }

    /** "at no time more than SEATS rides are aboard": 8 of them, and no ninth; 1, and no second. */
    static void asManyAsSeatsAreAboard() {
        for (int seats : new int[] {1, 8}) {
            BookedDetours x = roadWith(seats, 60, 0, 0, 10);
            for (int ride = 0; ride < seats; ride++) due("book", x.book(0, 1, 0, 10), ride);
            due("aboard at most", x.visit(seats - 1, 4), seats);
            due("one more than the seats", x.book(0, 1, 0, 10), NOT_POSSIBLE);
            due("one more, later", x.book(0, 1, 0, 30), seats);
        }
    }

    /** A day on which ride 0 (from 0 to 1, by 70) takes 60 minutes more than straight if a ride from 0 to 2 ends first. */
    private static BookedDetours detour(int slack) {
        BookedDetours x = new BookedDetours();
        x.stop(0, 0);
        x.stop(10, 0);
        x.stop(5, 30);
        x.set(1, slack);
        x.set(2, 0);
        x.book(0, 1, 0, 70);
        return x;
    }

    /** "SLACK: minutes by which a ride may be longer than the straight one": so many, and not one more. */
    static void aRideMayBeLongerBySlack() {
        due("60 of 60", detour(60).ifBooked(0, 2, 0, 35, 3), 2);
        due("60 of 59", detour(59).ifBooked(0, 2, 0, 35, 3), 0);
    }

    /** "SLACK: minutes by which a ride may be longer than the straight one": not at all with 0. */
    static void withoutSlackARideIsStraight() {
        BookedDetours x = roadWith(3, 0, 0, 0, 10, 20);
        x.book(0, 2, 0, 20);
        due("past a stop on the way", x.ifBooked(0, 1, 0, 10, 3), 2);
        x = roadWith(3, 0, 1, 0, 10, 20);
        x.book(0, 2, 0, 900);
        // Only ahead or behind as a whole: to stop on the way would take a minute.
        due("with a visit there", x.ifBooked(0, 1, 0, 900, 3), 2);
        x = roadWith(3, 1, 1, 0, 10, 20);
        x.book(0, 2, 0, 900);
        due("with a slack of that minute", x.ifBooked(0, 1, 0, 900, 3), 3);
    }

    /** "STOPPING: minutes that each visit takes." */
    static void eachVisitTakesStopping() {
        for (int stopping : new int[] {0, 5}) {
            BookedDetours x = roadWith(3, 10, stopping, 0, 10);
            x.book(0, 1, 0, 900);
            dueTimes(x, 0, 10 + stopping);
            due("count(4)", x.count(4), 10 + 2 * stopping);
        }
    }

    // ---- Stops, rides

    /** "There are up to 12 stops". */
    static void stopsAreUpTo12() {
        BookedDetours x = new BookedDetours();
        for (int stop = 0; stop < 12; stop++) due("stop", x.stop(stop, 30 - stop), stop);
        due("stop 12", x.stop(12, 0), TOO_MANY);
        due("count(0)", x.count(0), 12);
        due("coordinate(11, 0)", x.coordinate(11, 0), 11);
        due("coordinate(11, 1)", x.coordinate(11, 1), 19);
        due("from the last one", x.book(11, 0, 0, 900), 0);
        due("visit(0, 3)", x.visit(0, 3), 22);
    }

    /** "numbered in the order in which they were told". */
    static void stopsAreNumberedAsTold() {
        BookedDetours x = road(20, 5, 10);
        due("stop 0", x.coordinate(0, 0), 20);
        due("stop 1", x.coordinate(1, 0), 5);
        due("stop 2", x.coordinate(2, 0), 10);
    }

    /** "each at two coordinates, 0 to 30". */
    static void coordinatesAre0To30() {
        BookedDetours x = new BookedDetours();
        for (int value : new int[] {MIN, -1, 31, MAX}) {
            due("stop(" + value + ", 0)", x.stop(value, 0), BAD_VALUE);
            due("stop(0, " + value + ")", x.stop(0, value), BAD_VALUE);
        }
        due("stop(0, 30)", x.stop(0, 30), 0);
        due("stop(30, 0)", x.stop(30, 0), 1);
        due("coordinate(0, 0)", x.coordinate(0, 0), 0);
        due("coordinate(0, 1)", x.coordinate(0, 1), 30);
        due("coordinate(1, 0)", x.coordinate(1, 0), 30);
        due("coordinate(1, 1)", x.coordinate(1, 1), 0);
    }

    /** "To drive from one stop to another one takes as many minutes as both coordinates differ by, together." */
    static void drivingIsBothDifferencesTogether() {
        int[][] pairs = {{0, 0, 30, 30, 60}, {30, 30, 0, 0, 60}, {0, 30, 30, 0, 60}, {4, 9, 1, 11, 5}, {8, 8, 8, 8, 0}};
        for (int[] pair : pairs) {
            BookedDetours x = new BookedDetours();
            x.stop(pair[0], pair[1]);
            x.stop(pair[2], pair[3]);
            x.book(0, 1, 0, 900);
            due("ride(0, 7)", x.ride(0, 7), pair[4]);
            due("count(7)", x.count(7), pair[4]);
            due("visit(1, 3)", x.visit(1, 3), pair[4] + 1);
        }
    }

    /** "The bus is at the stop 0 at the time 0." */
    static void theBusBeginsAtStop0AtTime0() {
        BookedDetours x = road(30, 10, 0);
        due("count(4)", x.count(4), 0);
        due("a ride from the stop 0", x.ifBooked(0, 1, 0, 900, 1), 0);
        due("a ride from the stop 1", x.ifBooked(1, 2, 0, 900, 1), 20);
        due("a ride from the stop 2", x.ifBooked(2, 1, 0, 900, 1), 30);
    }

    /** "There are up to 16 rides": however they stand. */
    static void ridesAreUpTo16() {
        BookedDetours x = road(0, 10);
        for (int ride = 0; ride < 16; ride++) {
            due("book", x.book(0, 1, 0, 900), ride);
            if (ride % 2 == 0) x.cancel(ride);
        }
        due("a 17th one", x.book(0, 1, 0, 900), TOO_MANY);
        due("count(1)", x.count(1), 16);
        due("ride(15, 4)", x.ride(15, 4), 0);
        due("ride(16, 4)", x.ride(16, 4), NO_SUCH);
    }

    /** "There are up to 16 rides": all of them may be in the route, 32 visits. */
    static void all16RidesMayBeInTheRoute() {
        BookedDetours x = roadWith(8, 60, 0, 0, 10);
        for (int ride = 0; ride < 16; ride++) due("book", x.book(0, 1, 0, 900), ride);
        due("count(2)", x.count(2), 32);
        due("over", x.count(4), 30);
        due("the last visit", x.visit(31, 3), 30);
        due("behind the last visit", x.visit(32, 3), NO_SUCH);
        due("set down by 10, or by 30", x.ride(0, 6) + x.ride(15, 6), 40);
    }

    /** "numbered in the order in which they were booked (a ride keeps its number)". */
    static void aRideKeepsItsNumber() {
        BookedDetours x = road(0, 10, 20);
        x.book(0, 1, 0, 900);
        x.book(1, 2, 0, 900);
        x.cancel(0);
        due("the next one", x.book(2, 0, 0, 900), 2);
        due("ride(0, 0)", x.ride(0, 0), 0);
        due("ride(1, 0)", x.ride(1, 0), 1);
        due("ride(2, 0)", x.ride(2, 0), 2);
        due("count(1)", x.count(1), 3);
    }

    /** "A ride has a stop where it begins, another one where it ends". */
    static void aRideEndsAtAnotherStop() {
        BookedDetours x = new BookedDetours();
        x.stop(5, 5);
        x.stop(5, 5);
        due("the same stop", x.book(1, 1, 0, 900), BAD_VALUE);
        due("another stop, though it is at the same place", x.book(0, 1, 0, 900), 0);
        due("ride(0, 7)", x.ride(0, 7), 0);
    }

    /** "a time from which on somebody waits (0 to 600)". */
    static void waitIs0To600() {
        BookedDetours x = road(0, 10);
        for (int wait : new int[] {MIN, -1, 601, MAX}) due("wait " + wait, x.book(0, 1, wait, 900), BAD_VALUE);
        due("wait 0", x.book(0, 1, 0, 900), 0);
        due("wait 600", x.book(0, 1, 600, 900), 1);
        due("ride(0, 2)", x.ride(0, 2), 0);
        due("ride(1, 2)", x.ride(1, 2), 600);
        due("ride(1, 5)", x.ride(1, 5), 600);
    }

    /** "a time by which they must be there (0 to 900)". */
    static void byIs0To900() {
        BookedDetours x = roadWith(3, 10, 0, 5, 5);
        for (int by : new int[] {MIN, -1, 901, MAX}) due("by " + by, x.book(0, 1, 0, by), BAD_VALUE);
        due("by 0", x.book(0, 1, 0, 0), 0);
        due("by 900", x.book(0, 1, 0, 900), 1);
        due("ride(0, 3)", x.ride(0, 3), 0);
        due("ride(1, 3)", x.ride(1, 3), 900);
    }

    /** "A ride is booked (0), aboard (1), done (2), cancelled (3), or missed (4)." */
    static void howARideStands() {
        BookedDetours x = road(0, 10);
        x.book(0, 1, 0, 900);
        due("booked", x.ride(0, 4), 0);
        x.cancel(0);
        due("cancelled", x.ride(0, 4), 3);
        x.undo();
        x.pass(1);
        due("aboard", x.ride(0, 4), 1);
        x.miss(0);
        due("missed", x.ride(0, 4), 4);
        x.undo();
        x.pass(12);
        due("done", x.ride(0, 4), 2);
    }

    /** The constants: error codes, NONE, the settings, and how a ride stands. */
    static void constants() throws ReflectiveOperationException {
        String[] names = {"NO_SUCH", "BAD_VALUE", "BAD_TEXT", "TOO_MANY", "NOT_POSSIBLE", "NONE", "SEATS", "SLACK", "STOPPING",
            "BOOKED", "ABOARD", "DONE", "CANCELLED", "MISSED"};
        int[] want = {-1, -2, -3, -4, -5, -6, 0, 1, 2, 0, 1, 2, 3, 4};
        for (int i = 0; i < names.length; i++) due(names[i], BookedDetours.class.getField(names[i]).getInt(null), want[i]);
    }

    // ---- Route, times

    /** "The route is the row of visits that are to come": those that were made are not in it. */
    static void theRouteIsWhatIsToCome() {
        BookedDetours x = road(0, 10);
        dueRoute(x);
        x.book(0, 1, 0, 900);
        dueRoute(x, 0, -1);
        x.pass(1);
        dueRoute(x, -1);
        x.pass(12);
        dueRoute(x);
    }

    /** "to pick up it waits until the time from which on somebody waits": not if that is now or was before. */
    static void itWaitsForWhoIsNotThereYet() {
        int[][] due = {{9, 10, 0, 21}, {10, 10, 0, 21}, {11, 11, 1, 22}};
        for (int[] one : due) {
            BookedDetours x = road(0, 10, 20);
            x.book(1, 2, one[0], 900);
            due("visit(0, 3), waits from " + one[0], x.visit(0, 3), one[1]);
            due("visit(0, 5), waits from " + one[0], x.visit(0, 5), one[2]);
            due("visit(1, 3), waits from " + one[0], x.visit(1, 3), one[3]);
            due("count(8), waits from " + one[0], x.count(8), one[2]);
        }
    }

    /** "Then the visit takes STOPPING; it is over then, and the bus drives on." */
    static void theBusDrivesOnWhenAVisitIsOver() {
        BookedDetours x = roadWith(3, 10, 3, 0, 10, 20);
        x.book(0, 1, 4, 900);
        x.book(1, 2, 0, 900);
        dueRoute(x, 0, 1, -1, -2);
        dueTimes(x, 4, 17, 20, 33);
        due("count(4)", x.count(4), 36);
    }

    /** "(Visits one after the other at the same stop are visits of their own.)" */
    static void visitsAtOneStopAreVisitsOfTheirOwn() {
        BookedDetours x = roadWith(3, 10, 2, 0, 10);
        x.book(0, 1, 0, 900);
        x.book(0, 1, 0, 900);
        dueRoute(x, 1, 0, -2, -1);
        dueTimes(x, 0, 2, 14, 16);
        due("count(4)", x.count(4), 18);
        due("count(7)", x.count(7), 10);
        due("only the first one is over", x.pass(1), 1);
    }

    /** "The time of a visit is that at which it begins: behind driving and waiting." */
    static void theTimeOfAVisitIsWhenItBegins() {
        BookedDetours x = roadWith(3, 10, 5, 0, 10, 20);
        x.book(1, 2, 30, 900);
        dueTimes(x, 30, 45);
        due("ride(0, 5)", x.ride(0, 5), 30);
        due("ride(0, 6)", x.ride(0, 6), 45);
        due("count(4)", x.count(4), 50);
    }

    /** "at the stop at which it was last (.. at the time at which it was free there: when its last visit was over". */
    static void itLeavesWhereAndWhenItsLastVisitWasOver() {
        BookedDetours x = roadWith(3, 10, 5, 0, 10, 20);
        x.book(0, 1, 0, 900);
        x.pass(16);
        due("the last visit is over at", x.count(4), 20);
        x.book(2, 0, 0, 900);
        due("from the stop 1, from 20 on", x.visit(0, 3), 30);
        due("count(7)", x.count(7), 30);
    }

    /** "but if the route was empty when its first visit was put in, at the now of then, if that is later". */
    static void itLeavesAtTheNowOfABookingIntoTheEmptyRoute() {
        for (int now : new int[] {19, 20, 21}) {
            BookedDetours x = roadWith(3, 10, 5, 0, 10, 20);
            x.book(0, 1, 0, 900);
            x.pass(now);
            due("empty, free at", x.count(4), 20);
            x.book(1, 2, 0, 900);
            due("visit(0, 3), booked at " + now, x.visit(0, 3), Math.max(20, now));
            x.cancel(1);
            due("count(4), cancelled", x.count(4), Math.max(20, now));
        }
    }

    /** "if the route was empty when its first visit was put in": a booking into a route with visits does not count. */
    static void itDoesNotLeaveAnewForALaterBooking() {
        BookedDetours x = road(0, 10, 20);
        x.pass(50);
        x.book(1, 2, 0, 900);
        x.pass(55);
        x.book(1, 2, 0, 900);
        due("it left at 50", x.visit(0, 3), 60);
        due("count(7)", x.count(7), 20);
    }

    /** The now of asking is not the now of booking: a question leaves the bus where it is. */
    static void aQuestionDoesNotLetTheBusLeave() {
        BookedDetours x = road(0, 10);
        x.pass(50);
        due("ifBooked", x.ifBooked(0, 1, 0, 900, 1), 50);
        due("earliestBy", x.earliestBy(0, 1, 0), 61);
        due("not booked", x.book(0, 1, 0, 60), NOT_POSSIBLE);
        due("count(4)", x.count(4), 0);
    }

    /** "The bus is on its way if .. now is later than the time at which it leaves for the first visit." */
    static void onItsWayOnlyBehindTheTimeOfLeaving() {
        BookedDetours x = roadWith(3, 10, 5, 0, 10, 20);
        x.book(0, 1, 0, 900);
        x.book(1, 2, 60, 900);
        x.pass(20);
        dueTimes(x, 60, 75);
        due("it leaves now: ahead of the first visit", x.ifBooked(1, 2, 0, 900, 1), 20);
        x.pass(21);
        due("it has left: behind the first visit", x.ifBooked(1, 2, 0, 900, 1), 65);
    }

    /** "The bus is on its way if the route is not empty". */
    static void notOnItsWayWithoutVisits() {
        BookedDetours x = road(0, 10);
        x.pass(50);
        due("the first place is free", x.ifBooked(0, 1, 0, 900, 3), 1);
        due("book", x.book(0, 1, 0, 900), 0);
        dueRoute(x, 0, -1);
        dueTimes(x, 50, 61);
        x.cancel(0);
        due("it did not leave", x.ifBooked(0, 1, 0, 900, 1), 50);
    }

    /** "Then nothing can be put into the route ahead of the first visit." */
    static void nothingAheadOfTheFirstVisitOnceOnItsWay() {
        BookedDetours x = road(0, 10, 20);
        x.book(1, 2, 0, 900);
        due("ways at 0", x.ifBooked(0, 1, 0, 900, 3), 3);
        x.pass(1);
        due("ways at 1", x.ifBooked(0, 1, 0, 900, 3), 1);
        due("right behind it", x.ifBooked(1, 2, 0, 900, 1), 11);
        x.book(0, 1, 0, 900);
        dueRoute(x, 0, -1, 1, -2);
    }

    /** "If the first visit leaves the route while the bus is on its way (by cancel() ..), it drives there all the same". */
    static void itDrivesToAFirstVisitThatIsCancelled() {
        BookedDetours x = road(0, 10, 20);
        x.book(1, 2, 0, 900);
        x.pass(9);
        due("cancel(0)", x.cancel(0), 0);
        due("it is free when it comes there", x.count(4), 10);
        due("from there", x.ifBooked(1, 2, 0, 900, 1), 10);
    }

    /** "(.. or miss()), it drives there all the same". */
    static void itDrivesToAFirstVisitThatIsMissed() {
        BookedDetours x = road(0, 10, 20);
        x.book(0, 1, 0, 900);
        x.pass(5);
        due("miss(0)", x.miss(0), 0);
        due("it is free when it comes there", x.count(4), 11);
        due("from there", x.ifBooked(1, 2, 0, 900, 1), 11);
    }

    /** "it is free at this stop when it comes there (without waiting and stopping)". */
    static void itDoesNotWaitOrStopForAVisitThatLeft() {
        BookedDetours x = roadWith(3, 10, 5, 0, 10, 20);
        x.book(1, 2, 50, 900);
        x.pass(9);
        x.cancel(0);
        due("count(4)", x.count(4), 10);
        due("count(8)", x.count(8), 0);
    }

    /** "or now, if that is later". */
    static void itIsFreeNowIfItWasThereAlready() {
        int[][] due = {{9, 10}, {10, 10}, {11, 11}, {50, 50}};
        for (int[] one : due) {
            BookedDetours x = road(0, 10, 20);
            x.book(1, 2, 50, 900);
            x.pass(one[0]);
            due("cancel(0)", x.cancel(0), 0);
            due("count(4), cancelled at " + one[0], x.count(4), one[1]);
            due("from there, cancelled at " + one[0], x.ifBooked(1, 2, 0, 900, 1), one[1]);
        }
    }

    /** "while the bus is on its way": if it leaves just now, it stays where it is. */
    static void itStaysIfTheFirstVisitLeavesInTime() {
        BookedDetours x = road(0, 10, 20);
        x.book(1, 2, 50, 900);
        x.cancel(0);
        due("count(4)", x.count(4), 0);
        due("still at the stop 0", x.ifBooked(0, 1, 0, 900, 1), 0);
        x = road(0, 10, 20);
        x.book(0, 1, 0, 900);
        x.pass(1);
        due("miss(0), as it leaves", x.miss(0), 0);
        due("count(4)", x.count(4), 1);
        due("still at the stop 0", x.ifBooked(0, 1, 0, 900, 1), 1);
    }

    /** "If the first visit leaves the route": another one that leaves changes nothing ahead of it. */
    static void aLaterVisitMayLeave() {
        BookedDetours x = road(0, 10, 20);
        x.book(1, 2, 0, 900);
        x.book(2, 0, 0, 900);
        dueRoute(x, 0, 1, -1, -2);
        x.pass(5);
        due("cancel(1)", x.cancel(1), 2);
        dueTimes(x, 10, 21);
        due("count(7)", x.count(7), 20);
    }

    /** "it drives there all the same": the other visits follow from there. */
    static void theOthersFollowFromWhereItDroveTo() {
        BookedDetours x = road(0, 10, 20);
        x.book(1, 2, 0, 900);
        x.book(0, 1, 40, 900);
        dueRoute(x, 0, -1, 1, -2);
        x.pass(3);
        due("cancel(0)", x.cancel(0), 2);
        due("it is free at 10 at the stop 1, and waits from 20 to 40", x.visit(0, 5), 20);
        due("count(7)", x.count(7), 20);
        due("it has not left there: ahead", x.ifBooked(1, 0, 0, 900, 1), 10);
    }

    /** "of all rides whose visits are in it, at no time more than SEATS": who is aboard already counts. */
    static void whoIsAboardTakesASeat() {
        int[][] ways = {{1, 1}, {2, 3}};
        for (int[] one : ways) {
            BookedDetours x = roadWith(one[0], 60, 5, 0, 5);
            x.book(0, 1, 0, 900);
            x.pass(1);
            due("ways with " + one[0] + " seats", x.ifBooked(0, 1, 0, 900, 3), one[1]);
        }
    }

    /** "of all rides whose visits are in it": who was missed does not count. */
    static void whoWasMissedTakesNoSeat() {
        BookedDetours x = roadWith(1, 10, 1, 0, 5);
        x.book(0, 1, 0, 900);
        x.pass(1);
        x.miss(0);
        due("book", x.book(0, 1, 0, 900), 1);
        due("visit(0, 4)", x.visit(0, 4), 1);
    }

    /** "(at a visit that sets down there is one less from then on)". */
    static void whoIsSetDownLeavesTheirSeat() {
        BookedDetours x = roadWith(1, 10, 0, 0, 5);
        x.book(0, 1, 0, 900);
        due("ways", x.ifBooked(1, 0, 0, 900, 3), 2);
        x.book(1, 0, 0, 900);
        dueRoute(x, 0, -1, 1, -2);
        dueTimes(x, 0, 5, 5, 10);
        due("visit(1, 4)", x.visit(1, 4), 0);
        due("visit(2, 4)", x.visit(2, 4), 1);
    }

    /** "each ride is set down at a visit whose time is not later than the time by which it must be there". */
    static void setDownAtTheTimeItselfIsInTime() {
        due("by 10", road(0, 10).book(0, 1, 0, 10), NOT_POSSIBLE);
        due("by 11", road(0, 10).book(0, 1, 0, 11), 0);
        due("by 610", road(0, 10).book(0, 1, 600, 610), NOT_POSSIBLE);
        due("by 611", road(0, 10).book(0, 1, 600, 611), 0);
    }

    /** "each ride": those that were booked before, too. */
    static void theOthersAreSetDownInTimeToo() {
        int[][] ways = {{21, 1}, {22, 1}, {23, 3}};
        for (int[] one : ways) {
            BookedDetours x = road(0, 10, 20);
            x.book(0, 2, 0, one[0]);
            due("ways, the other one by " + one[0], x.ifBooked(0, 1, 0, 900, 3), one[1]);
        }
    }

    /** "from the end of the visit that picks it up to the time of that which sets it down .. not more minutes than ..". */
    static void aRideLastsFromTheEndOfItsFirstVisit() {
        int[][] ways = {{5, 0}, {6, 1}, {7, 1}, {8, 2}};
        for (int[] one : ways) {
            BookedDetours x = new BookedDetours();
            x.stop(0, 0);
            x.stop(20, 0);
            x.stop(10, 2);
            x.set(1, one[0]);
            x.set(2, 2);
            // Ride 0 can only be in time if it is picked up ahead of or right behind the other one: at 2 or at 0.
            x.book(0, 1, 0, 30);
            due("ways with a slack of " + one[0], x.ifBooked(0, 2, 0, 16, 3), one[1]);
        }
    }

    /** The same holds of the ride that is to be booked. */
    static void theNewRideIsBoundToo() {
        int[][] ways = {{21, 1}, {22, 2}};
        for (int[] one : ways) {
            BookedDetours x = roadWith(3, one[0], 1, 0, 10, 20);
            x.book(1, 2, 0, 22);
            // With ride 0 to 20 and back to its end at 10: from 1 to 33, instead of ten minutes.
            due("ways with a slack of " + one[0], x.ifBooked(0, 1, 0, 900, 3), one[1]);
        }
    }

    /** "(Of a ride that is aboard, the end of its visit is known.)" */
    static void aRideThatIsAboardIsBoundToo() {
        int[][] ways = {{7, 1}, {8, 2}};
        for (int[] one : ways) {
            BookedDetours x = new BookedDetours();
            x.stop(0, 0);
            x.stop(20, 0);
            x.stop(10, 2);
            x.set(1, one[0]);
            x.set(2, 2);
            x.book(0, 1, 0, 900);
            x.pass(1);
            // Picked up from 0 to 2; with the other one between, set down at 30.
            due("ways with a slack of " + one[0], x.ifBooked(0, 2, 0, 900, 3), one[1]);
        }
    }

    /** Ride 1 waits aboard for ride 2; without ride 0 the bus comes earlier, and it waits too long. */
    private static BookedDetours brokenDay() {
        BookedDetours x = roadWith(3, 5, 0, 0, 30, 20);
        x.book(0, 1, 20, 100);
        x.book(1, 0, 0, 100);
        x.book(2, 0, 62, 100);
        dueTimes(x, 20, 50, 50, 62, 82, 82);
        due("cancel(0)", x.cancel(0), 4);
        return x;
    }

    /** "Cancelling can let another ride last longer than promised, as the bus comes earlier and waits". */
    static void cancellingCanLetARideLastLonger() {
        BookedDetours x = brokenDay();
        dueRoute(x, 1, 2, -3, -2);
        dueTimes(x, 30, 62, 82, 82);
        due("the ride is picked up at", x.ride(1, 5), 30);
        due("and set down at, 52 minutes later instead of 30 and 5", x.ride(1, 6), 82);
    }

    /** "the route does not keep all promises then, and nothing can be booked". */
    static void nothingCanBeBookedIntoABrokenRoute() {
        BookedDetours x = brokenDay();
        due("ways", x.ifBooked(0, 1, 500, 900, 3), 0);
        due("ifBooked", x.ifBooked(0, 1, 500, 900, 1), NONE);
        due("earliestBy", x.earliestBy(0, 1, 500), NONE);
        due("book", x.book(0, 1, 500, 900), NOT_POSSIBLE);
    }

    /** "but with visits by which it does again". */
    static void whatMendsABrokenRouteCanBeBooked() {
        BookedDetours x = brokenDay();
        due("to wait until 46 is not enough", x.ifBooked(1, 0, 46, 100, 3), 0);
        due("to wait until 47 is", x.book(1, 0, 47, 100), 3);
        due("ride(1, 5)", x.ride(1, 5), 47);
        due("then others can be booked", x.book(0, 1, 500, 900), 4);
    }

    // ---- Booking

    /** "without changing the order of the others". */
    static void theOrderOfTheOthersStays() {
        BookedDetours x = road(0, 10, 20);
        x.book(0, 2, 0, 900);
        x.book(2, 0, 30, 900);
        dueRoute(x, 0, -1, 1, -2);
        x.book(0, 1, 0, 900);
        dueRoute(x, 2, 0, -3, -1, 1, -2);
        x.book(1, 0, 30, 900);
        dueRoute(x, 2, 0, -3, -1, 1, 3, -4, -2);
    }

    /** "with the picking up ahead of the setting down". */
    static void pickedUpAheadOfBeingSetDown() {
        BookedDetours x = road(0, 10);
        due("ways", x.ifBooked(1, 0, 0, 900, 3), 1);
        x.book(1, 0, 0, 900);
        dueRoute(x, 0, -1);
        dueTimes(x, 10, 21);
    }

    /** "in the one with which the route is over earliest". */
    static void theRouteIsOverEarliest() {
        // Ahead as a whole or behind as a whole, the route would be over at 44.
        BookedDetours x = road(0, 10, 20);
        x.book(1, 2, 0, 900);
        due("ways", x.ifBooked(1, 2, 0, 900, 3), 6);
        x.book(1, 2, 0, 900);
        dueRoute(x, 1, 0, -2, -1);
        due("count(4)", x.count(4), 24);
    }

    /** "(the end of its last visit)": not when the new ride is set down. */
    static void theEndOfTheLastVisitCounts() {
        BookedDetours x = road(0, 10);
        x.book(0, 1, 0, 900);
        due("it could be there by", x.earliestBy(1, 0, 0), 21);
        x.book(1, 0, 0, 900);
        due("but it is there at", x.ride(1, 6), 23);
        due("as the route is over earlier", x.count(4), 24);
    }

    /** "of several in that in which the picking up is earliest in the row". */
    static void ofEqualsThePickingUpIsEarliest() {
        // Behind the other one it would be picked up at 30, and the route over at 52 as well.
        BookedDetours x = roadWith(1, 10, 1, 0, 10);
        x.book(0, 1, 15, 900);
        due("ways", x.ifBooked(0, 1, 0, 900, 3), 2);
        x.book(0, 1, 15, 900);
        dueRoute(x, 1, -2, 0, -1);
        due("count(4)", x.count(4), 49);
    }

    /** "of these in that in which the setting down is". */
    static void ofTheseTheSettingDownIsEarliest() {
        BookedDetours x = roadWith(3, 60, 0, 0, 0, 0);
        x.book(0, 1, 50, 900);
        due("ways", x.ifBooked(0, 2, 0, 900, 3), 6);
        x.book(0, 2, 0, 900);
        dueRoute(x, 1, -2, 0, -1);
        dueTimes(x, 0, 0, 50, 50);
    }

    /** "If there is none, it cannot be booked." */
    static void withoutAWayItCannotBeBooked() {
        BookedDetours x = road(0, 10);
        due("ways", x.ifBooked(0, 1, 100, 110, 3), 0);
        due("book", x.book(0, 1, 100, 110), NOT_POSSIBLE);
        due("by before wait", x.book(0, 1, 100, 50), NOT_POSSIBLE);
        due("one way", x.ifBooked(0, 1, 100, 111, 3), 1);
        due("book", x.book(0, 1, 100, 111), 0);
    }

    /** "If there is none, it cannot be booked": if there is but one, it is taken, wherever it is. */
    static void theOnlyWayIsTaken() {
        BookedDetours x = road(0, 10);
        x.book(0, 1, 100, 111);
        due("ways", x.ifBooked(0, 1, 0, 11, 3), 1);
        due("book", x.book(0, 1, 0, 11), 1);
        dueRoute(x, 1, -2, 0, -1);
        dueTimes(x, 0, 11, 100, 111);
    }

    // ---- Time goes by

    /** "Now is a time, 0 at first." */
    static void nowIs0AtFirst() {
        BookedDetours x = new BookedDetours();
        due("count(3)", x.count(3), 0);
        due("pass(0)", x.pass(0), BAD_VALUE);
        due("pass(1)", x.pass(1), 0);
        due("count(3)", x.count(3), 1);
    }

    /** "all visits whose time is before the new now are carried out". */
    static void visitsBeforeNowAreCarriedOut() {
        BookedDetours x = road(0, 10);
        x.book(0, 1, 5, 900);
        due("pass(6)", x.pass(6), 1);
        due("pass(17)", x.pass(17), 1);
        x = road(0, 10);
        x.book(0, 1, 5, 900);
        due("both at once", x.pass(17), 2);
    }

    /** "(A visit whose time is now is not carried out yet.)" */
    static void aVisitWhoseTimeIsNowIsNot() {
        BookedDetours x = road(0, 10);
        x.book(0, 1, 5, 900);
        due("pass(5)", x.pass(5), 0);
        due("ride(0, 4)", x.ride(0, 4), 0);
        due("pass(16)", x.pass(16), 1);
        due("ride(0, 4)", x.ride(0, 4), 1);
        due("pass(17)", x.pass(17), 1);
    }

    /** "A visit whose time is now": the first one at time 0 is still to come, though it began. */
    static void aVisitAtTheTime0WaitsForTheTime1() {
        BookedDetours x = road(0, 10);
        x.book(0, 1, 0, 900);
        due("ride(0, 4)", x.ride(0, 4), 0);
        due("it can be cancelled", x.cancel(0), 0);
        x.undo();
        due("pass(1)", x.pass(1), 1);
        due("ride(0, 4)", x.ride(0, 4), 1);
    }

    /** "in order: they leave the route": also those of one time. */
    static void visitsOfOneTimeAreCarriedOutTogether() {
        BookedDetours x = roadWith(3, 10, 0, 0, 10);
        x.book(0, 1, 0, 900);
        x.book(0, 1, 0, 900);
        dueTimes(x, 0, 0, 10, 10);
        due("pass(1)", x.pass(1), 2);
        due("count(5)", x.count(5), 2);
        due("pass(10)", x.pass(10), 0);
        due("pass(11)", x.pass(11), 2);
        due("count(6)", x.count(6), 2);
        due("count(2)", x.count(2), 0);
    }

    /** "picking up lets the ride be aboard, setting down lets it be done". */
    static void pickedUpIsAboardAndSetDownIsDone() {
        BookedDetours x = road(0, 10, 20);
        x.book(0, 1, 0, 900);
        x.book(1, 2, 50, 900);
        x.pass(12);
        due("ride(0, 4)", x.ride(0, 4), 2);
        due("ride(1, 4)", x.ride(1, 4), 0);
        x.pass(51);
        due("ride(0, 4)", x.ride(0, 4), 2);
        due("ride(1, 4)", x.ride(1, 4), 1);
    }

    // ---- Texts

    /** "The pad is a text of at most 60 characters". */
    static void thePadHasAtMost60Characters() {
        BookedDetours x = new BookedDetours();
        due("59 of them", put(x, "10>1@0-900;0>1@0-900;0>1@0-900;0>1@0-900;0>1@0-900;0>1@0-90"), 59);
        due("60 of them", x.put('0'), 60);
        due("61 of them", x.put(';'), TOO_MANY);
        due("fault()", x.fault(), NONE);
        due("count(12)", x.count(12), 60);
    }

    /** "text = booking { ";" booking }". */
    static void bookingsArePartedBySemicolons() {
        dueGood("0>1@2-3", "0>1@2-3;4>5@6-7", "0>1@2-3;4>5@6-7;8>9@0-1");
        dueLast("0>1@2-3,", "0>1@2-3;;", "0>1@2-3>", "0>1@2-3@", "0>1@2-3-", "0>1@2-3;4>5@6-7:", ";");
    }

    /** "booking = stop ">" stop "@" time "-" time". */
    static void theSignsOfABooking() {
        dueLast("0@", "0-", "0;", "0>1>", "0>1-", "0>1;", "0>1@2>", "0>1@2@", "0>1@2;");
        dueLast(">", "@", "-", "0>>", "0>@", "0>1@-", "0>1@@", "0>1@2--", "0>1@2-;", "0/", "0:", "0>1@2-3a");
        dueLast("/", ":", "1/", "1:", "0>1@1/", "0>1@1:", "0>1@2-1/", "0>1@2-1:");
    }

    /** "a stop is a number from 0 to 11". */
    static void stopsOfTextsAre0To11() {
        dueGood("0>0@0-0", "9>10@0-0", "10>9@0-0", "11>11@0-0");
        dueLast("12", "19", "20", "99", "110", "0>12", "0>20", "0>111");
    }

    /** "the times are 0 to 600 and ..". */
    static void waitsOfTextsAre0To600() {
        dueGood("0>1@0-0", "0>1@9-0", "0>1@99-0", "0>1@599-0", "0>1@600-0");
        dueLast("0>1@601", "0>1@610", "0>1@700", "0>1@999", "0>1@1000", "0>1@6000");
    }

    /** "the times are .. and 0 to 900". */
    static void bysOfTextsAre0To900() {
        dueGood("0>1@0-0", "0>1@0-9", "0>1@0-99", "0>1@0-601", "0>1@0-899", "0>1@0-900");
        dueLast("0>1@0-901", "0>1@0-910", "0>1@0-999", "0>1@0-1000", "0>1@0-9000");
    }

    /** "without leading zeros". */
    static void numbersHaveNoLeadingZeros() {
        dueLast("00", "01", "0>00", "0>01", "0>1@00", "0>1@05", "0>1@0-00", "0>1@0-07", "0>1@2-3;00", "10>1@20-30;01");
        dueGood("10>10@100-100");
    }

    /** "The fault is the index of the first character that cannot stand at its place when .. read from left to right". */
    static void theFaultIsTheFirstOfSeveral() {
        due("of two", faultOf("0>x@y-1"), 2);
        due("ahead of a text that ends too early", faultOf("0>1@2-3;4!"), 9);
        due("of a number that is too great ahead of a wrong sign", faultOf("13x"), 1);
        due("the first character", faultOf("~0>1@2-3"), 0);
        due("the last character", faultOf("0>1@2-3~"), 7);
    }

    /** "also of a digit by which a number would be too great". */
    static void theFaultOfANumberIsItsDigitThatIsTooMuch() {
        due("a stop", faultOf("12>1@2-3"), 1);
        due("a stop of three digits", faultOf("115>1@2-3"), 2);
        due("a wait", faultOf("0>1@601-3"), 6);
        due("a wait of four digits", faultOf("0>1@1234-3"), 7);
        due("a by", faultOf("0>1@2-901"), 8);
        due("a by of many digits", faultOf("0>1@2-99999999999"), 8);
    }

    /** "nothing else matters": no stop has to be told, both may be the same, and by may be before wait. */
    static void nothingElseMattersForTheFault() {
        dueGood("11>10@0-900", "3>3@5-9", "0>1@600-0");
    }

    /** "if there is none and the text ends too early .., it is the length of the text". */
    static void aTextThatEndsTooEarlyIsFaultyAtItsEnd() {
        String text = "10>11@60-90;1>2@3-4";
        for (int length = 1; length <= text.length(); length++) {
            boolean whole = length == 10 || length == 11 || length == 19;
            due("of " + text.substring(0, length), faultOf(text.substring(0, length)), whole ? NONE : length);
        }
    }

    /** "(also if it is empty)". */
    static void theEmptyTextIsFaultyAt0() {
        due("fault()", new BookedDetours().fault(), 0);
        due("bookAll()", new BookedDetours().bookAll(), BAD_TEXT);
    }

    public static void main(String[] args) throws IllegalAccessException {
        runAll(TermsSentences.class);
    }
}
