/** Each sentence of the document's promises 1 to 22 that names a boundary case, with a test of its own; worked out by hand. */
public final class PromiseSentences extends Sentences {
    // ---- Promise 1: a new object

    /** "Creates a day without stops and rides." */
    static void aNewDayHasNoStopsAndRides() {
        BookedDetours x = new BookedDetours();
        int[] counts = {0, 0, 0, 0, 0, 0, 0, 0, 0, 3, 10, 1, 0, 0};
        for (int what = 0; what < 14; what++) due("count(" + what + ")", x.count(what), counts[what]);
        due("coordinate(0, 0)", x.coordinate(0, 0), NO_SUCH);
        due("ride(0, 0)", x.ride(0, 0), NO_SUCH);
        due("visit(0, 0)", x.visit(0, 0), NO_SUCH);
        due("book", x.book(0, 1, 0, 900), NO_SUCH);
        due("undo()", x.undo(), NOT_POSSIBLE);
        due("restore(0)", x.restore(0), NOT_POSSIBLE);
        due("restore(1)", x.restore(1), NOT_POSSIBLE);
    }

    /** "A new object": it has nothing of another one. */
    static void objectsShareNothing() {
        BookedDetours other = road(0, 10);
        other.set(0, 8);
        other.book(0, 1, 0, 900);
        other.save(0);
        put(other, "0>1");
        same("a new day", told(new BookedDetours()), "0 0 0 0 0 0 0 0 0 3 10 1 0 | stops");
        due("its pad", new BookedDetours().wipe(), 0);
        due("its slot", new BookedDetours().restore(0), NOT_POSSIBLE);
        new BookedDetours().stop(3, 3);
        due("the other's stops", other.count(0), 2);
        due("the other's pad", other.count(12), 3);
    }

    // ---- Promise 2: set

    /** "BAD_VALUE if there is no such setting". */
    static void noSuchSetting() {
        BookedDetours x = new BookedDetours();
        for (int setting : new int[] {MIN, -1, 3, MAX}) due("set(" + setting + ", 1)", x.set(setting, 1), BAD_VALUE);
        for (int setting = 0; setting < 3; setting++) due("count", x.count(9 + setting), setting == 0 ? 3 : setting == 1 ? 10 : 1);
    }

    /** "or the value is out of its range": its own one, not that of another setting. */
    static void eachSettingHasItsOwnRange() {
        BookedDetours x = new BookedDetours();
        due("no seats", x.set(0, 0), BAD_VALUE);
        due("no slack", x.set(1, 0), 10);
        due("no stopping", x.set(2, 0), 1);
        due("8 seats", x.set(0, 8), 3);
        due("8 minutes of slack", x.set(1, 8), 0);
        due("8 minutes of stopping", x.set(2, 8), BAD_VALUE);
        due("60 seats", x.set(0, 60), BAD_VALUE);
    }

    /** "Returns the previous value". */
    static void setReturnsThePreviousValue() {
        BookedDetours x = new BookedDetours();
        due("the first one", x.set(1, 20), 10);
        due("the one that was set", x.set(1, 30), 20);
        due("the same one again", x.set(1, 30), 30);
        due("another setting's", x.set(2, 4), 1);
        due("count(10)", x.count(10), 30);
    }

    /** "NOT_POSSIBLE if there are visits in the route": two, or one alone, but not if they were made or left. */
    static void noSettingWithVisitsInTheRoute() {
        BookedDetours x = road(0, 10);
        x.book(0, 1, 0, 900);
        due("with two visits", x.set(1, 5), NOT_POSSIBLE);
        x.pass(1);
        due("with one visit", x.set(1, 5), NOT_POSSIBLE);
        due("to the same value", x.set(1, 10), NOT_POSSIBLE);
        x.pass(12);
        due("when they were made", x.set(1, 5), 10);
        x.book(1, 0, 0, 900);
        x.cancel(1);
        due("when they left", x.set(1, 6), 5);
    }

    /** The order: BAD_VALUE, NOT_POSSIBLE. */
    static void setTellsBadValueFirst() {
        BookedDetours x = road(0, 10);
        x.book(0, 1, 0, 900);
        due("set(3, 1)", x.set(3, 1), BAD_VALUE);
        due("set(0, 9)", x.set(0, 9), BAD_VALUE);
    }

    // ---- Promise 3: stop

    /** "BAD_VALUE if an argument is out of range": each one of the two. */
    static void aStopOutOfRange() {
        BookedDetours x = new BookedDetours();
        due("stop(-1, 5)", x.stop(-1, 5), BAD_VALUE);
        due("stop(31, 5)", x.stop(31, 5), BAD_VALUE);
        due("stop(5, -1)", x.stop(5, -1), BAD_VALUE);
        due("stop(5, 31)", x.stop(5, 31), BAD_VALUE);
        due("count(0)", x.count(0), 0);
    }

    /** "TOO_MANY if there are 12." */
    static void tooManyStops() {
        BookedDetours x = new BookedDetours();
        for (int stop = 0; stop < 11; stop++) x.stop(stop, stop);
        due("the 12th one", x.stop(30, 30), 11);
        due("the 13th one", x.stop(30, 30), TOO_MANY);
        x.undo();
        due("the 12th one, when it was undone", x.stop(29, 29), 11);
    }

    /** The order: BAD_VALUE, TOO_MANY. */
    static void stopTellsBadValueFirst() {
        BookedDetours x = road(0, 1, 2, 3, 4, 5, 6, 7, 8, 9, 10, 11);
        due("stop(31, 0)", x.stop(31, 0), BAD_VALUE);
        due("stop(30, 0)", x.stop(30, 0), TOO_MANY);
    }

    /** "Tells a stop": also when there are visits, and one where another one is. */
    static void stopsCanBeToldAtAnyTime() {
        BookedDetours x = road(0, 10);
        x.book(0, 1, 0, 900);
        x.pass(1);
        due("stop(10, 0)", x.stop(10, 0), 2);
        due("ride(1, 7)", x.book(1, 2, 0, 900) + x.ride(1, 7), 1);
    }

    // ---- Promise 4: book

    /** "NO_SUCH if there is no such stop": neither the one nor the other. */
    static void noSuchStopToBook() {
        BookedDetours x = road(0, 10);
        for (int stop : new int[] {MIN, -1, 2, 12, MAX}) {
            due("from " + stop, x.book(stop, 1, 0, 900), NO_SUCH);
            due("to " + stop, x.book(0, stop, 0, 900), NO_SUCH);
        }
        due("the last one", x.book(1, 0, 0, 900), 0);
    }

    /** "BAD_VALUE if both are the same". */
    static void theSameStopToBook() {
        BookedDetours x = road(0, 10);
        due("book(0, 0, ..)", x.book(0, 0, 0, 900), BAD_VALUE);
        due("book(1, 1, ..)", x.book(1, 1, 0, 900), BAD_VALUE);
    }

    /** "or a time is out of range". */
    static void aTimeOutOfRangeToBook() {
        BookedDetours x = road(0, 10);
        due("wait -1", x.book(0, 1, -1, 900), BAD_VALUE);
        due("wait 601", x.book(0, 1, 601, 900), BAD_VALUE);
        due("by -1", x.book(0, 1, 0, -1), BAD_VALUE);
        due("by 901", x.book(0, 1, 0, 901), BAD_VALUE);
        due("wait 600, by 900", x.book(0, 1, 600, 900), 0);
    }

    /** "TOO_MANY if there are 16 rides". */
    static void tooManyRides() {
        BookedDetours x = road(0, 10);
        for (int ride = 0; ride < 15; ride++) x.book(0, 1, 0, 900);
        due("the 16th one", x.book(0, 1, 0, 900), 15);
        due("the 17th one", x.book(0, 1, 0, 900), TOO_MANY);
        x.pass(2000);
        due("when all are done", x.book(0, 1, 0, 900), TOO_MANY);
        x.undo();
        x.undo();
        due("when the last one was undone", x.book(0, 1, 0, 900), 15);
    }

    /** "NOT_POSSIBLE if it cannot be booked." */
    static void notPossibleToBook() {
        BookedDetours x = road(0, 10);
        due("by 10", x.book(0, 1, 0, 10), NOT_POSSIBLE);
        due("count(1)", x.count(1), 0);
        due("by 11", x.book(0, 1, 0, 11), 0);
        x.pass(1000);
        due("behind every time", x.book(0, 1, 600, 900), NOT_POSSIBLE);
    }

    /** The order: NO_SUCH, BAD_VALUE, TOO_MANY, NOT_POSSIBLE. */
    static void bookTellsTheFirstError() {
        BookedDetours x = road(0, 10);
        for (int ride = 0; ride < 16; ride++) x.book(0, 1, 0, 900);
        due("all four", x.book(0, 2, -1, 901), NO_SUCH);
        due("no such stop twice", x.book(2, 2, 0, 900), NO_SUCH);
        due("the same stop", x.book(0, 0, 0, 0), BAD_VALUE);
        due("a time out of range", x.book(0, 1, 601, 0), BAD_VALUE);
        due("too many, and not possible", x.book(0, 1, 0, 0), TOO_MANY);
    }

    // ---- Promise 5: cancel

    /** "NO_SUCH if there is no such ride". */
    static void noSuchRideToCancel() {
        BookedDetours x = road(0, 10);
        due("cancel(0)", x.cancel(0), NO_SUCH);
        x.book(0, 1, 0, 900);
        for (int ride : new int[] {MIN, -1, 1, 16, MAX}) due("cancel(" + ride + ")", x.cancel(ride), NO_SUCH);
    }

    /** "NOT_POSSIBLE if it is not booked": aboard, done, cancelled, or missed. */
    static void onlyABookedRideIsCancelled() {
        BookedDetours x = road(0, 10);
        x.book(0, 1, 0, 900);
        due("booked", x.cancel(0), 0);
        due("cancelled", x.cancel(0), NOT_POSSIBLE);
        x.undo();
        x.pass(1);
        due("aboard", x.cancel(0), NOT_POSSIBLE);
        x.miss(0);
        due("missed", x.cancel(0), NOT_POSSIBLE);
        x.undo();
        x.pass(12);
        due("done", x.cancel(0), NOT_POSSIBLE);
    }

    /** "Returns how many visits are left": those of the others, or none. */
    static void cancelReturnsWhatIsLeft() {
        BookedDetours x = road(0, 10, 20);
        x.book(0, 1, 0, 900);
        x.book(1, 2, 0, 900);
        x.book(2, 0, 0, 900);
        due("cancel(1)", x.cancel(1), 4);
        x.pass(1);
        due("cancel(2), one is aboard", x.cancel(2), 1);
        x.undo();
        x.undo();
        due("cancel(0)", x.cancel(0), 2);
        due("cancel(2)", x.cancel(2), 0);
    }

    /** "its visits leave the route": both, and no other one. */
    static void cancelTakesBothVisits() {
        BookedDetours x = road(0, 10);
        x.book(0, 1, 0, 900);
        x.book(0, 1, 0, 900);
        dueRoute(x, 1, 0, -2, -1);
        x.cancel(0);
        dueRoute(x, 1, -2);
        dueTimes(x, 0, 11);
        due("ride(0, 5)", x.ride(0, 5), NONE);
        due("ride(0, 6)", x.ride(0, 6), NONE);
        x.undo();
        x.cancel(1);
        dueRoute(x, 0, -1);
        dueTimes(x, 0, 11);
    }

    // ---- Promise 6: pass

    /** "the new now, later than now". */
    static void nowBecomesLater() {
        BookedDetours x = new BookedDetours();
        due("pass(0)", x.pass(0), BAD_VALUE);
        due("pass(1)", x.pass(1), 0);
        due("pass(1) again", x.pass(1), BAD_VALUE);
        due("pass(0)", x.pass(0), BAD_VALUE);
        due("pass(2)", x.pass(2), 0);
        due("pass(-1)", x.pass(-1), BAD_VALUE);
        due("pass(MIN)", x.pass(MIN), BAD_VALUE);
        due("count(3)", x.count(3), 2);
    }

    /** "up to 2000". */
    static void nowIsUpTo2000() {
        BookedDetours x = new BookedDetours();
        due("pass(2001)", x.pass(2001), BAD_VALUE);
        due("pass(MAX)", x.pass(MAX), BAD_VALUE);
        due("pass(1999)", x.pass(1999), 0);
        due("pass(2000)", x.pass(2000), 0);
        due("count(3)", x.count(3), 2000);
        due("pass(2001)", x.pass(2001), BAD_VALUE);
    }

    /** "Returns how many visits were carried out": none, some, or all. */
    static void passReturnsHowManyWereCarriedOut() {
        BookedDetours x = road(0, 10);
        due("without visits", x.pass(1), 0);
        x.book(1, 0, 0, 900);
        x.book(1, 0, 0, 900);
        dueTimes(x, 11, 12, 23, 24);
        due("none", x.pass(11), 0);
        due("three", x.pass(24), 3);
        due("the last one", x.pass(25), 1);
    }

    // ---- Promise 7: miss

    /** "NO_SUCH if there is no such ride". */
    static void noSuchRideToMiss() {
        BookedDetours x = road(0, 10);
        due("miss(0)", x.miss(0), NO_SUCH);
        x.book(0, 1, 0, 900);
        x.pass(1);
        for (int ride : new int[] {MIN, -1, 1, 16, MAX}) due("miss(" + ride + ")", x.miss(ride), NO_SUCH);
    }

    /** "NOT_POSSIBLE if it is not aboard": booked, done, cancelled, or missed. */
    static void onlyARideAboardIsMissed() {
        BookedDetours x = road(0, 10);
        x.book(0, 1, 0, 900);
        due("booked", x.miss(0), NOT_POSSIBLE);
        x.cancel(0);
        due("cancelled", x.miss(0), NOT_POSSIBLE);
        x.undo();
        x.pass(1);
        due("aboard", x.miss(0), 0);
        due("missed", x.miss(0), NOT_POSSIBLE);
        x.undo();
        x.pass(12);
        due("done", x.miss(0), NOT_POSSIBLE);
    }

    /** "Returns how many visits are left": those of the others, or none. */
    static void missReturnsWhatIsLeft() {
        BookedDetours x = road(0, 10);
        x.book(0, 1, 0, 900);
        x.book(0, 1, 0, 900);
        x.book(1, 0, 30, 900);
        x.pass(2);
        due("miss(1)", x.miss(1), 3);
        due("miss(0)", x.miss(0), 2);
        x.undo();
        x.cancel(2);
        due("miss(0), the only one", x.miss(0), 0);
    }

    /** "its visit that would set it down leaves the route": wherever it is in it. */
    static void missTakesTheVisitThatSetsDown() {
        BookedDetours x = road(0, 10);
        x.book(0, 1, 0, 900);
        x.book(0, 1, 0, 900);
        x.pass(2);
        dueRoute(x, -2, -1);
        x.miss(0);
        dueRoute(x, -2);
        dueTimes(x, 12);
        due("count(5)", x.count(5), 1);
        x.undo();
        x.miss(1);
        dueRoute(x, -1);
        dueTimes(x, 12);
    }

    // ---- Promise 8: bookAll

    /** "BAD_TEXT if the pad has a fault (then it stays)." */
    static void aFaultyPadStays() {
        BookedDetours x = road(0, 10);
        put(x, "0>1@0-900;0>1@0-9");
        put(x, "a");
        due("bookAll()", x.bookAll(), BAD_TEXT);
        due("count(12)", x.count(12), 18);
        due("none was booked", x.count(1), 0);
        due("nothing is recorded", x.count(13), 2);
    }

    /** "BAD_TEXT if the pad has a fault": also one that is empty, or ends too early. */
    static void aTextThatEndsTooEarlyIsNotBooked() {
        BookedDetours x = road(0, 10);
        due("an empty pad", x.bookAll(), BAD_TEXT);
        put(x, "0>1@0-900;");
        due("bookAll()", x.bookAll(), BAD_TEXT);
        due("count(12)", x.count(12), 10);
        due("count(1)", x.count(1), 0);
    }

    /** "Books the rides of the pad, one after the other". */
    static void theRidesOfThePadAreBookedInOrder() {
        BookedDetours x = road(0, 1, 2, 3, 4, 5, 6, 7, 8, 9, 10, 11);
        put(x, "11>10@600-900;0>1@0-900;9>2@45-678");
        due("bookAll()", x.bookAll(), 3);
        int[][] rides = {{11, 10, 600, 900}, {0, 1, 0, 900}, {9, 2, 45, 678}};
        for (int ride = 0; ride < 3; ride++) {
            for (int what = 0; what < 4; what++) due("ride(" + ride + ", " + what + ")", x.ride(ride, what), rides[ride][what]);
        }
        BookedDetours twin = road(0, 1, 2, 3, 4, 5, 6, 7, 8, 9, 10, 11);
        for (int[] ride : rides) twin.book(ride[0], ride[1], ride[2], ride[3]);
        for (int place = 0; place < 6; place++) due("visit(" + place + ", 3)", x.visit(place, 3), twin.visit(place, 3));
    }

    /** "up to the first one that returns an error": whichever error it is; what follows is not tried. */
    static void upToTheFirstErrorOfAText() {
        for (String bad : new String[] {"0>2@0-900", "1>1@0-900", "0>1@0-10"}) {
            BookedDetours x = road(0, 10);
            put(x, "0>1@0-900;" + bad + ";0>1@0-900");
            due("bookAll(), with " + bad, x.bookAll(), 1);
            due("count(1), with " + bad, x.count(1), 1);
            due("count(2), with " + bad, x.count(2), 2);
        }
    }

    /** "up to the first one that returns an error": TOO_MANY is one. */
    static void upToThe16thRideOfATextAndADay() {
        BookedDetours x = road(0, 10);
        for (int ride = 0; ride < 14; ride++) x.book(0, 1, 0, 900);
        put(x, "0>1@0-900;0>1@0-900;0>1@0-900");
        due("bookAll()", x.bookAll(), 2);
        due("count(1)", x.count(1), 16);
        due("count(12)", x.count(12), 0);
    }

    /** "and empties the pad": also if a ride returned an error, or none was booked. */
    static void thePadIsEmptiedByABooking() {
        BookedDetours x = road(0, 10);
        put(x, "0>1@0-900");
        due("all are booked", x.bookAll(), 1);
        due("count(12)", x.count(12), 0);
        put(x, "0>1@0-900;0>3@0-900");
        due("one is booked", x.bookAll(), 1);
        due("count(12)", x.count(12), 0);
        put(x, "0>3@0-900;0>1@0-900");
        due("none is booked", x.bookAll(), 0);
        due("count(12)", x.count(12), 0);
        due("fault()", x.fault(), 0);
    }

    /** "This is a change (one, with all of them ..)." */
    static void allOfATextAreOneChange() {
        BookedDetours x = road(0, 10);
        put(x, "0>1@0-900;0>1@0-900;0>1@0-900");
        due("bookAll()", x.bookAll(), 3);
        due("count(13)", x.count(13), 3);
        due("undo()", x.undo(), 2);
        due("count(1)", x.count(1), 0);
        due("count(2)", x.count(2), 0);
    }

    /** "(.. also if none is booked)". */
    static void noneOfATextIsAChangeToo() {
        BookedDetours x = road(0, 10);
        put(x, "0>5@0-900");
        due("bookAll()", x.bookAll(), 0);
        due("count(13)", x.count(13), 3);
        due("undo()", x.undo(), 2);
        due("count(0)", x.count(0), 2);
    }

    /** "Books the rides of the pad": 60 characters of them, seven rides in the shortest form. */
    static void theLongestTextIsBooked() {
        BookedDetours x = roadWith(8, 10, 0, 5, 5);
        put(x, "0>1@0-0;0>1@0-0;0>1@0-0;0>1@0-0;0>1@0-0;0>1@0-0;0>1@0-90");
        due("count(12)", x.count(12), 56);
        due("bookAll()", x.bookAll(), 7);
        due("ride(6, 3)", x.ride(6, 3), 90);
        put(x, "0>1@500-900;0>1@500-900;0>1@500-900;0>1@500-900;0>1@500-900;");
        due("60 characters, one too few for what follows", x.bookAll(), BAD_TEXT);
        due("wipe()", x.wipe(), 60);
        put(x, "0>1@500-900;0>1@500-900;0>1@500-900;0>1@500-900;0>1@500-900");
        due("bookAll()", x.bookAll(), 5);
    }

    // ---- Promise 9: ride

    /** "NO_SUCH if there is no such ride". */
    static void noSuchRideToTellOf() {
        BookedDetours x = road(0, 10);
        due("ride(0, 0)", x.ride(0, 0), NO_SUCH);
        x.book(0, 1, 0, 900);
        for (int ride : new int[] {MIN, -1, 1, 16, MAX}) {
            for (int what = 0; what < 8; what++) due("ride(" + ride + ", " + what + ")", x.ride(ride, what), NO_SUCH);
        }
    }

    /** "BAD_VALUE if what is out of range" (0 to 7). */
    static void noSuchThingOfARide() {
        BookedDetours x = road(0, 10);
        x.book(0, 1, 0, 900);
        for (int what : new int[] {MIN, -1, 8, MAX}) due("ride(0, " + what + ")", x.ride(0, what), BAD_VALUE);
        due("ride(0, 7)", x.ride(0, 7), 10);
    }

    /** The order: NO_SUCH, BAD_VALUE. */
    static void rideTellsNoSuchFirst() {
        due("ride(0, 8)", new BookedDetours().ride(0, 8), NO_SUCH);
        due("ride(-1, -1)", new BookedDetours().ride(-1, -1), NO_SUCH);
    }

    /** "5 the time of the visit that picks it up, 6 of that which sets it down (as it was, or will be ..)". */
    static void theTimesOfARideAsTheyWereAndWillBe() {
        BookedDetours x = road(0, 10);
        x.book(0, 1, 5, 900);
        for (int now : new int[] {1, 6, 17, 100}) {
            x.pass(now);
            due("ride(0, 5) at " + now, x.ride(0, 5), 5);
            due("ride(0, 6) at " + now, x.ride(0, 6), 16);
        }
    }

    /** "(.. as it .. will be ..)": it changes with the route. */
    static void theTimesOfARideChangeWithTheRoute() {
        BookedDetours x = road(0, 10);
        x.book(0, 1, 0, 900);
        due("ride(0, 5)", x.ride(0, 5), 0);
        x.book(0, 1, 0, 900);
        due("ride(0, 5)", x.ride(0, 5), 1);
        due("ride(0, 6)", x.ride(0, 6), 13);
        x.cancel(1);
        due("ride(0, 6)", x.ride(0, 6), 11);
    }

    /** "NONE if it never is": a ride that was cancelled is neither picked up nor set down. */
    static void aCancelledRideHasNoTimes() {
        BookedDetours x = road(0, 10);
        x.book(0, 1, 0, 900);
        x.cancel(0);
        due("ride(0, 5)", x.ride(0, 5), NONE);
        due("ride(0, 6)", x.ride(0, 6), NONE);
        due("ride(0, 7)", x.ride(0, 7), 10);
    }

    /** "as it was .. NONE if it never is": a ride that was missed was picked up, but is never set down. */
    static void aMissedRideIsNeverSetDown() {
        BookedDetours x = road(0, 10);
        x.book(0, 1, 3, 900);
        x.pass(4);
        x.miss(0);
        due("ride(0, 5)", x.ride(0, 5), 3);
        due("ride(0, 6)", x.ride(0, 6), NONE);
        x.pass(500);
        due("ride(0, 6), later", x.ride(0, 6), NONE);
    }

    // ---- Promise 10: visit

    /** "NO_SUCH if there is no such visit". */
    static void noSuchVisit() {
        BookedDetours x = road(0, 10);
        due("visit(0, 0)", x.visit(0, 0), NO_SUCH);
        x.book(0, 1, 0, 900);
        for (int place : new int[] {MIN, -1, 2, 32, MAX}) due("visit(" + place + ", 0)", x.visit(place, 0), NO_SUCH);
        due("visit(1, 1)", x.visit(1, 1), 1);
        x.pass(1);
        due("visit(1, 0), when one was made", x.visit(1, 0), NO_SUCH);
    }

    /** "BAD_VALUE if what is out of range" (0 to 5). */
    static void noSuchThingOfAVisit() {
        BookedDetours x = road(0, 10);
        x.book(0, 1, 0, 900);
        for (int what : new int[] {MIN, -1, 6, MAX}) due("visit(0, " + what + ")", x.visit(0, what), BAD_VALUE);
        due("visit(0, 5)", x.visit(0, 5), 0);
    }

    /** The order: NO_SUCH, BAD_VALUE. */
    static void visitTellsNoSuchFirst() {
        due("visit(0, 6)", new BookedDetours().visit(0, 6), NO_SUCH);
        due("visit(-1, -1)", new BookedDetours().visit(-1, -1), NO_SUCH);
    }

    /** "0 for the first one". */
    static void theFirstVisitHasThePlace0() {
        BookedDetours x = road(0, 10, 20);
        x.book(1, 2, 0, 900);
        due("visit(0, 2)", x.visit(0, 2), 1);
        due("visit(1, 2)", x.visit(1, 2), 2);
        x.pass(11);
        due("visit(0, 2), when one was made", x.visit(0, 2), 2);
    }

    /** "1 whether it sets down (1 or 0)". */
    static void aVisitSetsDownOrNot() {
        BookedDetours x = road(0, 10);
        x.book(0, 1, 0, 900);
        due("visit(0, 1)", x.visit(0, 1), 0);
        due("visit(1, 1)", x.visit(1, 1), 1);
    }

    /** "4 how many rides are aboard behind it": with it, and with those who are aboard already. */
    static void howManyAreAboardBehindAVisit() {
        BookedDetours x = road(0, 10);
        x.book(0, 1, 0, 900);
        x.book(0, 1, 0, 900);
        int[] aboard = {1, 2, 1, 0};
        for (int place = 0; place < 4; place++) due("visit(" + place + ", 4)", x.visit(place, 4), aboard[place]);
        x.pass(1);
        due("visit(0, 4), with one aboard", x.visit(0, 4), 2);
        due("visit(2, 4)", x.visit(2, 4), 0);
    }

    /** "5 for how many minutes the bus waits ahead of it": ahead of that one alone. */
    static void howLongTheBusWaitsAheadOfAVisit() {
        BookedDetours x = road(0, 10);
        x.book(0, 1, 5, 900);
        x.book(1, 0, 20, 900);
        dueRoute(x, 0, -1, 1, -2);
        int[] waits = {5, 0, 3, 0};
        for (int place = 0; place < 4; place++) due("visit(" + place + ", 5)", x.visit(place, 5), waits[place]);
    }

    // ---- Promise 11: coordinate

    /** "NO_SUCH if there is no such stop". */
    static void noSuchStopToTellOf() {
        BookedDetours x = new BookedDetours();
        due("coordinate(0, 0)", x.coordinate(0, 0), NO_SUCH);
        x.stop(3, 4);
        for (int stop : new int[] {MIN, -1, 1, 12, MAX}) due("coordinate(" + stop + ", 1)", x.coordinate(stop, 1), NO_SUCH);
        due("coordinate(0, 1)", x.coordinate(0, 1), 4);
    }

    /** "BAD_VALUE if which is neither" 0 nor 1. */
    static void noSuchCoordinate() {
        BookedDetours x = new BookedDetours();
        x.stop(3, 4);
        for (int which : new int[] {MIN, -1, 2, MAX}) due("coordinate(0, " + which + ")", x.coordinate(0, which), BAD_VALUE);
        due("coordinate(0, 0)", x.coordinate(0, 0), 3);
    }

    /** The order: NO_SUCH, BAD_VALUE. */
    static void coordinateTellsNoSuchFirst() {
        due("coordinate(0, 2)", new BookedDetours().coordinate(0, 2), NO_SUCH);
    }

    // ---- Promise 12: count

    /** "BAD_VALUE if what is out of range" (0 to 13). */
    static void noSuchCount() {
        BookedDetours x = road(0, 10);
        for (int what : new int[] {MIN, -1, 14, MAX}) due("count(" + what + ")", x.count(what), BAD_VALUE);
        due("count(0)", x.count(0), 2);
        due("count(13)", x.count(13), 2);
    }

    /** "4 the time at which the route is over": the end of its last visit. */
    static void theRouteIsOverWhenItsLastVisitIs() {
        BookedDetours x = roadWith(3, 10, 4, 0, 10);
        x.book(0, 1, 0, 900);
        due("count(4)", x.count(4), 18);
        x.pass(15);
        due("count(4), all visits made", x.count(4), 18);
    }

    /** "(without visits: at which the bus was free last": not now. */
    static void withoutVisitsTheBusWasFreeBefore() {
        BookedDetours x = road(0, 10);
        x.pass(30);
        due("never driven", x.count(4), 0);
        x.book(0, 1, 0, 900);
        x.pass(100);
        due("free since", x.count(4), 42);
    }

    /** "or the now of a booking into the empty route, if that was later)". */
    static void orTheNowOfABookingIntoTheEmptyRoute() {
        BookedDetours x = road(0, 10);
        x.pass(30);
        x.book(0, 1, 0, 900);
        x.cancel(0);
        due("count(4)", x.count(4), 30);
        x.pass(40);
        due("count(4), later", x.count(4), 30);
        x.undo();
        x.undo();
        x.undo();
        due("count(4), without the booking", x.count(4), 0);
    }

    /** "5 rides that are aboard, 6 those that are done": no others. */
    static void whoIsAboardAndDone() {
        BookedDetours x = road(0, 10);
        for (int ride = 0; ride < 3; ride++) x.book(0, 1, 0, 900);
        x.book(1, 0, 200, 900);
        x.book(1, 0, 200, 900);
        x.cancel(4);
        due("aboard at 0", x.count(5), 0);
        x.pass(3);
        due("aboard at 3", x.count(5), 3);
        x.miss(0);
        due("aboard, when one was missed", x.count(5), 2);
        x.pass(100);
        due("aboard at 100", x.count(5), 0);
        due("done at 100", x.count(6), 2);
    }

    /** "7 minutes of driving of the route": from where the bus leaves for its first visit; none without visits. */
    static void theDrivingOfTheRoute() {
        BookedDetours x = road(0, 10, 20);
        due("count(7), without visits", x.count(7), 0);
        x.book(1, 2, 0, 900);
        due("count(7)", x.count(7), 20);
        x.pass(5);
        due("count(7), on its way", x.count(7), 20);
        x.pass(11);
        due("count(7), the first visit made", x.count(7), 10);
        x.pass(100);
        due("count(7), both visits made", x.count(7), 0);
    }

    /** "8 minutes of waiting of the route": of all its visits; none without visits. */
    static void theWaitingOfTheRoute() {
        BookedDetours x = road(0, 10);
        due("count(8), without visits", x.count(8), 0);
        x.book(0, 1, 5, 900);
        x.book(1, 0, 20, 900);
        due("count(8)", x.count(8), 5 + 3);
        x.pass(6);
        due("count(8), the first visit made", x.count(8), 3);
        x.pass(100);
        due("count(8), all visits made", x.count(8), 0);
    }

    /** "12 the length of the pad, 13 how many changes can be undone". */
    static void theLengthsOfThePadAndTheHistory() {
        BookedDetours x = new BookedDetours();
        for (int i = 1; i <= 8; i++) {
            x.put('a');
            due("count(12)", x.count(12), i);
            due("count(13)", x.count(13), Math.min(i - 1, 6));
            x.stop(0, 0);
            due("count(13)", x.count(13), Math.min(i, 6));
        }
    }

    // ---- Promise 13: ifBooked

    /** "(however many rides there are)". */
    static void whatIfThereAre16Rides() {
        BookedDetours x = roadWith(1, 0, 0, 0, 10);
        for (int ride = 0; ride < 16; ride++) {
            x.book(0, 1, 0, 900);
            if (ride > 0) x.cancel(ride);
        }
        due("book", x.book(0, 1, 15, 900), TOO_MANY);
        int[] due = {20, 20, 30, 2};
        for (int what = 0; what < 4; what++) due("ifBooked(.., " + what + ")", x.ifBooked(0, 1, 15, 900, what), due[what]);
    }

    /** "(however many rides there are)": also if all of them are in the route. */
    static void whatIfAll16RidesAreInTheRoute() {
        BookedDetours x = roadWith(8, 60, 0, 0, 10);
        for (int ride = 0; ride < 16; ride++) x.book(0, 1, 0, 900);
        due("later", x.ifBooked(0, 1, 600, 900, 0), 610 - 30);
        due("picked up", x.ifBooked(0, 1, 600, 900, 1), 600);
        due("set down", x.ifBooked(0, 1, 600, 900, 2), 610);
        due("count(1)", x.count(1), 16);
        due("count(2)", x.count(2), 32);
    }

    /** "NO_SUCH .. as for book()". */
    static void whatIfThereIsNoSuchStop() {
        BookedDetours x = road(0, 10);
        for (int stop : new int[] {MIN, -1, 2, MAX}) {
            due("from " + stop, x.ifBooked(stop, 1, 0, 900, 3), NO_SUCH);
            due("to " + stop, x.ifBooked(0, stop, 0, 900, 3), NO_SUCH);
        }
    }

    /** "BAD_VALUE as for book()": the same stop, or a time out of range. */
    static void whatIfAValueIsBad() {
        BookedDetours x = road(0, 10);
        due("the same stop", x.ifBooked(1, 1, 0, 900, 3), BAD_VALUE);
        due("wait -1", x.ifBooked(0, 1, -1, 900, 3), BAD_VALUE);
        due("wait 601", x.ifBooked(0, 1, 601, 900, 3), BAD_VALUE);
        due("by -1", x.ifBooked(0, 1, 0, -1, 3), BAD_VALUE);
        due("by 901", x.ifBooked(0, 1, 0, 901, 3), BAD_VALUE);
        due("wait 600 and by 900", x.ifBooked(0, 1, 600, 900, 3), 1);
        due("wait 0 and by 0", x.ifBooked(0, 1, 0, 0, 3), 0);
    }

    /** "BAD_VALUE also if what is out of range" (0 to 3). */
    static void whatIfOfNoSuchThing() {
        BookedDetours x = road(0, 10);
        for (int what : new int[] {MIN, -1, 4, MAX}) due("what " + what, x.ifBooked(0, 1, 0, 900, what), BAD_VALUE);
        due("what 3", x.ifBooked(0, 1, 0, 900, 3), 1);
    }

    /** The order: NO_SUCH, BAD_VALUE. */
    static void ifBookedTellsNoSuchFirst() {
        due("ifBooked(0, 2, -1, 901, 4)", road(0, 10).ifBooked(0, 2, -1, 901, 4), NO_SUCH);
        due("ifBooked(0, 0, 0, 0, 3)", road(0, 10).ifBooked(0, 0, 0, 0, 3), BAD_VALUE);
    }

    /** "NONE if it cannot be booked". */
    static void whatIfItCannotBeBooked() {
        BookedDetours x = road(0, 10);
        for (int what = 0; what < 3; what++) {
            due("what " + what + ", by 10", x.ifBooked(0, 1, 0, 10, what), NONE);
            due("what " + what + ", by 11", x.ifBooked(0, 1, 0, 11, what), what == 0 ? 12 : what == 1 ? 0 : 11);
        }
    }

    /** "(0 if what is 3)". */
    static void noWaysIfItCannotBeBooked() {
        due("by 10", road(0, 10).ifBooked(0, 1, 0, 10, 3), 0);
        due("by 11", road(0, 10).ifBooked(0, 1, 0, 11, 3), 1);
    }

    /** "0 by how many minutes later than now (see count(4)) the route would be over": later than it is over now. */
    static void howMuchLaterTheRouteWouldBeOver() {
        BookedDetours x = road(0, 10, 20);
        due("an empty route", x.ifBooked(1, 2, 0, 900, 0), 22);
        x.book(1, 2, 50, 900);
        due("while the bus waits: no later", x.ifBooked(0, 1, 0, 900, 0), 0);
        due("behind it", x.ifBooked(2, 0, 60, 900, 0), 22);
        x = road(0, 10, 20);
        x.pass(30);
        due("an empty route, over at 0", x.ifBooked(0, 1, 0, 900, 0), 42);
    }

    /** "Tells what booking a ride would bring": and nothing changes. */
    static void ifBookedBooksNothing() {
        BookedDetours x = road(0, 10, 20);
        x.book(0, 1, 0, 900);
        x.pass(5);
        String before = told(x);
        for (int what = 0; what < 4; what++) x.ifBooked(1, 2, 30, 900, what);
        x.earliestBy(1, 2, 30);
        x.dearest(0);
        x.spare(0);
        same("the day", told(x), before);
    }

    // ---- Promise 14: earliestBy

    /** "NO_SUCH if there is no such stop". */
    static void earliestByOfNoSuchStop() {
        BookedDetours x = road(0, 10);
        for (int stop : new int[] {MIN, -1, 2, MAX}) {
            due("from " + stop, x.earliestBy(stop, 1, 0), NO_SUCH);
            due("to " + stop, x.earliestBy(0, stop, 0), NO_SUCH);
        }
    }

    /** "BAD_VALUE if both are the same, or wait is out of range". */
    static void earliestByOfABadValue() {
        BookedDetours x = road(0, 10);
        due("the same stop", x.earliestBy(1, 1, 0), BAD_VALUE);
        for (int wait : new int[] {MIN, -1, 601, MAX}) due("wait " + wait, x.earliestBy(0, 1, wait), BAD_VALUE);
        due("wait 600", x.earliestBy(0, 1, 600), 611);
    }

    /** The order: NO_SUCH, BAD_VALUE. */
    static void earliestByTellsNoSuchFirst() {
        due("earliestBy(2, 2, 601)", road(0, 10).earliestBy(2, 2, 601), NO_SUCH);
    }

    /** "Returns the least time .. with which the ride could be booked": with one less it could not. */
    static void earliestByIsTheLeastTime() {
        BookedDetours x = road(0, 10);
        x.book(0, 1, 0, 900);
        due("earliestBy, not what ends the route earliest", x.earliestBy(1, 0, 0), 21);
        due("with one less", x.ifBooked(1, 0, 0, 20, 3), 0);
        due("with it", x.ifBooked(1, 0, 0, 21, 3), 1);
        due("book with one less", x.book(1, 0, 0, 20), NOT_POSSIBLE);
        due("book with it", x.book(1, 0, 0, 21), 1);
    }

    /** "the least time, 0 to 900": 0. */
    static void theLeastTimeCanBe0() {
        BookedDetours x = roadWith(3, 10, 0, 5, 5);
        due("earliestBy", x.earliestBy(0, 1, 0), 0);
        due("book", x.book(0, 1, 0, 0), 0);
    }

    /** "the least time, 0 to 900": 900, but not more. */
    static void theLeastTimeCanBe900() {
        int[][] due = {{888, 899}, {889, 900}, {890, NONE}};
        for (int[] one : due) {
            BookedDetours x = road(0, 10);
            x.pass(one[0]);
            due("earliestBy at " + one[0], x.earliestBy(0, 1, 0), one[1]);
            due("book at " + one[0], x.book(0, 1, 0, 900), one[1] == NONE ? NOT_POSSIBLE : 0);
        }
    }

    /** "NONE if there is none": also if only the others keep it out. */
    static void noLeastTime() {
        BookedDetours x = roadWith(3, 60, 0, 0, 30, 10);
        x.pass(860);
        due("alone", x.earliestBy(2, 0, 0), 880);
        x.book(0, 1, 0, 890);
        due("on the way of the other one", x.earliestBy(2, 1, 0), 890);
        due("against it", x.earliestBy(2, 0, 0), NONE);
    }

    /** "(however many rides there are)". */
    static void earliestByWith16Rides() {
        BookedDetours x = road(0, 10);
        for (int ride = 0; ride < 16; ride++) {
            x.book(0, 1, 0, 900);
            if (ride < 15) x.cancel(ride);
        }
        due("book", x.book(1, 0, 0, 900), TOO_MANY);
        due("earliestBy", x.earliestBy(1, 0, 0), 21);
    }

    // ---- Promise 15: spare

    /** "NO_SUCH if there is no such ride". */
    static void noSuchRideToSpare() {
        BookedDetours x = road(0, 10);
        due("spare(0)", x.spare(0), NO_SUCH);
        x.book(0, 1, 0, 900);
        for (int ride : new int[] {MIN, -1, 1, MAX}) due("spare(" + ride + ")", x.spare(ride), NO_SUCH);
    }

    /** "NOT_POSSIBLE if it is neither booked nor aboard": done, cancelled, or missed. */
    static void onlyBookedAndAboardHaveSpareTime() {
        BookedDetours x = road(0, 10);
        x.book(0, 1, 0, 20);
        due("booked", x.spare(0), 9);
        x.cancel(0);
        due("cancelled", x.spare(0), NOT_POSSIBLE);
        x.undo();
        x.pass(1);
        due("aboard", x.spare(0), 9);
        x.miss(0);
        due("missed", x.spare(0), NOT_POSSIBLE);
        x.undo();
        x.pass(12);
        due("done", x.spare(0), NOT_POSSIBLE);
    }

    /** "how many minutes the ride could be set down later, by the time by which it must be there": none, or more. */
    static void spareTimeCanBe0() {
        for (int by : new int[] {11, 12, 900}) {
            BookedDetours x = road(0, 10);
            x.book(0, 1, 0, by);
            due("spare(0), by " + by, x.spare(0), by - 11);
        }
    }

    /** "(never below 0: neither cancel() nor miss() lets a visit be later)": cancel(), at whatever time. */
    static void cancellingLetsNoVisitBeLater() {
        for (int now = 0; now <= 10; now++) {
            BookedDetours x = road(0, 10, 20, 30);
            x.book(2, 3, 0, 33);
            x.book(1, 2, 0, 900);
            dueTimes(x, 10, 21, 22, 33);
            due("spare(0)", x.spare(0), 0);
            if (now > 0) x.pass(now);
            due("cancel(1)", x.cancel(1), 2);
            due("spare(0), cancelled at " + now, x.spare(0), 2);
        }
    }

    /** "(never below 0: neither cancel() nor miss() lets a visit be later)": miss(), at whatever time. */
    static void missingLetsNoVisitBeLater() {
        for (int now = 2; now <= 12; now++) {
            BookedDetours x = road(0, 10, 20);
            x.book(0, 1, 0, 900);
            x.book(0, 2, 0, 23);
            dueRoute(x, 1, 0, -1, -2);
            due("spare(1)", x.spare(1), 0);
            x.pass(now);
            due("miss(0)", x.miss(0), 1);
            due("spare(1), missed at " + now, x.spare(1), 1);
        }
    }

    // ---- Promise 16: dearest

    /** "BAD_VALUE if what is neither 0 nor 1". */
    static void noSuchThingOfTheDearest() {
        BookedDetours x = road(0, 10);
        x.book(0, 1, 0, 900);
        for (int what : new int[] {MIN, -1, 2, MAX}) due("dearest(" + what + ")", x.dearest(what), BAD_VALUE);
    }

    /** The order: BAD_VALUE, and NONE only then. */
    static void dearestTellsBadValueFirst() {
        due("dearest(2)", new BookedDetours().dearest(2), BAD_VALUE);
        due("dearest(-1)", new BookedDetours().dearest(-1), BAD_VALUE);
    }

    /** "NONE if there is no booked ride": no ride, or none that is booked still. */
    static void noBookedRideIsDearest() {
        BookedDetours x = road(0, 10);
        due("no ride", x.dearest(0), NONE);
        due("no ride", x.dearest(1), NONE);
        x.book(0, 1, 0, 900);
        due("booked", x.dearest(0), 0);
        x.pass(1);
        due("aboard", x.dearest(0), NONE);
        due("aboard", x.dearest(1), NONE);
        x.miss(0);
        due("missed", x.dearest(0), NONE);
        x.undo();
        x.pass(12);
        due("done", x.dearest(0), NONE);
        x.book(0, 1, 0, 900);
        x.cancel(1);
        due("cancelled", x.dearest(0), NONE);
    }

    /** "by whose cancelling the route would be over the most minutes earlier": the last one, too. */
    static void theDearestSavesTheMost() {
        BookedDetours x = road(0, 10, 20);
        x.book(0, 1, 0, 900);
        x.book(1, 2, 0, 900);
        due("dearest(0)", x.dearest(0), 1);
        due("dearest(1)", x.dearest(1), 12);
        x.cancel(1);
        due("the only one, dearest(0)", x.dearest(0), 0);
        due("the only one, dearest(1)", x.dearest(1), 12);
    }

    /** "of several the lowest one". */
    static void ofEqualsTheLowestIsDearest() {
        BookedDetours x = road(0, 10);
        for (int ride = 0; ride < 3; ride++) x.book(0, 1, 0, 900);
        due("dearest(0)", x.dearest(0), 0);
        due("dearest(1)", x.dearest(1), 2);
        x.cancel(0);
        due("dearest(0)", x.dearest(0), 1);
    }

    /** "Finds the booked ride": also if the route would not be over earlier. */
    static void theDearestMaySaveNothing() {
        BookedDetours x = roadWith(3, 10, 0, 0, 0);
        x.book(0, 1, 0, 900);
        due("dearest(0)", x.dearest(0), 0);
        due("dearest(1)", x.dearest(1), 0);
    }

    /** "the route would be over": as the bus drives to a first visit all the same. */
    static void theDearestOnceTheBusIsOnItsWay() {
        BookedDetours x = road(0, 10, 20);
        x.book(1, 2, 50, 900);
        due("dearest(1), over at 0", x.dearest(1), 62);
        x.pass(5);
        due("dearest(1), over at 10", x.dearest(1), 52);
        x.pass(20);
        due("dearest(1), over now", x.dearest(1), 42);
    }

    // ---- Promise 17: put

    /** "BAD_VALUE if there is no character". */
    static void noCharacter() {
        BookedDetours x = new BookedDetours();
        due("put(0)", x.put(0), BAD_VALUE);
        due("count(12)", x.count(12), 0);
    }

    /** "a code is not 33 to 126". */
    static void codesAre33To126() {
        BookedDetours x = new BookedDetours();
        for (long code : new long[] {1, 32, 127, 128, 255}) {
            due("put " + code, x.put(code), BAD_VALUE);
            due("put a and " + code, x.put('a' << 8 | code), BAD_VALUE);
            due("put " + code + " and a", x.put(code << 8 | 'a'), BAD_VALUE);
            due("put " + code + " ahead of seven", x.put(code << 56 | 0x61616161616161L), BAD_VALUE);
        }
        due("put 33", x.put(33), 1);
        due("put 126", x.put(126), 2);
        due("put 33 and 126", x.put(33 << 8 | 126), 4);
    }

    /** "or a bit above 8 bits that are 0 is not 0". */
    static void nothingAboveBitsThatAre0() {
        BookedDetours x = new BookedDetours();
        due("no last character", x.put('a' << 8), BAD_VALUE);
        due("one left out", x.put('a' << 16 | 'b'), BAD_VALUE);
        for (int bit = 16; bit < 64; bit++) due("the bit " + bit, x.put(1L << bit | 'b'), BAD_VALUE);
        due("the highest bits", x.put(0x6100000000000062L), BAD_VALUE);
        due("count(12)", x.count(12), 0);
    }

    /** "1 to 8 characters". */
    static void oneToEightCharacters() {
        BookedDetours x = new BookedDetours();
        long characters = 0;
        int length = 0;
        for (int more = 1; more <= 8; more++) {
            characters = characters << 8 | 'a';
            length += more;
            due("put, " + more, x.put(characters), length);
        }
    }

    /** "its lowest 8 bits are the last character, the next 8 bits the one before, and so on". */
    static void theLowestBitsAreTheLastCharacter() {
        BookedDetours x = new BookedDetours();
        x.put((long) '0' << 48 | (long) '>' << 40 | (long) '1' << 32 | '@' << 24 | '2' << 16 | '-' << 8 | '3');
        due("0>1@2-3", x.fault(), NONE);
        x.wipe();
        x.put('0' << 8 | '>');
        due("0>", x.fault(), 2);
        x.put('>' << 8 | '0');
        due("0>>0", x.fault(), 2);
        x.wipe();
        x.put(0x3E31403630302D39L);
        due("the first of eight", x.fault(), 0);
    }

    /** "Appends characters to the pad": behind those that are there. */
    static void charactersAreAppended() {
        BookedDetours x = new BookedDetours();
        x.put('1');
        x.put('1');
        due("11", x.fault(), 2);
        x.put('1');
        due("111", x.fault(), 2);
    }

    /** "TOO_MANY if the pad would be longer than 60." */
    static void upTo60Characters() {
        BookedDetours x = new BookedDetours();
        for (int i = 0; i < 7; i++) x.put(0x6161616161616161L);
        due("56 and 5", x.put(0x6161616161L), TOO_MANY);
        due("none of them", x.count(12), 56);
        due("56 and 8", x.put(0x6161616161616161L), TOO_MANY);
        due("56 and 4", x.put(0x61616161L), 60);
        due("60 and 1", x.put('a'), TOO_MANY);
    }

    /** The order: BAD_VALUE, TOO_MANY. */
    static void putTellsBadValueFirst() {
        BookedDetours x = new BookedDetours();
        put(x, "012345678901234567890123456789012345678901234567890123456789");
        due("put(0)", x.put(0), BAD_VALUE);
        due("put(32)", x.put(32), BAD_VALUE);
        due("put('a')", x.put('a'), TOO_MANY);
    }

    // ---- Promise 18: wipe

    /** "Empties the pad, and returns the length that it had": 0, 1, or 60. */
    static void wipeReturnsTheLength() {
        BookedDetours x = new BookedDetours();
        due("an empty pad", x.wipe(), 0);
        x.put('a');
        due("one character", x.wipe(), 1);
        due("once more", x.wipe(), 0);
        put(x, "012345678901234567890123456789012345678901234567890123456789");
        due("60 characters", x.wipe(), 60);
        due("count(12)", x.count(12), 0);
        due("room again", x.put('0'), 1);
        due("nothing is left of them", x.fault(), 1);
    }

    // ---- Promise 19: fault

    /** "Returns the fault of the pad, NONE if there is none." */
    static void faultReturnsNoneIfThereIsNone() {
        due("0>1@2-3", faultOf("0>1@2-3"), NONE);
        due("a fault at 0", faultOf("a"), 0);
        due("a fault at the end", faultOf("0>1@2-"), 6);
    }

    /** The fault of the whole pad, not of a part of it: also at its end. */
    static void theFaultOfALongPad() {
        String most = "10>11@100-900;10>11@100-900;10>11@100-900;10>11@100-900;0>1";
        due("59 characters", faultOf(most), 59);
        due("60 characters", faultOf(most + "x"), 59);
        due("60 characters", faultOf(most + "@"), 60);
    }

    /** Asking for the fault changes neither the pad nor the day. */
    static void askingForTheFaultChangesNothing() {
        BookedDetours x = road(0, 10);
        put(x, "0>1@0-900");
        due("fault()", x.fault(), NONE);
        due("fault()", x.fault(), NONE);
        due("count(12)", x.count(12), 9);
        due("count(13)", x.count(13), 2);
        due("count(1)", x.count(1), 0);
        due("bookAll()", x.bookAll(), 1);
    }

    // ---- Promise 20: undo

    /** "NOT_POSSIBLE if there is none." */
    static void nothingToUndo() {
        BookedDetours x = new BookedDetours();
        due("a new day", x.undo(), NOT_POSSIBLE);
        x.stop(0, 0);
        due("one change", x.undo(), 0);
        due("no change any more", x.undo(), NOT_POSSIBLE);
        due("count(0)", x.count(0), 0);
    }

    /** "A history of at most 6 states is kept". */
    static void atMost6ChangesCanBeUndone() {
        BookedDetours x = new BookedDetours();
        for (int i = 0; i < 6; i++) x.stop(i, i);
        due("count(13)", x.count(13), 6);
        for (int i = 5; i >= 0; i--) due("undo()", x.undo(), i);
        due("all six", x.count(0), 0);
        for (int i = 0; i < 7; i++) x.stop(i, i);
        due("count(13), of seven", x.count(13), 6);
        for (int i = 5; i >= 0; i--) due("undo()", x.undo(), i);
        due("undo(), the first one", x.undo(), NOT_POSSIBLE);
        due("count(0)", x.count(0), 1);
    }

    /** "when one more is recorded, the oldest one is dropped". */
    static void theOldestStateIsDropped() {
        BookedDetours x = new BookedDetours();
        for (int i = 0; i < 9; i++) x.stop(i, i);
        due("count(13)", x.count(13), 6);
        for (int i = 5; i >= 0; i--) {
            due("undo()", x.undo(), i);
            due("count(0)", x.count(0), 3 + i);
        }
        due("undo()", x.undo(), NOT_POSSIBLE);
        due("count(0)", x.count(0), 3);
    }

    /** "each method that is a change, and returns no error, records the state before it": each of them. */
    static void eachChangeIsRecorded() {
        BookedDetours x = new BookedDetours();
        x.set(2, 1);
        due("set", x.count(13), 1);
        x.stop(0, 0);
        due("stop", x.count(13), 2);
        x.stop(10, 0);
        x.undo();
        x.undo();
        x.undo();
        x.stop(0, 0);
        x.stop(10, 0);
        x.book(0, 1, 0, 900);
        due("book", x.count(13), 3);
        x.cancel(0);
        due("cancel", x.count(13), 4);
        x.undo();
        x.pass(1);
        due("pass", x.count(13), 4);
        x.miss(0);
        due("miss", x.count(13), 5);
        x.undo();
        put(x, "0>1@0-900");
        x.bookAll();
        due("bookAll", x.count(13), 5);
        x.save(1);
        x.restore(1);
        due("restore", x.count(13), 6);
    }

    /** "and returns no error": a call that returns one records nothing. */
    static void errorsAreNotRecorded() {
        BookedDetours x = road(0, 10);
        x.book(0, 1, 0, 900);
        x.set(0, 9);
        x.set(0, 1);
        x.stop(31, 0);
        x.book(0, 2, 0, 900);
        x.book(0, 1, 0, 0);
        x.cancel(1);
        x.miss(0);
        x.pass(0);
        x.bookAll();
        x.restore(0);
        x.restore(2);
        due("count(13)", x.count(13), 3);
    }

    /** "(also if nothing is different then)". */
    static void aChangeThatChangesNothingIsRecorded() {
        BookedDetours x = road(0, 10);
        x.set(0, 3);
        due("set to the same value", x.count(13), 3);
        x.save(0);
        x.restore(0);
        due("restore what there is", x.count(13), 4);
        put(x, "1>1@0-0");
        x.bookAll();
        due("book none of a text", x.count(13), 5);
        for (int i = 4; i >= 2; i--) {
            due("undo()", x.undo(), i);
            due("count(0)", x.count(0), 2);
        }
        x.undo();
        due("count(0)", x.count(0), 1);
    }

    /** What is no change records nothing: questions, texts, save() and undo(). */
    static void whatIsNoChangeIsNotRecorded() {
        BookedDetours x = road(0, 10);
        x.book(0, 1, 0, 900);
        told(x);
        x.ifBooked(0, 1, 0, 900, 0);
        x.earliestBy(0, 1, 0);
        x.spare(0);
        x.dearest(0);
        x.put('a');
        x.fault();
        x.wipe();
        x.save(0);
        due("count(13)", x.count(13), 3);
        x.undo();
        due("count(13), undone", x.count(13), 2);
    }

    /** "everything except the pad, the slots and the history is as it was before it": behind each kind of change. */
    static void everythingIsAsItWasBefore() {
        for (int kind = 0; kind < 8; kind++) {
            BookedDetours x = road(0, 10);
            x.book(0, 1, 0, 900);
            x.save(0);
            x.book(1, 0, 60, 900);
            x.pass(kind == 0 ? 900 : 5);
            put(x, "1>0@0-900;0>1@0-900");
            String before = told(x);
            int answer = switch (kind) {
                case 0 -> x.set(1, 60);
                case 1 -> x.stop(4, 4);
                case 2 -> x.book(1, 0, 0, 900);
                case 3 -> x.cancel(1);
                case 4 -> x.pass(70);
                case 5 -> x.miss(0);
                case 6 -> x.bookAll();
                default -> x.restore(0);
            };
            due("the change " + kind + " returns no error", Math.min(answer, 0), 0);
            due("the change " + kind + " is one", told(x).equals(before) ? 1 : 0, 0);
            due("undo()", x.undo(), 5);
            same("the change " + kind + " undone", told(x), before);
        }
    }

    /** "everything except the pad": what was put stays, and what bookAll() emptied stays empty. */
    static void undoLeavesThePad() {
        BookedDetours x = road(0, 10);
        put(x, "0>1@0-900");
        x.undo();
        due("count(12)", x.count(12), 9);
        x.stop(10, 0);
        x.bookAll();
        x.undo();
        due("count(12), emptied", x.count(12), 0);
    }

    /** "everything except .. the slots": what was saved stays saved. */
    static void undoLeavesTheSlots() {
        BookedDetours x = road(0, 10);
        x.book(0, 1, 0, 900);
        x.save(0);
        x.undo();
        x.undo();
        due("restore(0)", x.restore(0), 1);
        due("count(0)", x.count(0), 2);
        x.cancel(0);
        x.save(0);
        x.undo();
        x.restore(0);
        due("ride(0, 4)", x.ride(0, 4), 3);
    }

    /** "Undoes the latest change": and a new one follows on what is left. */
    static void aChangeBehindAnUndo() {
        BookedDetours x = road(0, 10, 20);
        x.undo();
        due("stop", x.stop(15, 0), 2);
        due("count(13)", x.count(13), 3);
        x.undo();
        due("count(0)", x.count(0), 2);
        x.undo();
        due("count(0)", x.count(0), 1);
    }

    /** "A booking of a text records nothing by itself." */
    static void aBookingOfATextRecordsNothing() {
        BookedDetours x = road(0, 10);
        put(x, "0>1@0-900;0>1@0-900;0>1@0-900;0>1@0-900;0>1@0-900;0>1@0-90");
        due("bookAll()", x.bookAll(), 6);
        due("count(13)", x.count(13), 3);
        x.undo();
        x.undo();
        due("count(0)", x.count(0), 1);
    }

    // ---- Promise 21: save

    /** "BAD_VALUE if there is no such slot" (0 or 1). */
    static void noSuchSlotToSave() {
        BookedDetours x = new BookedDetours();
        for (int slot : new int[] {MIN, -1, 2, MAX}) due("save(" + slot + ")", x.save(slot), BAD_VALUE);
        due("save(0)", x.save(0), 0);
        due("save(1)", x.save(1), 0);
    }

    /** "Returns how many rides there are": none, or all, however they stand. */
    static void saveReturnsTheRides() {
        BookedDetours x = road(0, 10);
        due("no ride", x.save(0), 0);
        for (int ride = 0; ride < 16; ride++) x.book(0, 1, 0, 900);
        x.cancel(3);
        due("16 rides", x.save(0), 16);
        x.pass(2000);
        due("16 rides that were", x.save(1), 16);
    }

    /** "and overwrites what was saved there". */
    static void saveOverwrites() {
        BookedDetours x = road(0, 10);
        x.save(0);
        x.book(0, 1, 0, 900);
        x.save(0);
        x.book(0, 1, 0, 900);
        due("restore(0)", x.restore(0), 1);
    }

    /** "in a slot": not in the other one. */
    static void slotsAreApart() {
        BookedDetours x = road(0, 10);
        x.save(1);
        due("restore(0)", x.restore(0), NOT_POSSIBLE);
        x.book(0, 1, 0, 900);
        x.save(0);
        due("restore(1)", x.restore(1), 0);
        due("restore(0)", x.restore(0), 1);
    }

    /** "everything except the pad, the history and the slots". */
    static void thePadAndTheHistoryAreNotSaved() {
        BookedDetours x = road(0, 10);
        put(x, "0>1");
        x.save(0);
        x.wipe();
        x.stop(20, 0);
        x.restore(0);
        due("count(12)", x.count(12), 0);
        due("count(13)", x.count(13), 4);
        x.save(1);
        x.book(0, 1, 0, 900);
        x.save(0);
        x.restore(1);
        due("the slots are not saved", x.restore(0), 1);
    }

    /** "Saves everything": the settings, the stops, the rides, the route, now, and where the bus is free when. */
    static void everythingIsSaved() {
        BookedDetours x = new BookedDetours();
        x.set(0, 2);
        x.set(1, 20);
        x.set(2, 3);
        x.stop(0, 9);
        x.stop(10, 7);
        x.book(0, 1, 5, 800);
        x.book(1, 0, 4, 700);
        x.pass(21);
        x.pass(22);
        dueRoute(x, -1, -2);
        String saved = told(x);
        x.save(1);
        for (int i = 0; i < 6; i++) x.undo();
        x.stop(30, 1);
        x.stop(2, 30);
        x.book(1, 0, 50, 600);
        x.cancel(0);
        x.set(1, 7);
        x.restore(1);
        same("restored", told(x), saved);
        due("from where the bus is", x.ifBooked(1, 0, 30, 900, 1), 30);
    }

    // ---- Promise 22: restore

    /** "BAD_VALUE if there is no such slot" (0 or 1). */
    static void noSuchSlotToRestore() {
        BookedDetours x = new BookedDetours();
        x.save(0);
        x.save(1);
        for (int slot : new int[] {MIN, -1, 2, MAX}) due("restore(" + slot + ")", x.restore(slot), BAD_VALUE);
        due("restore(0)", x.restore(0), 0);
        due("restore(1)", x.restore(1), 0);
    }

    /** "NOT_POSSIBLE if nothing was saved in it." */
    static void nothingWasSaved() {
        BookedDetours x = road(0, 10);
        due("restore(0)", x.restore(0), NOT_POSSIBLE);
        due("restore(1)", x.restore(1), NOT_POSSIBLE);
        due("count(0)", x.count(0), 2);
        x.save(0);
        due("restore(1)", x.restore(1), NOT_POSSIBLE);
        due("restore(0)", x.restore(0), 0);
    }

    /** The order: BAD_VALUE, NOT_POSSIBLE. */
    static void restoreTellsBadValueFirst() {
        due("restore(2)", new BookedDetours().restore(2), BAD_VALUE);
    }

    /** "in a slot, which keeps it": whatever happens then. */
    static void theSlotKeepsWhatWasSaved() {
        BookedDetours x = road(0, 10);
        x.book(0, 1, 0, 900);
        x.save(0);
        for (int i = 0; i < 3; i++) {
            due("restore(0)", x.restore(0), 1);
            dueRoute(x, 0, -1);
            due("count(3)", x.count(3), 0);
            x.book(0, 1, 0, 900);
            x.cancel(0);
            x.pass(500);
        }
    }

    /** "Returns how many rides there are then". */
    static void restoreReturnsTheRidesThatAreThen() {
        BookedDetours x = road(0, 10);
        x.save(0);
        x.book(0, 1, 0, 900);
        x.save(1);
        x.book(0, 1, 0, 900);
        due("restore(1)", x.restore(1), 1);
        due("restore(0)", x.restore(0), 0);
        due("restore(1)", x.restore(1), 1);
    }

    /** "This is a change." */
    static void restoringIsAChange() {
        BookedDetours x = road(0, 10);
        x.save(0);
        x.book(0, 1, 0, 900);
        x.pass(5);
        String before = told(x);
        x.restore(0);
        due("count(13)", x.count(13), 5);
        due("undo()", x.undo(), 4);
        same("undone", told(x), before);
    }

    public static void main(String[] args) throws IllegalAccessException {
        runAll(PromiseSentences.class);
    }
}
