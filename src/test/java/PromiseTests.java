/** For each promise of the document: ordinary calls, the edges that it names, and wrong arguments; worked out by hand. */
public final class PromiseTests {
    static final int NO_SUCH = -1, BAD_VALUE = -2, BAD_TEXT = -3, TOO_MANY = -4, NOT_POSSIBLE = -5, NONE = -6;
    private static final int MIN = Integer.MIN_VALUE, MAX = Integer.MAX_VALUE;

    private static int wrong;
    private static String promise = "";

    private static void due(String call, int got, int want) {
        if (got == want) return;
        wrong++;
        System.out.println(promise + ": " + call + " answered " + got + ", due is " + want);
    }

    /** A day with stops at these places of one road. */
    private static BookedDetours road(int... xs) {
        BookedDetours x = new BookedDetours();
        for (int at : xs) x.stop(at, 0);
        return x;
    }

    private static int put(BookedDetours x, String text) {
        int answer = 0;
        for (int i = 0; i < text.length(); i += 8) {
            long characters = 0;
            for (int j = i; j < text.length() && j < i + 8; j++) characters = characters << 8 | text.charAt(j);
            answer = x.put(characters);
        }
        return answer;
    }

    private static int faultOf(String text) {
        BookedDetours x = new BookedDetours();
        put(x, text);
        return x.fault();
    }

    /** The rides of the route's visits, setting down told as -1 - ride. */
    private static void dueRoute(BookedDetours x, int... want) {
        due("count(2)", x.count(2), want.length);
        for (int i = 0; i < want.length; i++) {
            int ride = want[i] < 0 ? -1 - want[i] : want[i];
            due("visit(" + i + ", 0)", x.visit(i, 0), ride);
            due("visit(" + i + ", 1)", x.visit(i, 1), want[i] < 0 ? 1 : 0);
        }
    }

    private static void dueTimes(BookedDetours x, int... want) {
        for (int i = 0; i < want.length; i++) due("visit(" + i + ", 3)", x.visit(i, 3), want[i]);
    }

    private static void aNewObject() {
        promise = "promise 1";
        BookedDetours x = new BookedDetours();
        int[] counts = {0, 0, 0, 0, 0, 0, 0, 0, 0, 3, 10, 1, 0, 0};
        for (int what = 0; what < counts.length; what++) due("count(" + what + ")", x.count(what), counts[what]);
        due("visit(0, 0)", x.visit(0, 0), NO_SUCH);
        due("ride(0, 0)", x.ride(0, 0), NO_SUCH);
        due("coordinate(0, 0)", x.coordinate(0, 0), NO_SUCH);
        due("dearest(0)", x.dearest(0), NONE);
        due("undo()", x.undo(), NOT_POSSIBLE);
        due("restore(0)", x.restore(0), NOT_POSSIBLE);
        due("wipe()", x.wipe(), 0);
        due("pass(1)", x.pass(1), 0);
        due("count(4)", x.count(4), 0);
    }

    private static void settings() {
        promise = "promise 2";
        BookedDetours x = road(0, 10);
        int[][] ranges = {{1, 8, 3}, {0, 60, 10}, {0, 5, 1}};
        for (int setting = 0; setting < 3; setting++) {
            int least = ranges[setting][0], most = ranges[setting][1];
            due("set below", x.set(setting, least - 1), BAD_VALUE);
            due("set above", x.set(setting, most + 1), BAD_VALUE);
            due("set least", x.set(setting, least), ranges[setting][2]);
            due("set most", x.set(setting, most), least);
            due("set the same", x.set(setting, most), most);
            due("count(9 + setting)", x.count(9 + setting), most);
        }
        due("set(-1, 1)", x.set(-1, 1), BAD_VALUE);
        due("set(3, 1)", x.set(3, 1), BAD_VALUE);
        due("set(MIN, 1)", x.set(MIN, 1), BAD_VALUE);
        due("set(0, MAX)", x.set(0, MAX), BAD_VALUE);
        due("book", x.book(0, 1, 0, 900), 0);
        due("set with visits", x.set(2, 1), NOT_POSSIBLE);
        due("set wrong with visits", x.set(2, 6), BAD_VALUE);
        due("count(11)", x.count(11), 5);
        x.pass(6);
        due("set with a ride aboard", x.set(0, 1), NOT_POSSIBLE);
        x.pass(100);
        due("set without visits", x.set(2, 1), 5);
        due("undo()", x.undo(), 5);
        due("count(11)", x.count(11), 5);
    }

    private static void stops() {
        promise = "promise 3";
        BookedDetours x = new BookedDetours();
        due("stop(-1, 0)", x.stop(-1, 0), BAD_VALUE);
        due("stop(0, -1)", x.stop(0, -1), BAD_VALUE);
        due("stop(31, 0)", x.stop(31, 0), BAD_VALUE);
        due("stop(0, 31)", x.stop(0, 31), BAD_VALUE);
        due("stop(MIN, MAX)", x.stop(MIN, MAX), BAD_VALUE);
        due("count(13)", x.count(13), 0);
        due("stop(30, 0)", x.stop(30, 0), 0);
        due("stop(0, 30)", x.stop(0, 30), 1);
        x.book(0, 1, 0, 900);
        for (int i = 2; i < 12; i++) due("stop", x.stop(i, i), i);
        due("a 13th stop", x.stop(1, 1), TOO_MANY);
        due("a wrong 13th stop", x.stop(1, 31), BAD_VALUE);
        due("count(0)", x.count(0), 12);
        due("undo()", x.undo(), 5);
        due("count(0)", x.count(0), 11);
        due("stop(5, 5)", x.stop(5, 5), 11);
    }

    private static void bookingErrors() {
        promise = "promise 4 (errors)";
        BookedDetours x = road(0, 10);
        due("book(2, 0)", x.book(2, 0, 0, 900), NO_SUCH);
        due("book(0, 2)", x.book(0, 2, 0, 900), NO_SUCH);
        due("book(-1, -1)", x.book(-1, -1, -1, 901), NO_SUCH);
        due("book(0, MAX)", x.book(0, MAX, 0, 900), NO_SUCH);
        due("book(1, 1)", x.book(1, 1, 0, 900), BAD_VALUE);
        due("wait -1", x.book(0, 1, -1, 900), BAD_VALUE);
        due("wait 601", x.book(0, 1, 601, 900), BAD_VALUE);
        due("by -1", x.book(0, 1, 0, -1), BAD_VALUE);
        due("by 901", x.book(0, 1, 0, 901), BAD_VALUE);
        due("by 10", x.book(0, 1, 0, 10), NOT_POSSIBLE);
        due("count(1)", x.count(1), 0);
        due("count(13)", x.count(13), 2);
        due("by 11", x.book(0, 1, 0, 11), 0);
        due("wait 600", x.book(0, 1, 600, 900), 1);
        for (int ride = 2; ride < 16; ride++) due("book", x.book(0, 1, 600, 900), ride);
        due("a 17th ride", x.book(0, 1, 0, 900), TOO_MANY);
        due("a 17th ride, not possible", x.book(0, 1, 600, 0), TOO_MANY);
        due("a 17th ride, wrong", x.book(0, 1, 0, 901), BAD_VALUE);
        due("ifBooked a 17th ride", x.ifBooked(0, 1, 0, 900, 1), 22);
        due("earliestBy a 17th ride", x.earliestBy(0, 1, 0), 33);
        x.cancel(15);
        due("cancelled rides keep their numbers", x.book(0, 1, 0, 900), TOO_MANY);
    }

    private static void bookingWays() {
        promise = "promise 4 (where it is put in)";
        BookedDetours x = road(0, 5);
        x.set(2, 0);
        x.book(0, 1, 0, 900);
        due("the second one", x.book(0, 1, 0, 900), 1);
        dueRoute(x, 1, 0, -2, -1);
        dueTimes(x, 0, 0, 5, 5);

        x = road(0, 5);
        x.set(2, 0);
        x.set(0, 1);
        x.book(0, 1, 0, 900);
        due("ways with one seat", x.ifBooked(0, 1, 0, 900, 3), 2);
        x.book(0, 1, 0, 900);
        dueRoute(x, 1, -2, 0, -1);
        due("count(4)", x.count(4), 15);

        x = road(0, 5);
        x.set(2, 0);
        x.set(0, 1);
        x.book(0, 1, 0, 900);
        // One gets out where the other one gets in: only in this order.
        due("the way back", x.ifBooked(1, 0, 0, 900, 3), 2);
        x.book(1, 0, 0, 900);
        dueRoute(x, 0, -1, 1, -2);

        x = road(0, 10, 20);
        x.set(1, 0);
        x.set(2, 0);
        x.book(0, 2, 0, 900);
        due("on the way", x.book(0, 1, 0, 900), 1);
        dueRoute(x, 1, 0, -2, -1);
        dueTimes(x, 0, 0, 10, 20);
    }

    private static void bookingPromises() {
        promise = "promise 4 (promises that are kept)";
        BookedDetours x = new BookedDetours();
        x.stop(0, 0);
        x.stop(20, 0);
        x.stop(10, 2);
        x.set(2, 2);
        x.set(1, 5);
        x.book(0, 1, 0, 900);
        // By 2, with a visit there, it takes 12 + 2 + 12 minutes from 0 to 1, one more than 25.
        due("a detour of 6", x.ifBooked(0, 2, 0, 900, 0), 28);
        x.cancel(0);
        x.set(1, 6);
        x.book(0, 1, 0, 900);
        due("with a slack of 6", x.ifBooked(0, 2, 0, 900, 0), 8);
        due("with a slack of 6", x.book(0, 2, 0, 900), 2);
        dueRoute(x, 2, 1, -3, -2);
        dueTimes(x, 0, 2, 16, 30);

        x = road(0, 10, 20);
        x.book(0, 2, 0, 21);
        due("a promise that would break", x.ifBooked(0, 1, 0, 900, 1), 42);
        due("ways", x.ifBooked(0, 1, 0, 900, 3), 1);
        due("by 42", x.book(0, 1, 0, 52), NOT_POSSIBLE);
        due("by 53", x.book(0, 1, 0, 53), 1);
        dueRoute(x, 0, -1, 1, -2);

        x = road(0, 10);
        x.book(0, 1, 100, 111);
        due("the only way is ahead", x.ifBooked(0, 1, 0, 11, 3), 1);
        due("the only way is ahead", x.book(0, 1, 0, 11), 1);
        dueRoute(x, 1, -2, 0, -1);

        x = road(0, 10);
        x.set(0, 2);
        x.book(0, 1, 0, 14);
        x.book(0, 1, 0, 14);
        due("no seat", x.book(0, 1, 0, 31), NOT_POSSIBLE);
        due("a seat later", x.book(0, 1, 0, 900), 2);
        due("visit(1, 4)", x.visit(1, 4), 2);
        due("visit(5, 4)", x.visit(5, 4), 0);
    }

    private static void bookingAndNow() {
        promise = "promise 4 (now)";
        BookedDetours x = road(0, 10, 20);
        x.pass(50);
        due("count(4)", x.count(4), 0);
        due("ifBooked 0", x.ifBooked(0, 1, 0, 900, 0), 62);
        due("not booked: nothing changes", x.book(0, 1, 0, 60), NOT_POSSIBLE);
        due("count(4)", x.count(4), 0);
        due("book", x.book(0, 1, 0, 61), 0);
        dueTimes(x, 50, 61);
        due("none is late for it", x.ifBooked(0, 1, 0, 900, 1), 72);
        x.cancel(0);
        due("count(4) after cancelling", x.count(4), 50);
        due("undo()", x.undo(), 5);
        due("count(4)", x.count(4), 62);
        x.cancel(0);
        x.book(0, 1, 0, 900);
        due("another one ahead", x.ifBooked(0, 1, 0, 900, 1), 50);

        x = road(0, 10, 20);
        x.book(1, 2, 0, 100);
        due("not on its way", x.ifBooked(0, 1, 0, 900, 1), 0);
        x.pass(1);
        due("on its way", x.ifBooked(0, 1, 0, 900, 1), 42);
        due("on its way", x.ifBooked(0, 1, 0, 900, 3), 1);
        due("count(4)", x.count(4), 22);

        x = road(0, 10, 20);
        x.set(2, 3);
        x.book(0, 2, 0, 100);
        due("pass(3)", x.pass(3), 1);
        due("leaves now", x.ifBooked(0, 2, 0, 900, 1), 3);
        x.pass(4);
        due("has left", x.ifBooked(0, 2, 0, 900, 1), 23 + 3 + 20);

        x = road(0, 10);
        x.set(2, 5);
        x.book(0, 1, 0, 100);
        x.pass(16);
        due("count(4): free later than now", x.count(4), 20);
        due("leaves when it is free", x.ifBooked(1, 0, 0, 900, 1), 20);
    }

    private static void bookingWhenBroken() {
        promise = "promise 4 (after cancelling)";
        // Ride 1 waits aboard for ride 2; that the bus comes later by ride 0 keeps this short.
        BookedDetours x = road(0, 30, 20);
        x.set(2, 0);
        x.set(1, 5);
        due("book 0", x.book(0, 1, 20, 100), 0);
        due("book 1", x.book(1, 0, 0, 100), 1);
        due("book 2", x.book(2, 0, 62, 100), 2);
        dueRoute(x, 0, 1, -1, 2, -3, -2);
        dueTimes(x, 20, 50, 50, 62, 82, 82);
        due("cancel(0)", x.cancel(0), 4);
        dueTimes(x, 30, 62, 82, 82);
        due("nothing can be booked", x.ifBooked(0, 1, 500, 900, 3), 0);
        due("nothing can be booked", x.book(0, 1, 500, 900), NOT_POSSIBLE);
        due("earliestBy", x.earliestBy(0, 1, 500), NONE);
        // To wait for another one at 1 until 47 mends it.
        due("but what mends it", x.ifBooked(1, 0, 47, 100, 1), 47);
        due("but what mends it", x.book(1, 0, 47, 100), 3);
        due("ride(1, 5)", x.ride(1, 5), 47);
    }

    private static void cancelling() {
        promise = "promise 5";
        BookedDetours x = road(0, 10, 20);
        due("cancel(0)", x.cancel(0), NO_SUCH);
        x.book(1, 2, 0, 100);
        x.book(1, 2, 0, 100);
        due("cancel(-1)", x.cancel(-1), NO_SUCH);
        due("cancel(2)", x.cancel(2), NO_SUCH);
        due("cancel(MAX)", x.cancel(MAX), NO_SUCH);
        due("cancel(0)", x.cancel(0), 2);
        due("cancel(0) again", x.cancel(0), NOT_POSSIBLE);
        due("ride(0, 4)", x.ride(0, 4), 3);
        due("ride(0, 5)", x.ride(0, 5), NONE);
        due("ride(0, 6)", x.ride(0, 6), NONE);
        due("count(4) not on its way", x.count(4), 22);
        due("cancel(1)", x.cancel(1), 0);
        due("count(4)", x.count(4), 0);
        due("count(1)", x.count(1), 2);

        x = road(0, 10, 20);
        x.book(1, 2, 30, 100);
        x.pass(4);
        due("on its way", x.cancel(0), 0);
        due("it drives there", x.count(4), 10);
        due("from there", x.ifBooked(1, 0, 0, 900, 1), 10);
        x.undo();
        x.pass(30);
        due("aboard only behind 30", x.cancel(0), 0);
        due("free now", x.count(4), 30);
        x.undo();
        x.pass(31);
        due("aboard", x.cancel(0), NOT_POSSIBLE);

        x = road(0, 10, 20);
        x.book(1, 2, 0, 100);
        x.book(0, 1, 40, 100);
        dueRoute(x, 0, -1, 1, -2);
        x.pass(3);
        due("a later one leaves", x.cancel(1), 2);
        due("the way stays", x.visit(0, 3), 10);
        due("count(7)", x.count(7), 20);

        x = road(0, 10, 20);
        x.book(1, 2, 0, 100);
        x.book(1, 2, 0, 100);
        dueRoute(x, 1, 0, -2, -1);
        x.pass(3);
        due("the second one leaves", x.cancel(0), 2);
        due("count(7)", x.count(7), 20);
        due("count(4)", x.count(4), 22);
    }

    private static void passing() {
        promise = "promise 6";
        BookedDetours x = road(0, 10, 20);
        due("pass(0)", x.pass(0), BAD_VALUE);
        due("pass(-5)", x.pass(-5), BAD_VALUE);
        due("pass(2001)", x.pass(2001), BAD_VALUE);
        due("pass(MAX)", x.pass(MAX), BAD_VALUE);
        x.book(0, 1, 5, 100);
        x.book(0, 2, 5, 100);
        dueTimes(x, 5, 6, 17, 28);
        due("pass(5)", x.pass(5), 0);
        due("pass(5) again", x.pass(5), BAD_VALUE);
        due("pass(6)", x.pass(6), 1);
        due("count(5)", x.count(5), 1);
        due("pass(17)", x.pass(17), 1);
        due("count(5)", x.count(5), 2);
        due("pass(18)", x.pass(18), 1);
        due("count(5)", x.count(5), 1);
        due("count(6)", x.count(6), 1);
        due("count(3)", x.count(3), 18);
        due("count(2)", x.count(2), 1);
        due("pass(2000)", x.pass(2000), 1);
        due("count(6)", x.count(6), 2);
        due("count(4)", x.count(4), 29);
        due("the day is over", x.pass(2000), BAD_VALUE);
        due("undo()", x.undo(), 5);
        due("count(3)", x.count(3), 18);
        due("count(2)", x.count(2), 1);
    }

    private static void missing() {
        promise = "promise 7";
        BookedDetours x = road(0, 10, 20, 30);
        due("miss(0)", x.miss(0), NO_SUCH);
        x.book(0, 1, 0, 100);
        x.book(0, 2, 0, 100);
        due("miss(-1)", x.miss(-1), NO_SUCH);
        due("booked only", x.miss(0), NOT_POSSIBLE);
        // [1 0 -1 -2] at 0 1 12 23
        due("pass(2)", x.pass(2), 2);
        due("miss(1), the later one", x.miss(1), 1);
        due("ride(1, 4)", x.ride(1, 4), 4);
        due("when the visit was", x.ride(1, 5), 0);
        due("ride(1, 6)", x.ride(1, 6), NONE);
        due("count(5)", x.count(5), 1);
        due("missed already", x.miss(1), NOT_POSSIBLE);
        due("spare(1)", x.spare(1), NOT_POSSIBLE);
        due("cancel(1)", x.cancel(1), NOT_POSSIBLE);
        due("not on its way, as it leaves at 2", x.miss(0), 0);
        due("count(4)", x.count(4), 2);
        due("undo()", x.undo(), 5);
        x.pass(3);
        due("on its way", x.miss(0), 0);
        due("count(4)", x.count(4), 12);
        due("from stop 1", x.ifBooked(1, 0, 0, 900, 1), 12);
    }

    private static void bookingOfTexts() {
        promise = "promise 8";
        BookedDetours x = road(0, 10, 20);
        due("an empty pad", x.bookAll(), BAD_TEXT);
        put(x, "0>1@0-900;1>2@0-");
        due("a text that ends too early", x.bookAll(), BAD_TEXT);
        due("the pad stays", x.count(12), 16);
        due("nothing is recorded", x.count(13), 3);
        put(x, "900");
        due("bookAll()", x.bookAll(), 2);
        due("the pad is empty", x.count(12), 0);
        due("one change", x.count(13), 4);
        due("ride(1, 1)", x.ride(1, 1), 2);
        put(x, "0>1@0-900;2>2@0-900;0>1@0-900");
        due("up to the error", x.bookAll(), 1);
        due("count(1)", x.count(1), 3);
        put(x, "0>3@0-900;0>1@0-900");
        due("none", x.bookAll(), 0);
        due("a change, too", x.count(13), 6);
        due("emptied, too", x.count(12), 0);
        due("undo()", x.undo(), 5);
        due("count(1)", x.count(1), 3);
        due("undo()", x.undo(), 4);
        due("undo()", x.undo(), 3);
        due("count(1)", x.count(1), 0);
        due("the pad is not undone", x.count(12), 0);
        put(x, "0>1@0-10");
        due("not possible", x.bookAll(), 0);
        put(x, "0>1@600-900;2>1@10-300");
        due("two digits and three", x.bookAll(), 2);
        due("ride(0, 2)", x.ride(0, 2), 600);
        due("ride(0, 3)", x.ride(0, 3), 900);
        due("ride(1, 0)", x.ride(1, 0), 2);
        due("ride(1, 2)", x.ride(1, 2), 10);
        due("ride(1, 3)", x.ride(1, 3), 300);

        x = road(0, 1, 2, 3, 4, 5, 6, 7, 8, 9, 10, 11);
        put(x, "11>10@0-900;0>1@0-9;0>1@0-9;0>1@0-9;0>1@0-9;0>1@0-9;0>1@0-9");
        due("60 characters at most", x.count(12), 59);
        x.wipe();
        put(x, "11>10@0-900;0>1@0-90;0>1@0-90;0>1@0-90;0>1@0-90;0>1@0-90");
        due("six of them", x.bookAll(), 6);
        for (int i = 0; i < 10; i++) due("book", x.book(0, 1, 0, 900), 6 + i);
        put(x, "0>1@0-900");
        due("when there are 16", x.bookAll(), 0);
    }

    private static void rides() {
        promise = "promise 9";
        BookedDetours x = new BookedDetours();
        x.stop(1, 2);
        x.stop(4, 9);
        x.book(1, 0, 30, 200);
        int[] want = {1, 0, 30, 200, 0, 30, 41, 10};
        for (int what = 0; what < 8; what++) due("ride(0, " + what + ")", x.ride(0, what), want[what]);
        due("ride(0, 8)", x.ride(0, 8), BAD_VALUE);
        due("ride(0, -1)", x.ride(0, -1), BAD_VALUE);
        due("ride(1, 9)", x.ride(1, 9), NO_SUCH);
        due("ride(-1, 0)", x.ride(-1, 0), NO_SUCH);
        due("ride(MIN, MIN)", x.ride(MIN, MIN), NO_SUCH);
        x.pass(31);
        due("aboard", x.ride(0, 4), 1);
        due("as it was", x.ride(0, 5), 30);
        due("as it will be", x.ride(0, 6), 41);
        x.pass(42);
        due("done", x.ride(0, 4), 2);
        due("as it was", x.ride(0, 5), 30);
        due("as it was", x.ride(0, 6), 41);
        x.book(0, 1, 0, 900);
        x.cancel(1);
        due("cancelled", x.ride(1, 4), 3);
        due("never", x.ride(1, 5), NONE);
        due("never", x.ride(1, 6), NONE);
        due("ride(1, 7)", x.ride(1, 7), 10);
    }

    private static void visits() {
        promise = "promise 10";
        BookedDetours x = road(0, 10, 20);
        x.book(1, 2, 15, 200);
        int[] first = {0, 0, 1, 15, 1, 5};
        int[] second = {0, 1, 2, 26, 0, 0};
        for (int what = 0; what < 6; what++) {
            due("visit(0, " + what + ")", x.visit(0, what), first[what]);
            due("visit(1, " + what + ")", x.visit(1, what), second[what]);
        }
        due("visit(0, 6)", x.visit(0, 6), BAD_VALUE);
        due("visit(0, -1)", x.visit(0, -1), BAD_VALUE);
        due("visit(2, 6)", x.visit(2, 6), NO_SUCH);
        due("visit(-1, 0)", x.visit(-1, 0), NO_SUCH);
        due("visit(MAX, 0)", x.visit(MAX, 0), NO_SUCH);
        x.pass(16);
        due("visit(0, 1)", x.visit(0, 1), 1);
        due("visit(0, 4)", x.visit(0, 4), 0);
        due("visit(0, 5)", x.visit(0, 5), 0);
        x.book(2, 1, 0, 200);
        dueRoute(x, 1, -1, -2);
        due("visit(1, 4)", x.visit(1, 4), 1);
        due("visit(1, 3)", x.visit(1, 3), 27);
    }

    /** Each answer is asked for first behind a change. */
    private static void answersBehindChanges() {
        promise = "promises 9, 10, 12 and 15";
        BookedDetours x = road(0, 10, 20);
        for (int wait = 10; wait <= 90; wait += 20) {
            x.book(1, 2, wait, wait + 100);
            due("ride(r, 5)", x.ride(x.count(1) - 1, 5), wait);
            x.undo();
            x.book(1, 2, wait + 1, wait + 100);
            due("ride(r, 6)", x.ride(x.count(1) - 1, 6), wait + 12);
            x.undo();
            x.book(1, 2, wait + 2, wait + 100);
            due("count(8)", x.count(8), wait - 8);
            x.undo();
            x.book(1, 0, wait, wait + 100);
            due("count(7)", x.count(7), 20);
            x.undo();
            due("count(7)", x.count(7), 0);
            x.book(2, 0, wait, wait + 100);
            due("count(4)", x.count(4), Math.max(20, wait) + 22);
            x.undo();
            x.book(1, 0, wait + 3, wait + 100);
            due("visit(0, 3)", x.visit(0, 3), wait + 3);
            x.undo();
            x.book(1, 0, wait + 4, wait + 100);
            due("spare(r)", x.spare(x.count(1) - 1), 85);
            x.undo();
        }
    }

    private static void coordinates() {
        promise = "promise 11";
        BookedDetours x = new BookedDetours();
        x.stop(7, 9);
        x.stop(30, 0);
        due("coordinate(0, 0)", x.coordinate(0, 0), 7);
        due("coordinate(0, 1)", x.coordinate(0, 1), 9);
        due("coordinate(1, 0)", x.coordinate(1, 0), 30);
        due("coordinate(1, 1)", x.coordinate(1, 1), 0);
        due("coordinate(0, 2)", x.coordinate(0, 2), BAD_VALUE);
        due("coordinate(0, -1)", x.coordinate(0, -1), BAD_VALUE);
        due("coordinate(2, 2)", x.coordinate(2, 2), NO_SUCH);
        due("coordinate(-1, 0)", x.coordinate(-1, 0), NO_SUCH);
    }

    private static void counts() {
        promise = "promise 12";
        BookedDetours x = road(0, 10, 20);
        x.set(0, 4);
        x.set(1, 20);
        x.set(2, 2);
        x.book(1, 2, 15, 200);
        x.book(2, 0, 100, 300);
        put(x, "abc");
        // Times 15, 27 (free at 29), 100 (free at 102), 122.
        int[] want = {3, 2, 4, 0, 124, 0, 0, 40, 76, 4, 20, 2, 3, 6};
        for (int what = 0; what < 14; what++) due("count(" + what + ")", x.count(what), want[what]);
        due("count(14)", x.count(14), BAD_VALUE);
        due("count(-1)", x.count(-1), BAD_VALUE);
        due("count(MIN)", x.count(MIN), BAD_VALUE);
        x.pass(20);
        int[] later = {3, 2, 3, 20, 124, 1, 0, 30, 71};
        for (int what = 0; what < later.length; what++) due("count(" + what + ")", x.count(what), later[what]);
        x.pass(28);
        int[] last = {3, 2, 2, 28, 124, 0, 1, 20, 71};
        for (int what = 0; what < last.length; what++) due("count(" + what + ")", x.count(what), last[what]);
    }

    private static void whatIf() {
        promise = "promise 13";
        BookedDetours x = road(0, 10, 20);
        due("ifBooked(3, 0)", x.ifBooked(3, 0, -1, 0, 9), NO_SUCH);
        due("ifBooked(0, -1)", x.ifBooked(0, -1, 0, 0, 0), NO_SUCH);
        due("ifBooked(1, 1)", x.ifBooked(1, 1, 0, 900, 3), BAD_VALUE);
        due("wait -1", x.ifBooked(0, 1, -1, 900, 3), BAD_VALUE);
        due("wait 601", x.ifBooked(0, 1, 601, 900, 3), BAD_VALUE);
        due("by -1", x.ifBooked(0, 1, 0, -1, 3), BAD_VALUE);
        due("by 901", x.ifBooked(0, 1, 0, 901, 3), BAD_VALUE);
        due("what -1", x.ifBooked(0, 1, 0, 900, -1), BAD_VALUE);
        due("what 4", x.ifBooked(0, 1, 0, 0, 4), BAD_VALUE);
        for (int what = 0; what < 3; what++) due("cannot", x.ifBooked(0, 1, 0, 10, what), NONE);
        due("cannot, ways", x.ifBooked(0, 1, 0, 10, 3), 0);
        due("0", x.ifBooked(1, 2, 0, 900, 0), 22);
        due("1", x.ifBooked(1, 2, 0, 900, 1), 10);
        due("2", x.ifBooked(1, 2, 0, 900, 2), 21);
        due("3", x.ifBooked(1, 2, 0, 900, 3), 1);
        x.book(1, 2, 50, 900);
        due("while it waits", x.ifBooked(0, 1, 0, 900, 0), 0);
        due("while it waits", x.ifBooked(0, 1, 0, 900, 2), 11);
        due("nothing changed", x.count(1), 1);
        due("nothing changed", x.count(2), 2);
        due("nothing recorded", x.count(13), 4);
    }

    private static void earliest() {
        promise = "promise 14";
        BookedDetours x = road(0, 10, 20);
        due("earliestBy(3, 0)", x.earliestBy(3, 0, -1), NO_SUCH);
        due("earliestBy(0, -1)", x.earliestBy(0, -1, 0), NO_SUCH);
        due("earliestBy(1, 1)", x.earliestBy(1, 1, 0), BAD_VALUE);
        due("wait -1", x.earliestBy(0, 1, -1), BAD_VALUE);
        due("wait 601", x.earliestBy(0, 1, 601), BAD_VALUE);
        due("wait 600", x.earliestBy(0, 1, 600), 611);
        x.set(1, 0);
        x.book(0, 2, 0, 900);
        // Over earliest is not there earliest: behind ride 0 it would be done by 52.
        due("ahead of the other", x.earliestBy(1, 0, 0), 21);
        due("it can be booked with it", x.ifBooked(1, 0, 0, 21, 3), 1);
        due("but not with less", x.ifBooked(1, 0, 0, 20, 3), 0);
        x.pass(899);
        due("by 899", x.earliestBy(2, 1, 0), NONE);
        x.undo();
        x.pass(888);
        due("by 899 from where it is", x.earliestBy(2, 1, 0), 899);
        x.pass(889);
        due("by 900", x.earliestBy(2, 1, 0), 900);
        x.pass(890);
        due("by 901", x.earliestBy(2, 1, 0), NONE);
    }

    private static void spareTime() {
        promise = "promise 15";
        BookedDetours x = road(0, 10, 20);
        due("spare(0)", x.spare(0), NO_SUCH);
        x.book(0, 1, 0, 11);
        x.book(1, 2, 0, 100);
        due("spare(-1)", x.spare(-1), NO_SUCH);
        due("spare(2)", x.spare(2), NO_SUCH);
        due("spare(0)", x.spare(0), 0);
        due("spare(1)", x.spare(1), 77);
        x.pass(1);
        due("aboard", x.spare(0), 0);
        x.pass(12);
        due("done", x.spare(0), NOT_POSSIBLE);
        x.cancel(1);
        due("cancelled", x.spare(1), NOT_POSSIBLE);
    }

    private static void dearestRides() {
        promise = "promise 16";
        BookedDetours x = road(0, 10, 20);
        due("dearest(-1)", x.dearest(-1), BAD_VALUE);
        due("dearest(2)", x.dearest(2), BAD_VALUE);
        due("no ride", x.dearest(0), NONE);
        due("no ride", x.dearest(1), NONE);
        x.book(0, 1, 0, 900);
        x.book(1, 2, 0, 900);
        // [0 -1 1 -2]: over at 24; without 0 at 22, without 1 at 12.
        due("dearest(0)", x.dearest(0), 1);
        due("dearest(1)", x.dearest(1), 12);
        due("nothing changed", x.count(2), 4);
        due("nothing recorded", x.count(13), 5);
        x.pass(1);
        due("ride 0 is aboard", x.dearest(0), 1);
        x.pass(13);
        due("none is booked", x.dearest(0), NONE);

        x = road(0, 10);
        x.book(0, 1, 0, 900);
        x.book(0, 1, 0, 900);
        due("the lowest of equals", x.dearest(0), 0);
        due("minutes", x.dearest(1), 2);

        x = road(0, 10, 20);
        x.book(1, 2, 50, 900);
        x.pass(20);
        due("it drives there all the same", x.dearest(1), 62 - 20);
    }

    private static void putting() {
        promise = "promise 17";
        BookedDetours x = new BookedDetours();
        due("put(0)", x.put(0), BAD_VALUE);
        due("32 is no character", x.put(32), BAD_VALUE);
        due("33 is one", x.put(33), 1);
        due("126 is one", x.put(126), 2);
        due("127 is none", x.put(127), BAD_VALUE);
        due("none at the end", x.put('a' << 8), BAD_VALUE);
        due("a gap", x.put('a' << 16 | 'b'), BAD_VALUE);
        due("a bit high above", x.put(1L << 63 | 'b'), BAD_VALUE);
        due("a bit high above", x.put(1L << 56 | 'b'), BAD_VALUE);
        due("negative", x.put(-1), BAD_VALUE);
        due("eight, the first one too high", x.put(0xFF61616161616161L), BAD_VALUE);
        due("count(12)", x.count(12), 2);
        due("two", x.put('a' << 8 | 'b'), 4);
        for (int i = 1; i <= 7; i++) due("eight", x.put(0x6162636465666768L), 4 + 8 * i);
        due("over 60", x.put('a'), TOO_MANY);
        due("over 60, wrong", x.put(32), BAD_VALUE);
        due("wipe()", x.wipe(), 60);
        due("52", put(x, "1234567890123456789012345678901234567890123456789012345"), 55);
        due("over 60", x.put(0x616263646566L), TOO_MANY);
        due("not in part", x.count(12), 55);
        due("up to 60", x.put(0x6162636465L), 60);
        due("no change", x.count(13), 0);
        x.wipe();
        x.put('0' << 8 | '>');
        x.put('1' << 16 | '@' << 8 | '5');
        due("in this order", x.fault(), 5);
        x.put('-' << 8 | '9');
        due("in this order", x.fault(), NONE);
    }

    private static void wiping() {
        promise = "promise 18";
        BookedDetours x = road(0, 10);
        due("wipe()", x.wipe(), 0);
        put(x, "0>1@0-900");
        due("wipe()", x.wipe(), 9);
        due("wipe()", x.wipe(), 0);
        due("count(12)", x.count(12), 0);
        due("no change", x.count(13), 2);
        put(x, "0>1@0-900");
        x.undo();
        due("undo leaves the pad", x.count(12), 9);
        x.save(0);
        x.wipe();
        x.restore(0);
        due("restore leaves it, too", x.count(12), 0);
    }

    private static void faults() {
        promise = "promise 19";
        String[] good = {"0>1@0-0", "11>11@600-900", "0>0@0-0;10>9@599-899", "5>2@60-90", "1>2@3-4;1>2@3-4;1>2@3-4"};
        for (String text : good) due("fault() of " + text, faultOf(text), NONE);
        String[] early = {"", "0", "0>", "0>1", "0>1@", "0>1@0", "0>1@0-", "0>1@0-0;", "0>1@0-0;1", "1"};
        for (String text : early) due("fault() of " + text, faultOf(text), text.length());
        String[] bad = {"x", ">", "00", "01", "12", "20", "110", "0@", "0>>", "0>12", "0>1>", "0>1@601", "0>1@6000",
            "0>1@700", "0>1@1000", "0>1@01", "0>1@0;", "0>1@0-901", "0>1@0-1000", "0>1@0-00", "0>1@0-0-", "0>1@0-0;;",
            "0>1@0-0;12", "0>1@0-0>", "0>1@-", "0>1@60-9000", "10:", "1/", "0>1@0-0,"};
        for (String text : bad) {
            due("fault() of " + text, faultOf(text), text.length() - 1);
            due("fault() of " + text + "zz", faultOf(text + "zz"), text.length() - 1);
        }
        BookedDetours x = new BookedDetours();
        put(x, "3>3@9-1");
        due("nothing else matters", x.fault(), NONE);
        due("no change", x.count(13), 0);
        due("the pad stays", x.count(12), 7);
    }

    private static void undoing() {
        promise = "promise 20";
        BookedDetours x = new BookedDetours();
        due("undo()", x.undo(), NOT_POSSIBLE);
        for (int i = 0; i < 8; i++) x.stop(i, i);
        due("six at most", x.count(13), 6);
        for (int i = 5; i >= 0; i--) due("undo()", x.undo(), i);
        due("undo()", x.undo(), NOT_POSSIBLE);
        due("count(0)", x.count(0), 2);
        x.set(0, 3);
        due("a change that changes nothing", x.count(13), 1);
        x.stop(40, 0);
        x.set(0, 9);
        x.book(0, 1, 0, 0);
        x.cancel(0);
        x.miss(0);
        x.pass(0);
        x.bookAll();
        x.restore(0);
        due("errors record nothing", x.count(13), 1);
        x.save(0);
        x.put('a');
        x.wipe();
        x.fault();
        due("these record nothing", x.count(13), 1);
        x.book(0, 1, 0, 900);
        x.pass(1);
        x.miss(0);
        x.book(0, 1, 0, 900);
        x.cancel(1);
        due("each one is a change", x.count(13), 6);
        due("undo cancel", x.undo(), 5);
        due("ride(1, 4)", x.ride(1, 4), 0);
        due("count(2)", x.count(2), 2);
        due("undo book", x.undo(), 4);
        due("count(1)", x.count(1), 1);
        due("undo miss", x.undo(), 3);
        due("ride(0, 4)", x.ride(0, 4), 1);
        due("undo pass", x.undo(), 2);
        due("ride(0, 4)", x.ride(0, 4), 0);
        due("count(3)", x.count(3), 0);
        due("undo book", x.undo(), 1);
        due("count(1)", x.count(1), 0);
        due("a change after undo", x.stop(3, 3), 2);
        due("count(13)", x.count(13), 2);
        due("slots are not undone", x.restore(0), 0);
        due("count(0)", x.count(0), 2);
    }

    private static void saving() {
        promise = "promise 21";
        BookedDetours x = road(0, 10);
        due("save(-1)", x.save(-1), BAD_VALUE);
        due("save(2)", x.save(2), BAD_VALUE);
        due("save(MIN)", x.save(MIN), BAD_VALUE);
        due("save(0)", x.save(0), 0);
        x.book(0, 1, 0, 900);
        x.book(0, 1, 0, 900);
        due("save(1)", x.save(1), 2);
        x.cancel(0);
        due("save counts all rides", x.save(1), 2);
        due("no change", x.count(13), 5);
        due("restore(1)", x.restore(1), 2);
        due("overwritten", x.ride(0, 4), 3);
        due("restore(0)", x.restore(0), 0);
    }

    private static void restoring() {
        promise = "promise 22";
        BookedDetours x = road(0, 10);
        due("restore(-1)", x.restore(-1), BAD_VALUE);
        due("restore(2)", x.restore(2), BAD_VALUE);
        due("restore(1)", x.restore(1), NOT_POSSIBLE);
        x.set(2, 0);
        x.book(0, 1, 0, 900);
        x.pass(5);
        x.save(1);
        due("restore(0)", x.restore(0), NOT_POSSIBLE);
        x.pass(50);
        x.set(0, 1);
        x.book(1, 0, 0, 900);
        due("restore(1)", x.restore(1), 1);
        due("count(3)", x.count(3), 5);
        due("count(5)", x.count(5), 1);
        due("count(9)", x.count(9), 3);
        due("count(4)", x.count(4), 10);
        due("a change", x.count(13), 6);
        x.pass(70);
        due("the slot keeps it", x.restore(1), 1);
        due("count(3)", x.count(3), 5);
        due("undo()", x.undo(), 5);
        due("count(3)", x.count(3), 70);
        due("undo()", x.undo(), 4);
        due("undo()", x.undo(), 3);
        due("count(1)", x.count(1), 2);
        due("count(9)", x.count(9), 1);
    }

    public static void main(String[] args) {
        aNewObject();
        settings();
        stops();
        bookingErrors();
        bookingWays();
        bookingPromises();
        bookingAndNow();
        bookingWhenBroken();
        cancelling();
        passing();
        missing();
        bookingOfTexts();
        rides();
        visits();
        answersBehindChanges();
        coordinates();
        counts();
        whatIf();
        earliest();
        spareTime();
        dearestRides();
        putting();
        wiping();
        faults();
        undoing();
        saving();
        restoring();
        System.out.println(wrong == 0 ? "all promises are kept" : wrong + " answers are not as due");
        if (wrong != 0) System.exit(1);
    }
}
