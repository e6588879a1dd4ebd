import java.util.ArrayList;
import java.util.List;
import java.util.Random;
import java.util.regex.Matcher;
import java.util.regex.Pattern;

/** Random runs of calls, each answer compared with that of a second program, written anew from the document. */
public final class ModelRuns {
    static final int NO_SUCH = -1, BAD_VALUE = -2, BAD_TEXT = -3, TOO_MANY = -4, NOT_POSSIBLE = -5, NONE = -6;

    /** A ride; pick and down are the times at which it was picked up and set down, or NONE. */
    static final class Ride {
        int from, to, wait, by, stands, pick = NONE, down = NONE;

        Ride(int from, int to, int wait, int by) {
            this.from = from;
            this.to = to;
            this.wait = wait;
            this.by = by;
        }

        Ride twin() {
            Ride twin = new Ride(from, to, wait, by);
            twin.stands = stands;
            twin.pick = pick;
            twin.down = down;
            return twin;
        }
    }

    record Visit(int ride, boolean down) { }

    record Event(Visit visit, int stop, int driving, int waiting, int time, int over) { }

    static final class State {
        int[] settings = {3, 10, 1};
        List<int[]> stops = new ArrayList<>();
        List<Ride> rides = new ArrayList<>();
        List<Visit> route = new ArrayList<>();
        int now, busStop, busFree;

        State twin() {
            State twin = new State();
            twin.settings = settings.clone();
            twin.stops.addAll(stops);
            for (Ride ride : rides) twin.rides.add(ride.twin());
            twin.route.addAll(route);
            twin.now = now;
            twin.busStop = busStop;
            twin.busFree = busFree;
            return twin;
        }

        int drive(int a, int b) {
            if (a == b) return 0;
            return Math.abs(stops.get(a)[0] - stops.get(b)[0]) + Math.abs(stops.get(a)[1] - stops.get(b)[1]);
        }

        List<Event> events(List<Visit> visits) {
            List<Event> events = new ArrayList<>();
            int stop = busStop;
            int time = busFree;
            for (Visit visit : visits) {
                Ride ride = rides.get(visit.ride());
                int next = visit.down() ? ride.to : ride.from;
                int driving = drive(stop, next);
                int waiting = visit.down() ? 0 : Math.max(0, ride.wait - (time + driving));
                int begins = time + driving + waiting;
                events.add(new Event(visit, next, driving, waiting, begins, begins + settings[2]));
                stop = next;
                time = begins + settings[2];
            }
            return events;
        }

        int over(List<Event> events) {
            return events.isEmpty() ? busFree : events.get(events.size() - 1).over();
        }

        int time(List<Event> events, int ride, boolean down) {
            for (Event event : events) {
                if (event.visit().equals(new Visit(ride, down))) return event.time();
            }
            return down ? rides.get(ride).down : rides.get(ride).pick;
        }

        int aboardBehind(List<Visit> visits, int place) {
            int aboard = 0;
            for (Ride ride : rides) if (ride.stands == 1) aboard++;
            for (int i = 0; i <= place; i++) aboard += visits.get(i).down() ? -1 : 1;
            return aboard;
        }

        boolean keeps(List<Visit> visits) {
            List<Event> events = events(visits);
            for (int place = 0; place < visits.size(); place++) {
                if (aboardBehind(visits, place) > settings[0]) return false;
            }
            for (Event event : events) {
                if (!event.visit().down()) continue;
                Ride ride = rides.get(event.visit().ride());
                if (event.time() > ride.by) return false;
                int seated = time(events, event.visit().ride(), false) + settings[2];
                if (event.time() - seated > drive(ride.from, ride.to) + settings[1]) return false;
            }
            return true;
        }

        boolean onItsWay() {
            return !route.isEmpty() && now > busFree;
        }

        /** Puts the ride, which is told as the last one, into the route; all ways that keep the promises. */
        List<List<Visit>> ways() {
            int ride = rides.size() - 1;
            List<List<Visit>> ways = new ArrayList<>();
            boolean fixed = onItsWay();
            if (route.isEmpty() && now > busFree) busFree = now;
            for (int p = fixed ? 1 : 0; p < route.size() + 2; p++) {
                for (int q = p + 1; q < route.size() + 2; q++) {
                    List<Visit> way = new ArrayList<>();
                    int old = 0;
                    for (int i = 0; i < route.size() + 2; i++) {
                        way.add(i == p ? new Visit(ride, false) : i == q ? new Visit(ride, true) : route.get(old++));
                    }
                    if (keeps(way)) ways.add(way);
                }
            }
            return ways;
        }

        List<Visit> best(List<List<Visit>> ways) {
            List<Visit> best = null;
            for (List<Visit> way : ways) {
                if (best == null || over(events(way)) < over(events(best))) best = way;
            }
            return best;
        }

        void withdraw(int ride, int stands) {
            if (onItsWay() && route.get(0).ride() == ride) {
                Event first = events(route).get(0);
                busFree = Math.max(now, busFree + first.driving());
                busStop = first.stop();
            }
            route.removeIf(visit -> visit.ride() == ride);
            rides.get(ride).stands = stands;
        }

        int tick() {
            int made = 0;
            while (!route.isEmpty()) {
                Event first = events(route).get(0);
                if (first.time() != now) break;
                Ride ride = rides.get(first.visit().ride());
                if (first.visit().down()) {
                    ride.down = now;
                    ride.stands = 2;
                } else {
                    ride.pick = now;
                    ride.stands = 1;
                }
                busStop = first.stop();
                busFree = first.over();
                route.remove(0);
                made++;
            }
            now++;
            return made;
        }
    }

    static final class Model {
        private static final String STOP = "(?:[0-9]|1[01])";
        private static final String WAIT = "(?:0|[1-9][0-9]?|[1-5][0-9][0-9]|600)";
        private static final String BY = "(?:0|[1-9][0-9]?|[1-8][0-9][0-9]|900)";
        private static final String ONE = STOP + ">" + STOP + "@" + WAIT + "-" + BY;
        private static final Pattern TEXT = Pattern.compile(ONE + "(?:;" + ONE + ")*");

        State state = new State();
        List<State> history = new ArrayList<>();
        State[] slots = new State[2];
        String pad = "";

        void change() {
            history.add(state.twin());
            if (history.size() > 6) history.remove(0);
        }

        boolean noStop(int stop) {
            return stop < 0 || stop >= state.stops.size();
        }

        boolean noRide(int ride) {
            return ride < 0 || ride >= state.rides.size();
        }

        int set(int setting, int value) {
            int[][] ranges = {{1, 8}, {0, 60}, {0, 5}};
            if (setting < 0 || setting > 2) return BAD_VALUE;
            if (value < ranges[setting][0] || value > ranges[setting][1]) return BAD_VALUE;
            if (!state.route.isEmpty()) return NOT_POSSIBLE;
            change();
            int old = state.settings[setting];
            state.settings[setting] = value;
            return old;
        }

        int stop(int x, int y) {
            if (x < 0 || x > 30 || y < 0 || y > 30) return BAD_VALUE;
            if (state.stops.size() == 12) return TOO_MANY;
            change();
            state.stops.add(new int[] {x, y});
            return state.stops.size() - 1;
        }

        int refused(int from, int to, int wait, int by) {
            if (noStop(from) || noStop(to)) return NO_SUCH;
            if (from == to || wait < 0 || wait > 600 || by < 0 || by > 900) return BAD_VALUE;
            return 0;
        }

        int bookOne(int from, int to, int wait, int by, boolean recorded) {
            int error = refused(from, to, wait, by);
            if (error != 0) return error;
            if (state.rides.size() == 16) return TOO_MANY;
            State then = state.twin();
            then.rides.add(new Ride(from, to, wait, by));
            List<List<Visit>> ways = then.ways();
            if (ways.isEmpty()) return NOT_POSSIBLE;
            then.route = then.best(ways);
            if (recorded) change();
            state = then;
            return state.rides.size() - 1;
        }

        int book(int from, int to, int wait, int by) {
            return bookOne(from, to, wait, by, true);
        }

        int cancel(int ride) {
            return out(ride, 0, 3);
        }

        int miss(int ride) {
            return out(ride, 1, 4);
        }

        int out(int ride, int due, int stands) {
            if (noRide(ride)) return NO_SUCH;
            if (state.rides.get(ride).stands != due) return NOT_POSSIBLE;
            change();
            state.withdraw(ride, stands);
            return state.route.size();
        }

        int pass(int now) {
            if (now <= state.now || now > 2000) return BAD_VALUE;
            change();
            int made = 0;
            while (state.now < now) made += state.tick();
            return made;
        }

        int bookAll() {
            if (fault() != NONE) return BAD_TEXT;
            change();
            int booked = 0;
            for (String one : pad.split(";")) {
                String[] numbers = one.split("[>@-]");
                int answer = bookOne(Integer.parseInt(numbers[0]), Integer.parseInt(numbers[1]),
                        Integer.parseInt(numbers[2]), Integer.parseInt(numbers[3]), false);
                if (answer < 0) break;
                booked++;
            }
            pad = "";
            return booked;
        }

        int ride(int number, int what) {
            if (noRide(number)) return NO_SUCH;
            Ride ride = state.rides.get(number);
            List<Event> events = state.events(state.route);
            if (what < 0 || what > 7) return BAD_VALUE;
            return new int[] {ride.from, ride.to, ride.wait, ride.by, ride.stands, state.time(events, number, false),
                state.time(events, number, true), state.drive(ride.from, ride.to)}[what];
        }

        int visit(int place, int what) {
            if (place < 0 || place >= state.route.size()) return NO_SUCH;
            if (what < 0 || what > 5) return BAD_VALUE;
            Event event = state.events(state.route).get(place);
            return new int[] {event.visit().ride(), event.visit().down() ? 1 : 0, event.stop(), event.time(),
                state.aboardBehind(state.route, place), event.waiting()}[what];
        }

        int coordinate(int stop, int which) {
            if (noStop(stop)) return NO_SUCH;
            return which == 0 || which == 1 ? state.stops.get(stop)[which] : BAD_VALUE;
        }

        int count(int what) {
            if (what < 0 || what > 13) return BAD_VALUE;
            List<Event> events = state.events(state.route);
            int aboard = 0, done = 0, driving = 0, waiting = 0;
            for (Ride ride : state.rides) {
                if (ride.stands == 1) aboard++;
                if (ride.stands == 2) done++;
            }
            for (Event event : events) {
                driving += event.driving();
                waiting += event.waiting();
            }
            return new int[] {state.stops.size(), state.rides.size(), state.route.size(), state.now,
                state.over(events), aboard, done, driving, waiting, state.settings[0], state.settings[1],
                state.settings[2], pad.length(), history.size()}[what];
        }

        int ifBooked(int from, int to, int wait, int by, int what) {
            int error = refused(from, to, wait, by);
            if (error != 0) return error;
            if (what < 0 || what > 3) return BAD_VALUE;
            State then = state.twin();
            then.rides.add(new Ride(from, to, wait, by));
            List<List<Visit>> ways = then.ways();
            if (what == 3) return ways.size();
            if (ways.isEmpty()) return NONE;
            List<Event> events = then.events(then.best(ways));
            if (what == 0) return then.over(events) - count(4);
            return then.time(events, then.rides.size() - 1, what == 2);
        }

        int earliestBy(int from, int to, int wait) {
            int error = refused(from, to, wait, 0);
            if (error != 0) return error;
            for (int by = 0; by <= 900; by++) {
                if (by % 50 == 0 && ifBooked(from, to, wait, Math.min(900, by + 49), 3) == 0) {
                    by += 49;
                    continue;
                }
                if (ifBooked(from, to, wait, by, 3) > 0) return by;
            }
            return NONE;
        }

        int spare(int ride) {
            if (noRide(ride)) return NO_SUCH;
            if (state.rides.get(ride).stands > 1) return NOT_POSSIBLE;
            return state.rides.get(ride).by - state.time(state.events(state.route), ride, true);
        }

        int dearest(int what) {
            if (what != 0 && what != 1) return BAD_VALUE;
            int best = NONE, most = NONE;
            for (int ride = state.rides.size() - 1; ride >= 0; ride--) {
                if (state.rides.get(ride).stands != 0) continue;
                State then = state.twin();
                then.withdraw(ride, 3);
                int minutes = count(4) - then.over(then.events(then.route));
                if (minutes >= most) {
                    best = ride;
                    most = minutes;
                }
            }
            return what == 0 ? best : most;
        }

        int put(long characters) {
            StringBuilder text = new StringBuilder();
            boolean ended = false;
            for (int i = 0; i < 8; i++) {
                int code = (int) (characters & 255);
                characters >>= 8;
                if (code == 0) {
                    ended = true;
                } else {
                    if (ended || code < 33 || code > 126) return BAD_VALUE;
                    text.append((char) code);
                }
            }
            if (text.length() == 0) return BAD_VALUE;
            if (pad.length() + text.length() > 60) return TOO_MANY;
            pad += text.reverse();
            return pad.length();
        }

        int wipe() {
            int length = pad.length();
            pad = "";
            return length;
        }

        int fault() {
            for (int length = 1; length <= pad.length(); length++) {
                Matcher matcher = TEXT.matcher(pad.substring(0, length));
                if (!matcher.matches() && !matcher.hitEnd()) return length - 1;
            }
            return TEXT.matcher(pad).matches() ? NONE : pad.length();
        }

        int undo() {
            if (history.isEmpty()) return NOT_POSSIBLE;
            state = history.remove(history.size() - 1);
            return history.size();
        }

        int save(int slot) {
            if (slot < 0 || slot > 1) return BAD_VALUE;
            slots[slot] = state.twin();
            return state.rides.size();
        }

        int restore(int slot) {
            if (slot < 0 || slot > 1) return BAD_VALUE;
            if (slots[slot] == null) return NOT_POSSIBLE;
            change();
            state = slots[slot].twin();
            return state.rides.size();
        }
    }

    private static final int[] WILD = {-1, Integer.MIN_VALUE, Integer.MAX_VALUE, 12, 16, 17, 31, 61, 601, 901, 2001, 1 << 30};
    private static final int MOST_CALLS = 512;

    private final Random random;
    private final int number;
    private final BookedDetours program = new BookedDetours();
    private final Model model = new Model();
    private final StringBuilder told = new StringBuilder();
    // A day on which little time goes by and rides wait close together, so that cancelling breaks promises.
    private final boolean calm;
    private int wrong;
    private int calls;
    private static final int[] SEEN = new int[64];

    ModelRuns(int number) {
        this.number = number;
        random = new Random(number);
        calm = number % 3 == 0;
    }

    private int of(int bound) {
        return random.nextInt(bound);
    }

    /** A number below the bound, now and then one that is out of every range. */
    private int some(int bound) {
        return of(25) == 0 ? (of(2) == 0 ? bound : WILD[of(WILD.length)]) : of(bound);
    }

    private void due(String call, int got, int want) {
        calls++;
        told.append(call).append(" = ").append(want).append('\n');
        if (got == want) return;
        wrong++;
        if (wrong > 3) return;
        System.out.println("run " + number + ": " + call + " answered " + got + ", due is " + want);
        if (wrong == 1) System.out.println(told);
    }

    private int stopNumber() {
        int stops = model.state.stops.size();
        return some(Math.max(1, stops));
    }

    /** Mostly a ride that stands so, if there is one. */
    private int rideThatStands(int how) {
        int rides = model.state.rides.size();
        for (int i = 0; i < rides && of(10) > 0; i++) {
            int ride = of(rides);
            if (model.state.rides.get(ride).stands == how) return ride;
        }
        return some(Math.max(1, rides));
    }

    private int waitTime() {
        int now = model.state.now;
        if (calm && of(8) > 0) return Math.min(600, now + of(150));
        int kind = of(10);
        if (kind < 4) return of(601);
        if (kind < 9) return Math.min(600, Math.max(0, now - 20 + of(120)));
        return some(601);
    }

    private int byTime(int wait) {
        int kind = calm ? 3 + of(7) : of(10);
        if (kind < 6) return Math.max(0, Math.min(900, Math.max(wait, model.state.now) + of(120)));
        if (kind < 9) return 900 - of(100);
        return some(901);
    }

    private String bookingText() {
        int wait = Math.max(0, Math.min(600, waitTime()));
        StringBuilder text = new StringBuilder();
        text.append(of(14) == 0 ? of(13) : of(5)).append('>').append(of(14) == 0 ? of(13) : of(5)).append('@');
        text.append(of(12) == 0 ? of(700) : wait).append('-');
        text.append(of(12) == 0 ? of(1100) : Math.max(0, Math.min(900, byTime(wait))));
        if (of(8) == 0) text.setCharAt(of(text.length()), "0123456789>@-;x".charAt(of(15)));
        return text.toString();
    }

    private void putText(String text) {
        for (int i = 0; i < text.length(); ) {
            int end = Math.min(text.length(), i + 1 + of(8));
            long characters = 0;
            for (; i < end; i++) characters = characters << 8 | text.charAt(i);
            if (of(60) == 0) characters ^= random.nextLong() >>> of(64);
            due("put(" + characters + "L)", program.put(characters), model.put(characters));
        }
    }

    private void change() {
        int kind = of(100);
        if (kind < 4) {
            int setting = some(3);
            int value = setting == 0 ? some(9) : setting == 1 ? some(61) : some(6);
            due("set(" + setting + ", " + value + ")", program.set(setting, value), model.set(setting, value));
        } else if (kind < 10) {
            int x = some(31), y = some(31);
            due("stop(" + x + ", " + y + ")", program.stop(x, y), model.stop(x, y));
        } else if (kind < 45) {
            int from = stopNumber(), to = stopNumber(), wait = waitTime(), by = byTime(wait);
            due("book(" + from + ", " + to + ", " + wait + ", " + by + ")",
                    program.book(from, to, wait, by), model.book(from, to, wait, by));
        } else if (kind < 53) {
            int ride = calm && !model.state.route.isEmpty() ? model.state.route.get(0).ride() : rideThatStands(0);
            due("cancel(" + ride + ")", program.cancel(ride), model.cancel(ride));
        } else if (kind < 59) {
            int ride = rideThatStands(1);
            due("miss(" + ride + ")", program.miss(ride), model.miss(ride));
        } else if (kind < 72 && (!calm || of(4) == 0)) {
            int now = of(20) == 0 ? some(2100) : Math.min(2000, model.state.now + of(of(4) == 0 ? 60 : 9));
            if (!model.state.route.isEmpty() && of(3) == 0) now = model.visit(0, 3) + of(3) - 1;
            due("pass(" + now + ")", program.pass(now), model.pass(now));
        } else if (kind < 84) {
            if (of(8) == 0) due("wipe()", program.wipe(), model.wipe());
            StringBuilder text = new StringBuilder();
            for (int i = of(5); i >= 0; i--) text.append(text.length() > 0 ? ";" : "").append(bookingText());
            putText(text.toString());
            due("fault()", program.fault(), model.fault());
            due("bookAll()", program.bookAll(), model.bookAll());
            if (of(2) == 0) due("wipe()", program.wipe(), model.wipe());
        } else if (kind < 91) {
            due("undo()", program.undo(), model.undo());
        } else if (kind < 96) {
            int slot = some(2);
            due("save(" + slot + ")", program.save(slot), model.save(slot));
        } else {
            int slot = some(2);
            due("restore(" + slot + ")", program.restore(slot), model.restore(slot));
        }
    }

    /** One question right behind a change: what was known before it must not count. */
    private void askOne() {
        int ride = Math.max(0, model.state.rides.size() - 1 - of(2));
        switch (of(5)) {
            case 0 -> due("ride(" + ride + ", 5)", program.ride(ride, 5), model.ride(ride, 5));
            case 1 -> due("ride(" + ride + ", 6)", program.ride(ride, 6), model.ride(ride, 6));
            case 2 -> due("count(7)", program.count(7), model.count(7));
            case 3 -> due("count(8)", program.count(8), model.count(8));
            default -> due("spare(" + ride + ")", program.spare(ride), model.spare(ride));
        }
    }

    private void ask() {
        for (int what = 0; what < 14; what++) due("count(" + what + ")", program.count(what), model.count(what));
        int place = some(model.state.route.size() + 1), of = some(6);
        due("visit(" + place + ", " + of + ")", program.visit(place, of), model.visit(place, of));
        for (int i = 0; i < 3; i++) {
            int ride = some(model.state.rides.size() + 1), what = i == 2 ? some(8) : 5 + i;
            due("ride(" + ride + ", " + what + ")", program.ride(ride, what), model.ride(ride, what));
        }
        int stop = some(model.state.stops.size() + 1), which = some(2);
        due("coordinate(" + stop + ", " + which + ")", program.coordinate(stop, which), model.coordinate(stop, which));
        int spared = some(model.state.rides.size() + 1);
        due("spare(" + spared + ")", program.spare(spared), model.spare(spared));
        int what = some(2);
        due("dearest(" + what + ")", program.dearest(what), model.dearest(what));
        if (of(2) == 0) {
            int from = stopNumber(), to = stopNumber(), wait = waitTime(), by = byTime(wait), part = some(4);
            due("ifBooked(" + from + ", " + to + ", " + wait + ", " + by + ", " + part + ")",
                    program.ifBooked(from, to, wait, by, part), model.ifBooked(from, to, wait, by, part));
        }
        if (of(6) == 0) {
            int from = stopNumber(), to = stopNumber(), wait = waitTime();
            due("earliestBy(" + from + ", " + to + ", " + wait + ")",
                    program.earliestBy(from, to, wait), model.earliestBy(from, to, wait));
        }
    }

    /** What the runs have to come by, so that they test anything. */
    private void see() {
        State state = model.state;
        if (state.onItsWay()) SEEN[0]++;
        if (!state.route.isEmpty() && !state.keeps(state.route)) SEEN[1]++;
        if (state.rides.size() == 16) SEEN[2]++;
        if (state.route.size() > 8) SEEN[3]++;
        if (model.history.size() == 6) SEEN[4]++;
        if (state.route.isEmpty() && state.busFree > state.now) SEEN[5]++;
        for (Ride ride : state.rides) SEEN[8 + ride.stands]++;
    }

    private int run() {
        int span = 2 + of(29);
        int stops = 2 + of(5);
        for (int i = 0; i < stops; i++) {
            int x = of(span), y = of(span);
            due("stop(" + x + ", " + y + ")", program.stop(x, y), model.stop(x, y));
        }
        for (int setting = 0; setting < 3; setting++) {
            if (of(2) == 0 && !calm) continue;
            int value = setting == 0 ? 1 + of(4) : setting == 1 ? of(of(2) == 0 ? 61 : 12) : of(6);
            if (calm) value = setting == 0 ? 2 + of(3) : setting == 1 ? 5 + of(20) : of(2);
            due("set(" + setting + ", " + value + ")", program.set(setting, value), model.set(setting, value));
        }
        while (calls < MOST_CALLS - 80 && wrong == 0) {
            change();
            see();
            askOne();
            if (of(3) == 0 || !model.state.keeps(model.state.route)) ask();
        }
        return wrong;
    }

    public static void main(String[] args) {
        int runs = args.length > 0 ? Integer.parseInt(args[0]) : 1500;
        int wrong = 0;
        for (int number = 0; number < runs && wrong == 0; number++) wrong += new ModelRuns(number).run();
        int[] due = {0, 1, 2, 3, 4, 5, 8, 9, 10, 11, 12};
        for (int kind : due) {
            if (SEEN[kind] > runs / 20) continue;
            wrong++;
            System.out.println("the runs hardly come by a state of kind " + kind + ": " + SEEN[kind]);
        }
        System.out.println(wrong == 0 ? runs + " runs are as the model has them" : "the runs differ from the model");
        if (args.length > 0) System.out.println(java.util.Arrays.toString(SEEN));
        if (wrong != 0) System.exit(1);
    }
}
