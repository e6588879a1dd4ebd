/** A rural bus on demand; ../shared/DOC.md says what each method promises. */
public final class BookedDetours {
    public static final int NO_SUCH = -1, BAD_VALUE = -2, BAD_TEXT = -3, TOO_MANY = -4, NOT_POSSIBLE = -5, NONE = -6;
    public static final int SEATS = 0, SLACK = 1, STOPPING = 2;
    public static final int BOOKED = 0, ABOARD = 1, DONE = 2, CANCELLED = 3, MISSED = 4;

    private static final int SETTINGS = 3, MOST_STOPS = 12, MOST_RIDES = 16, MOST_SIGNS = 60, MOST_CHANGES = 6, SLOTS = 2;
    private static final int MOST_COORDINATE = 30, LATEST_WAIT = 600, LATEST_BY = 900, LATEST_NOW = 2000;
    private static final int MOST_NUMBERS = MOST_SIGNS / 2 + 1;

    // One ride more than there may be: what a booking would cost is told when the day is full, too.
    private static final int TRIED_RIDES = MOST_RIDES + 1, TRIED_VISITS = 2 * TRIED_RIDES;

    private final Day day = new Day();
    private final Timetable table = new Timetable();
    private final Search search = new Search();
    private final Pad pad = new Pad();
    private final History history = new History();
    private final Day[] slots = new Day[SLOTS];

    public BookedDetours() {
    }

    // ---- changes

    public int set(int setting, int value) {
        if (setting < 0 || setting >= SETTINGS) return BAD_VALUE;
        if (value < leastOf(setting) || value > mostOf(setting)) return BAD_VALUE;
        if (day.route.length() > 0) return NOT_POSSIBLE;
        history.add(day);
        int previous = day.settings.at(setting);
        day.settings.change(setting, value);
        return previous;
    }

    public int stop(int x, int y) {
        if (x < 0 || x > MOST_COORDINATE || y < 0 || y > MOST_COORDINATE) return BAD_VALUE;
        if (day.xs.length() >= MOST_STOPS) return TOO_MANY;
        history.add(day);
        day.xs.add(x);
        day.ys.add(y);
        return day.xs.length() - 1;
    }

    public int book(int from, int to, int wait, int by) {
        int answer = tryToBook(from, to, wait, by);
        if (answer < 0) return answer;
        history.add(day);
        day.copy(search.day);
        return answer;
    }

    public int cancel(int ride) {
        if (!day.hasRide(ride)) return NO_SUCH;
        if (day.stands.at(ride) != BOOKED) return NOT_POSSIBLE;
        history.add(day);
        day.leaveOut(ride, CANCELLED);
        return day.route.length();
    }

    public int pass(int now) {
        if (now <= day.now || now > LATEST_NOW) return BAD_VALUE;
        history.add(day);
        day.now = now;
        table.follow(day);
        return day.carryOut(table);
    }

    public int miss(int ride) {
        if (!day.hasRide(ride)) return NO_SUCH;
        if (day.stands.at(ride) != ABOARD) return NOT_POSSIBLE;
        history.add(day);
        day.leaveOut(ride, MISSED);
        return day.route.length();
    }

    public int bookAll() {
        if (pad.findFault() != NONE) return BAD_TEXT;
        history.add(day);
        int booked = 0;
        for (int first = 0; first < pad.numbers.length(); first += 4) {
            int answer = tryToBook(pad.numbers.at(first), pad.numbers.at(first + 1),
                    pad.numbers.at(first + 2), pad.numbers.at(first + 3));
            if (answer < 0) break;
            day.copy(search.day);
            booked++;
        }
        pad.signs.clear();
        return booked;
    }

    // ---- what there is; nothing changes

    public int ride(int ride, int what) {
        if (!day.hasRide(ride)) return NO_SUCH;
        switch (what) {
            case 0: return day.froms.at(ride);
            case 1: return day.tos.at(ride);
            case 2: return day.waits.at(ride);
            case 3: return day.bys.at(ride);
            case 4: return day.stands.at(ride);
            case 5:
                table.follow(day);
                return table.picks.at(ride);
            case 6:
                table.follow(day);
                return table.downs.at(ride);
            case 7: return day.straights.at(ride);
            default: return BAD_VALUE;
        }
    }

    public int visit(int place, int what) {
        if (place < 0 || place >= day.route.length()) return NO_SUCH;
        table.follow(day);
        int visit = day.route.at(place);
        switch (what) {
            case 0: return rideOf(visit);
            case 1: return setsDown(visit) ? 1 : 0;
            case 2: return day.stopOf(visit);
            case 3: return table.times.at(place);
            case 4: return table.loads.at(place);
            case 5: return table.delays.at(place);
            default: return BAD_VALUE;
        }
    }

    public int coordinate(int stop, int which) {
        if (!day.hasStop(stop)) return NO_SUCH;
        if (which == 0) return day.xs.at(stop);
        if (which == 1) return day.ys.at(stop);
        return BAD_VALUE;
    }

    public int count(int what) {
        switch (what) {
            case 0: return day.xs.length();
            case 1: return day.stands.length();
            case 2: return day.route.length();
            case 3: return day.now;
            case 4: return overOf(day);
            case 5: return day.ridesThatStand(ABOARD);
            case 6: return day.ridesThatStand(DONE);
            case 7:
                table.follow(day);
                return table.driving;
            case 8:
                table.follow(day);
                return table.waiting;
            case 9: return day.settings.at(SEATS);
            case 10: return day.settings.at(SLACK);
            case 11: return day.settings.at(STOPPING);
            case 12: return pad.signs.length();
            case 13: return history.length;
            default: return BAD_VALUE;
        }
    }

    // ---- what if; nothing changes

    public int ifBooked(int from, int to, int wait, int by, int what) {
        int error = errorOf(from, to, wait, by);
        if (error != 0) return error;
        if (what < 0 || what > 3) return BAD_VALUE;
        boolean found = search.find(day, from, to, wait, by);
        if (what == 3) return search.ways;
        if (!found) return NONE;
        if (what == 0) return search.over - overOf(day);
        return what == 1 ? search.pickTime : search.downTime;
    }

    public int earliestBy(int from, int to, int wait) {
        int error = errorOf(from, to, wait, LATEST_BY);
        if (error != 0) return error;
        return search.find(day, from, to, wait, LATEST_BY) ? search.earliestDown : NONE;
    }

    public int spare(int ride) {
        if (!day.hasRide(ride)) return NO_SUCH;
        int stands = day.stands.at(ride);
        if (stands != BOOKED && stands != ABOARD) return NOT_POSSIBLE;
        table.follow(day);
        return day.bys.at(ride) - table.downs.at(ride);
    }

    public int dearest(int what) {
        if (what != 0 && what != 1) return BAD_VALUE;
        int over = overOf(day);
        int best = NONE;
        int most = 0;
        for (int ride = 0; ride < day.stands.length(); ride++) {
            if (day.stands.at(ride) != BOOKED) continue;
            search.day.copy(day);
            search.day.leaveOut(ride, CANCELLED);
            int minutes = over - overOf(search.day);
            if (best == NONE || minutes > most) {
                best = ride;
                most = minutes;
            }
        }
        if (best == NONE) return NONE;
        return what == 0 ? best : most;
    }

    // ---- texts

    public int put(long characters) {
        int more = Pad.signsIn(characters);
        if (more == 0) return BAD_VALUE;
        if (pad.signs.length() + more > MOST_SIGNS) return TOO_MANY;
        pad.append(characters, more);
        return pad.signs.length();
    }

    public int wipe() {
        int length = pad.signs.length();
        pad.signs.clear();
        return length;
    }

    public int fault() {
        return pad.findFault();
    }

    // ---- undo, saving

    public int undo() {
        return history.takeLatest(day) ? history.length : NOT_POSSIBLE;
    }

    public int save(int slot) {
        if (slot < 0 || slot >= slots.length) return BAD_VALUE;
        Day kept = slots[slot];
        if (kept == null) {
            kept = new Day();
            slots[slot] = kept;
        }
        kept.copy(day);
        return day.stands.length();
    }

    public int restore(int slot) {
        if (slot < 0 || slot >= slots.length) return BAD_VALUE;
        Day kept = slots[slot];
        if (kept == null) return NOT_POSSIBLE;
        history.add(day);
        day.copy(kept);
        return day.stands.length();
    }

    // ---- what the calls share

    private static int leastOf(int setting) {
        return setting == SEATS ? 1 : 0;
    }

    private static int mostOf(int setting) {
        return setting == SEATS ? 8 : setting == SLACK ? 60 : 5;
    }

    private static int rideOf(int visit) {
        return visit >> 1;
    }

    private static boolean setsDown(int visit) {
        return (visit & 1) == 1;
    }

    private static int pickUp(int ride) {
        return 2 * ride;
    }

    private static int setDown(int ride) {
        return 2 * ride + 1;
    }

    /** The error of a booking that needs no route to be told, or 0. */
    private int errorOf(int from, int to, int wait, int by) {
        if (!day.hasStop(from) || !day.hasStop(to)) return NO_SUCH;
        if (from == to) return BAD_VALUE;
        if (wait < 0 || wait > LATEST_WAIT || by < 0 || by > LATEST_BY) return BAD_VALUE;
        return 0;
    }

    /** The ride's number, with the day as it is then in search.day; or the error. */
    private int tryToBook(int from, int to, int wait, int by) {
        int error = errorOf(from, to, wait, by);
        if (error != 0) return error;
        if (day.stands.length() >= MOST_RIDES) return TOO_MANY;
        return search.find(day, from, to, wait, by) ? day.stands.length() : NOT_POSSIBLE;
    }

    private int overOf(Day some) {
        table.follow(some);
        return table.free;
    }

    /** Numbers in a row, up to as many as it was made for; places outside it read as 0 and take nothing. */
    private static final class Row {
        private final int[] cells;
        private int length;

        Row(int most) {
            cells = new int[Math.max(most, 0)];
        }

        int length() {
            return length;
        }

        int at(int place) {
            return place >= 0 && place < length && place < cells.length ? cells[place] : 0;
        }

        void change(int place, int value) {
            if (place >= 0 && place < length && place < cells.length) cells[place] = value;
        }

        void add(int value) {
            insert(length, value);
        }

        void insert(int place, int value) {
            if (place < 0 || place > length || length < 0 || length >= cells.length) return;
            for (int i = length; i > place; i--) cells[i] = cells[i - 1];
            cells[place] = value;
            length++;
        }

        void remove(int place) {
            if (place < 0 || place >= length || length > cells.length) return;
            for (int i = place + 1; i < length; i++) cells[i - 1] = cells[i];
            length--;
        }

        void clear() {
            length = 0;
        }

        void copy(Row other) {
            length = Math.min(other.length, Math.min(other.cells.length, cells.length));
            for (int i = 0; i < length; i++) cells[i] = other.cells[i];
        }
    }

    /** All that undo() and restore() bring back. */
    private static final class Day {
        final Row settings = new Row(SETTINGS);
        final Row xs = new Row(MOST_STOPS);
        final Row ys = new Row(MOST_STOPS);
        final Row froms = new Row(TRIED_RIDES);
        final Row tos = new Row(TRIED_RIDES);
        final Row waits = new Row(TRIED_RIDES);
        final Row bys = new Row(TRIED_RIDES);
        final Row straights = new Row(TRIED_RIDES);
        final Row stands = new Row(TRIED_RIDES);
        // When rides were picked up and set down, NONE as long as they were not.
        final Row picks = new Row(TRIED_RIDES);
        final Row downs = new Row(TRIED_RIDES);
        final Row route = new Row(TRIED_VISITS);
        int now;
        // Where the bus was last, and from when on it is or was free there.
        int busStop;
        int busFree;

        Day() {
            settings.add(3);
            settings.add(10);
            settings.add(1);
        }

        void copy(Day other) {
            settings.copy(other.settings);
            xs.copy(other.xs);
            ys.copy(other.ys);
            froms.copy(other.froms);
            tos.copy(other.tos);
            waits.copy(other.waits);
            bys.copy(other.bys);
            straights.copy(other.straights);
            stands.copy(other.stands);
            picks.copy(other.picks);
            downs.copy(other.downs);
            route.copy(other.route);
            now = other.now;
            busStop = other.busStop;
            busFree = other.busFree;
        }

        boolean hasStop(int stop) {
            return stop >= 0 && stop < xs.length();
        }

        boolean hasRide(int ride) {
            return ride >= 0 && ride < stands.length();
        }

        int ridesThatStand(int how) {
            int rides = 0;
            for (int ride = 0; ride < stands.length(); ride++) {
                if (stands.at(ride) == how) rides++;
            }
            return rides;
        }

        int minutes(int start, int end) {
            return Math.abs(xs.at(start) - xs.at(end)) + Math.abs(ys.at(start) - ys.at(end));
        }

        int stopOf(int visit) {
            int ride = rideOf(visit);
            return setsDown(visit) ? tos.at(ride) : froms.at(ride);
        }

        boolean isOnItsWay() {
            return route.length() > 0 && now > busFree;
        }

        int addRide(int from, int to, int wait, int by) {
            froms.add(from);
            tos.add(to);
            waits.add(wait);
            bys.add(by);
            straights.add(minutes(from, to));
            stands.add(BOOKED);
            picks.add(NONE);
            downs.add(NONE);
            return stands.length() - 1;
        }

        /** A bus that has nothing to do does not leave earlier than it is told to. */
        void beReady() {
            if (route.length() == 0) busFree = Math.max(busFree, now);
        }

        void leaveOut(int ride, int how) {
            if (isOnItsWay() && rideOf(route.at(0)) == ride) endAtFirst();
            for (int place = route.length() - 1; place >= 0; place--) {
                if (rideOf(route.at(place)) == ride) route.remove(place);
            }
            stands.change(ride, how);
        }

        /** The bus cannot turn round between stops: it comes to where it was driving. */
        private void endAtFirst() {
            int end = stopOf(route.at(0));
            busFree = Math.max(busFree + minutes(busStop, end), now);
            busStop = end;
        }

        /** How many visits of the route, with the times of the table, lie before now; they are made. */
        int carryOut(Timetable table) {
            int visits = route.length();
            for (int made = 0; made < visits; made++) {
                int time = table.times.at(made);
                if (time >= now) return made;
                make(route.at(0), time);
                route.remove(0);
            }
            return visits;
        }

        private void make(int visit, int time) {
            int ride = rideOf(visit);
            busStop = stopOf(visit);
            busFree = time + settings.at(STOPPING);
            if (setsDown(visit)) {
                downs.change(ride, time);
                stands.change(ride, DONE);
            } else {
                picks.change(ride, time);
                stands.change(ride, ABOARD);
            }
        }
    }

    /** What comes of a day's route: made anew for each question, in the same rows. */
    private static final class Timetable {
        // By the places of the route: the visits' times, the rides aboard behind them, the waiting ahead of them.
        final Row times = new Row(TRIED_VISITS);
        final Row loads = new Row(TRIED_VISITS);
        final Row delays = new Row(TRIED_VISITS);
        // By rides: as they were and as they will be.
        final Row picks = new Row(TRIED_RIDES);
        final Row downs = new Row(TRIED_RIDES);
        int stop;
        int free;
        int aboard;
        int driving;
        int waiting;

        /** Goes through the whole route, also through one that does not keep all promises. */
        void follow(Day day) {
            begin(day);
            for (int place = 0; place < day.route.length(); place++) step(day, day.route.at(place));
        }

        /** Goes through the route up to the first promise that is broken, and tells whether there is none. */
        boolean keepsAll(Day day) {
            begin(day);
            for (int place = 0; place < day.route.length(); place++) {
                if (!step(day, day.route.at(place))) return false;
            }
            return true;
        }

        private void begin(Day day) {
            times.clear();
            loads.clear();
            delays.clear();
            picks.copy(day.picks);
            downs.copy(day.downs);
            stop = day.busStop;
            free = day.busFree;
            aboard = day.ridesThatStand(ABOARD);
            driving = 0;
            waiting = 0;
        }

        /** Makes the next visit, and tells whether it breaks no promise. */
        private boolean step(Day day, int visit) {
            int ride = rideOf(visit);
            boolean down = setsDown(visit);
            int end = day.stopOf(visit);
            int minutes = day.minutes(stop, end);
            int comes = free + minutes;
            int time = down ? comes : Math.max(comes, day.waits.at(ride));
            stop = end;
            free = time + day.settings.at(STOPPING);
            aboard += down ? -1 : 1;
            driving += minutes;
            waiting += time - comes;
            times.add(time);
            loads.add(aboard);
            delays.add(time - comes);
            if (!down) {
                picks.change(ride, time);
                return aboard <= day.settings.at(SEATS);
            }
            downs.change(ride, time);
            return time <= day.bys.at(ride) && time <= latestByDetour(day, ride);
        }

        private int latestByDetour(Day day, int ride) {
            int seated = picks.at(ride) + day.settings.at(STOPPING);
            return seated + day.straights.at(ride) + day.settings.at(SLACK);
        }
    }

    /** Tries all ways to put one more ride into a day's route. */
    private static final class Search {
        final Day day = new Day();
        private final Timetable table = new Timetable();
        int ways;
        int over;
        int pickTime;
        int downTime;
        int earliestDown;
        private int pickPlace;
        private int downPlace;

        /** Tells whether there is a way; if so, day is then as the best one leaves it. */
        boolean find(Day today, int from, int to, int wait, int by) {
            day.copy(today);
            day.beReady();
            int ride = day.addRide(from, to, wait, by);
            ways = 0;
            int visits = today.route.length();
            for (int pick = today.isOnItsWay() ? 1 : 0; pick <= visits; pick++) {
                for (int down = pick + 1; down <= visits + 1; down++) {
                    lay(today.route, ride, pick, down);
                    if (table.keepsAll(day)) takeWay(ride, pick, down);
                }
            }
            if (ways > 0) lay(today.route, ride, pickPlace, downPlace);
            return ways > 0;
        }

        /** One more way, with its times in the table; the one that was found first stays, of equals. */
        private void takeWay(int ride, int pick, int down) {
            int time = table.downs.at(ride);
            earliestDown = ways == 0 ? time : Math.min(earliestDown, time);
            if (ways == 0 || table.free < over) {
                over = table.free;
                pickPlace = pick;
                downPlace = down;
                pickTime = table.picks.at(ride);
                downTime = time;
            }
            ways++;
        }

        private void lay(Row route, int ride, int pick, int down) {
            day.route.copy(route);
            day.route.insert(pick, pickUp(ride));
            day.route.insert(down, setDown(ride));
        }
    }

    /** The states before the latest changes, the oldest one first. */
    private static final class History {
        private final Day[] days = new Day[MOST_CHANGES];
        int length;

        void add(Day day) {
            if (length >= days.length) dropOldest();
            if (length < 0 || length >= days.length) return;
            Day room = days[length];
            if (room == null) {
                room = new Day();
                days[length] = room;
            }
            room.copy(day);
            length++;
        }

        /** The room of the oldest state is used again for the next one. */
        private void dropOldest() {
            for (int i = 1; i < days.length; i++) {
                Day oldest = days[i - 1];
                days[i - 1] = days[i];
                days[i] = oldest;
            }
            length = days.length - 1;
        }

        boolean takeLatest(Day day) {
            if (length < 1 || length > days.length) return false;
            Day latest = days[length - 1];
            if (latest == null) return false;
            day.copy(latest);
            length--;
            return true;
        }
    }

    /** The text of bookings, and the numbers that were read from it last. */
    private static final class Pad {
        final Row signs = new Row(MOST_SIGNS);
        final Row numbers = new Row(MOST_NUMBERS);

        /** How many characters there are; 0 if these are not characters alone. */
        static int signsIn(long characters) {
            int found = 0;
            for (int shift = 0; shift < 64; shift += 8) {
                if (characters >>> shift == 0) break;
                int sign = (int) (characters >>> shift) & 255;
                if (sign < 33 || sign > 126) return 0;
                found++;
            }
            return found;
        }

        void append(long characters, int more) {
            for (int i = more - 1; i >= 0; i--) signs.add((int) (characters >>> (8 * i)) & 255);
        }

        /** The fault, or NONE; then the numbers are those of the bookings, four of each. */
        int findFault() {
            numbers.clear();
            int part = 0;
            int number = NONE;
            for (int place = 0; place < signs.length(); place++) {
                int sign = signs.at(place);
                if (sign >= '0' && sign <= '9') {
                    number = withDigit(number, sign - '0');
                    if (number < 0 || number > mostIn(part)) return place;
                } else {
                    if (number == NONE || sign != endOf(part)) return place;
                    numbers.add(number);
                    number = NONE;
                    part = part == 3 ? 0 : part + 1;
                }
            }
            if (number == NONE || part != 3) return signs.length();
            numbers.add(number);
            return NONE;
        }

        /** NONE stands for a number without digits, BAD_TEXT for one that begins with a 0 too much. */
        private static int withDigit(int number, int digit) {
            if (number == NONE) return digit;
            return number == 0 ? BAD_TEXT : number * 10 + digit;
        }

        private static int mostIn(int part) {
            return part < 2 ? MOST_STOPS - 1 : part == 2 ? LATEST_WAIT : LATEST_BY;
        }

        private static char endOf(int part) {
            return part == 0 ? '>' : part == 1 ? '@' : part == 2 ? '-' : ';';
        }
    }
}
