import java.util.ArrayList;

/**
 * A hotel of revolving rooms: floors turn when they hear their tune in the bells, lifts go a floor
 * with each bell, and guests ride to the rooms that they want.
 */
public final class HotelOfBells {
    private static final int MOST_FLOORS = 6;
    private static final int LEAST_ROOMS = 3;
    private static final int MOST_ROOMS = 12;
    private static final int MOST_STEP = 5;
    private static final int MOST_LIFTS = 4;
    private static final int MOST_GUESTS = 10;
    private static final int TONES = 4;
    private static final int GREATEST_TUNE = 444444;
    private static final int MOST_ADVICE = 5;
    private static final int NONE = -1;
    /** Above every row of 5 bells. */
    private static final int NO_ROW = 100000;

    private static final int COUNTS = 8;
    private static final int FLOOR_FACTS = 6;
    private static final int LIFT_FACTS = 4;
    private static final int GUEST_FACTS = 7;

    /** A full hotel needs 330 bytes: 6 floors of 33, 4 lifts of 8 and 10 guests of 10. */
    private static final int PAPER_SIZE = 512;

    private final ArrayList<Floor> floors = new ArrayList<>();
    private final ArrayList<Shaft> shafts = new ArrayList<>();
    private final ArrayList<Guest> guests = new ArrayList<>();
    private final Moment now = new Moment();
    private final Dream dream;
    private final byte[] paper = new byte[PAPER_SIZE];
    private int paperLength;
    private int bells;
    private int turnsByBells;

    public HotelOfBells() {
        Dream deeper = null;
        for (int i = 0; i < MOST_ADVICE; i++) {
            deeper = new Dream(deeper);
        }
        dream = new Dream(deeper);
    }

    // ---- building

    public int addFloor(int rooms) throws IllegalArgumentException, IllegalStateException {
        if (rooms < LEAST_ROOMS || rooms > MOST_ROOMS) {
            throw new IllegalArgumentException("a floor has 3 to 12 rooms");
        }
        if (floors.size() >= MOST_FLOORS) {
            throw new IllegalStateException("there are 6 floors");
        }
        floors.add(new Floor(rooms));
        return floors.size() - 1;
    }

    public int setTune(int floor, int tune, int step)
            throws IndexOutOfBoundsException, IllegalArgumentException {
        if (!isFloor(floor)) {
            throw new IndexOutOfBoundsException("no such floor");
        }
        int span = spanOf(tune);
        if (span == 0) {
            throw new IllegalArgumentException("no such tune");
        }
        if (step < -MOST_STEP || step > MOST_STEP) {
            throw new IllegalArgumentException("a step is -5 to 5");
        }
        Floor ring = floors.get(floor);
        int before = ring.tune;
        ring.tune = tune;
        ring.span = span;
        ring.step = step;
        return before;
    }

    public int addLift() throws IllegalStateException {
        if (shafts.size() >= MOST_LIFTS) {
            throw new IllegalStateException("there are 4 lifts");
        }
        shafts.add(new Shaft());
        return shafts.size() - 1;
    }

    public int setDoor(int lift, int floor, int place)
            throws IndexOutOfBoundsException, IllegalArgumentException {
        if (!isLift(lift) || !isFloor(floor)) {
            throw new IndexOutOfBoundsException("no such lift or floor");
        }
        if (place < NONE || place >= floors.get(floor).rooms) {
            throw new IllegalArgumentException("no such place");
        }
        Shaft shaft = shafts.get(lift);
        int before = shaft.doorOn(floor);
        shaft.putDoor(floor, place);
        return before;
    }

    public int addGuest(int floor, int room)
            throws IndexOutOfBoundsException, IllegalStateException {
        if (!isRoom(floor, room)) {
            throw new IndexOutOfBoundsException("no such floor or room");
        }
        if (guests.size() >= MOST_GUESTS) {
            throw new IllegalStateException("there are 10 guests");
        }
        guests.add(new Guest(floor, room));
        return guests.size() - 1;
    }

    public boolean want(int guest, int floor, int room) throws IndexOutOfBoundsException {
        if (!isGuest(guest) || !isRoom(floor, room)) {
            throw new IndexOutOfBoundsException("no such guest, floor or room");
        }
        Guest who = guests.get(guest);
        who.wantedFloor = floor;
        who.wantedRoom = room;
        who.waited = 0;
        return who.isHome();
    }

    // ---- what is there

    public int floor(int floor, int what) throws IndexOutOfBoundsException {
        if (!isFloor(floor)) {
            throw new IndexOutOfBoundsException("no such floor");
        }
        Floor ring = floors.get(floor);
        switch (what) {
            case 0: return ring.rooms;
            case 1: return now.turnOf(floor);
            case 2: return ring.tune;
            case 3: return ring.step;
            case 4: return guestsOn(floor);
            case 5: return ring.tonesHeard(now.heard);
            default: throw new IndexOutOfBoundsException("a floor tells 0 to 5");
        }
    }

    public int place(int floor, int room) throws IndexOutOfBoundsException {
        if (!isRoom(floor, room)) {
            throw new IndexOutOfBoundsException("no such floor or room");
        }
        return placeOf(floor, room, now);
    }

    public int lift(int lift, int what) throws IndexOutOfBoundsException {
        if (!isLift(lift)) {
            throw new IndexOutOfBoundsException("no such lift");
        }
        switch (what) {
            case 0: return now.heightOf(lift);
            case 1: return now.isRising(lift) ? 1 : 0;
            case 2: return guestsIn(lift);
            case 3: return shafts.get(lift).doorOn(now.heightOf(lift));
            default: throw new IndexOutOfBoundsException("a lift tells 0 to 3");
        }
    }

    public int guest(int guest, int what) throws IndexOutOfBoundsException {
        if (!isGuest(guest)) {
            throw new IndexOutOfBoundsException("no such guest");
        }
        Guest who = guests.get(guest);
        switch (what) {
            case 0: return who.onFloor;
            case 1: return who.inRoom;
            case 2: return who.inLift;
            case 3: return who.wantedFloor;
            case 4: return who.wantedRoom;
            case 5: return who.isHome() ? 1 : 0;
            case 6: return who.waited;
            default: throw new IndexOutOfBoundsException("a guest tells 0 to 6");
        }
    }

    public int count(int what) throws IndexOutOfBoundsException {
        switch (what) {
            case 0: return floors.size();
            case 1: return shafts.size();
            case 2: return guests.size();
            case 3: return guestsAtHome();
            case 4: return guestsRiding();
            case 5: return bells;
            case 6: return turnsByBells;
            case 7: return paperLength;
            default: throw new IndexOutOfBoundsException("there are the counts 0 to 7");
        }
    }

    // ---- bells

    public int ring(int tone) throws IllegalArgumentException {
        if (!isTone(tone)) {
            throw new IllegalArgumentException("a tone is 0 to 3");
        }
        return toll(tone);
    }

    public int play(int tune) throws IllegalArgumentException {
        int span = spanOf(tune);
        if (span == 0) {
            throw new IllegalArgumentException("no such tune");
        }
        int cameHome = 0;
        for (int part = span / 10; part > 0; part /= 10) {
            cameHome += toll(toneAt(tune, part));
        }
        return cameHome;
    }

    // ---- looking ahead

    public int foresee(int guest, int tune)
            throws IndexOutOfBoundsException, IllegalArgumentException {
        if (!isGuest(guest)) {
            throw new IndexOutOfBoundsException("no such guest");
        }
        int span = spanOf(tune);
        if (span == 0) {
            throw new IllegalArgumentException("no such tune");
        }
        Guest who = guests.get(guest);
        if (who.isHome()) {
            return 0;
        }
        dream.moment.becomeLike(now);
        dream.guest.becomeLike(who);
        int behind = 0;
        for (int part = span / 10; part > 0; part /= 10) {
            behind++;
            strike(dream.moment, toneAt(tune, part));
            if (act(dream.guest, dream.moment)) {
                return behind;
            }
        }
        return NONE;
    }

    public int advise(int guest, int most)
            throws IndexOutOfBoundsException, IllegalArgumentException {
        if (!isGuest(guest)) {
            throw new IndexOutOfBoundsException("no such guest");
        }
        if (most < 1 || most > MOST_ADVICE) {
            throw new IllegalArgumentException("advice is of 1 to 5 bells");
        }
        Guest who = guests.get(guest);
        if (who.isHome()) {
            return 0;
        }
        dream.moment.becomeLike(now);
        dream.guest.becomeLike(who);
        int row = leastRow(dream, 0, most, NO_ROW);
        return row == NO_ROW ? NONE : row;
    }

    public int wouldTurn(int tone) throws IllegalArgumentException {
        if (!isTone(tone)) {
            throw new IllegalArgumentException("a tone is 0 to 3");
        }
        int heard = heardWith(now.heard, tone);
        int turning = 0;
        for (int i = 0; i < floors.size(); i++) {
            if (floors.get(i).hearsItsTune(heard)) {
                turning++;
            }
        }
        return turning;
    }

    // ---- paper

    public int write() {
        paperLength = 0;
        for (int i = 0; i < floors.size(); i++) {
            putFloor(i);
        }
        for (int i = 0; i < shafts.size(); i++) {
            putLift(i);
        }
        for (int i = 0; i < guests.size(); i++) {
            putGuest(i);
        }
        return paperLength;
    }

    public int byteAt(int index) throws IndexOutOfBoundsException {
        if (index < 0 || index >= paperLength || index >= paper.length) {
            throw new IndexOutOfBoundsException("no such place on the paper");
        }
        return paper[index];
    }

    public double home() {
        int all = guests.size();
        return all > 0 ? (double) guestsAtHome() / (double) all : 1.0;
    }

    public long digest() {
        long d = 541L;
        for (int what = 0; what < COUNTS; what++) {
            d = d * 31L + count(what);
        }
        for (int i = 0; i < floors.size(); i++) {
            for (int what = 0; what < FLOOR_FACTS; what++) {
                d = d * 31L + floor(i, what);
            }
        }
        for (int i = 0; i < shafts.size(); i++) {
            for (int what = 0; what < LIFT_FACTS; what++) {
                d = d * 31L + lift(i, what);
            }
            for (int floor = 0; floor < floors.size(); floor++) {
                d = d * 31L + shafts.get(i).doorOn(floor);
            }
        }
        for (int i = 0; i < guests.size(); i++) {
            for (int what = 0; what < GUEST_FACTS; what++) {
                d = d * 31L + guest(i, what);
            }
        }
        for (int i = 0; i < paperLength && i < paper.length; i++) {
            d = d * 31L + paper[i];
        }
        return d;
    }

    // ---- what exists

    private boolean isFloor(int floor) {
        return floor >= 0 && floor < floors.size();
    }

    private boolean isRoom(int floor, int room) {
        return isFloor(floor) && room >= 0 && room < floors.get(floor).rooms;
    }

    private boolean isLift(int lift) {
        return lift >= 0 && lift < shafts.size();
    }

    private boolean isGuest(int guest) {
        return guest >= 0 && guest < guests.size();
    }

    private static boolean isTone(int tone) {
        return tone >= 0 && tone < TONES;
    }

    // ---- tunes: all stay decimal numbers, for a tune is heard if the bells' number ends with it

    /** Ten to the number of the tune's tones, or 0 if this is no tune. */
    private static int spanOf(int tune) {
        if (tune < 1 || tune > GREATEST_TUNE) {
            return 0;
        }
        int span = 1;
        for (int rest = tune; rest > 0; rest /= 10) {
            int digit = rest % 10;
            if (digit < 1 || digit > TONES) {
                return 0;
            }
            span *= 10;
        }
        return span;
    }

    /** The tone of the digit that counts so much as part says. */
    private static int toneAt(int tune, int part) {
        return part > 0 ? (tune / part) % 10 - 1 : 0;
    }

    /** No tune is longer than 6 tones, so the bells ahead of the latest 6 need not be known. */
    private static int heardWith(int heard, int tone) {
        return (heard % 100000) * 10 + tone + 1;
    }

    private static int remainder(int number, int divisor) {
        return divisor > 0 ? number % divisor : 0;
    }

    // ---- bells, now or in a dream

    /** Rings a bell now; returns how many guests come home by it. */
    private int toll(int tone) {
        for (int i = 0; i < guests.size(); i++) {
            Guest who = guests.get(i);
            if (!who.isHome()) {
                who.waited++;
            }
        }
        bells++;
        turnsByBells += strike(now, tone);
        int cameHome = 0;
        for (int i = 0; i < guests.size(); i++) {
            if (act(guests.get(i), now)) {
                cameHome++;
            }
        }
        return cameHome;
    }

    /** Has the floors and the lifts hear a bell; returns how many floors turn. */
    private int strike(Moment moment, int tone) {
        moment.heard = heardWith(moment.heard, tone);
        int turning = 0;
        for (int i = 0; i < floors.size(); i++) {
            Floor ring = floors.get(i);
            if (ring.hearsItsTune(moment.heard)) {
                moment.setTurn(i, ring.nextTurn(moment.turnOf(i)));
                turning++;
            }
        }
        for (int i = 0; i < shafts.size(); i++) {
            moment.moveLift(i, floors.size());
        }
        return turning;
    }

    /** Has a guest do what a bell asks of guests; returns whether the guest comes home by this. */
    private boolean act(Guest who, Moment moment) {
        if (who.inLift != NONE) {
            if (!reachesWanted(who, moment)) {
                return false;
            }
            who.stepOut();
            return true;
        }
        if (!who.isHome()) {
            int lift = liftBefore(who.onFloor, who.inRoom, moment);
            if (lift != NONE) {
                who.stepInto(lift);
            }
        }
        return false;
    }

    private boolean reachesWanted(Guest who, Moment moment) {
        if (!isLift(who.inLift) || moment.heightOf(who.inLift) != who.wantedFloor) {
            return false;
        }
        int place = placeOf(who.wantedFloor, who.wantedRoom, moment);
        return place != NONE && shafts.get(who.inLift).doorOn(who.wantedFloor) == place;
    }

    /** The lift with the smallest number that can be entered from a room, or NONE. */
    private int liftBefore(int floor, int room, Moment moment) {
        int place = placeOf(floor, room, moment);
        if (place == NONE) {
            return NONE;
        }
        for (int i = 0; i < shafts.size(); i++) {
            if (moment.heightOf(i) == floor && shafts.get(i).doorOn(floor) == place) {
                return i;
            }
        }
        return NONE;
    }

    private int placeOf(int floor, int room, Moment moment) {
        if (!isFloor(floor)) {
            return NONE;
        }
        return remainder(room + moment.turnOf(floor), floors.get(floor).rooms);
    }

    /**
     * The least of all rows that begin with this one, have at most so many bells more and bring the
     * dream's guest home, or the least so far if none is less. No digit is 0, so the fewer bells
     * are always the lesser number.
     */
    private int leastRow(Dream from, int row, int bellsLeft, int leastSoFar) {
        int least = leastSoFar;
        for (int tone = 0; tone < TONES && bellsLeft > 0; tone++) {
            least = leastRowWith(from, row, tone, bellsLeft - 1, least);
        }
        return least;
    }

    /** The same for the rows that go on with this tone. */
    private int leastRowWith(Dream from, int row, int tone, int bellsLeft, int leastSoFar) {
        Dream next = from.deeper;
        int longer = row * 10 + tone + 1;
        if (next == null || longer >= leastSoFar) {
            return leastSoFar;
        }
        next.moment.becomeLike(from.moment);
        next.guest.becomeLike(from.guest);
        strike(next.moment, tone);
        if (act(next.guest, next.moment)) {
            return longer;
        }
        return leastRow(next, longer, bellsLeft, leastSoFar);
    }

    // ---- guests counted

    private int guestsOn(int floor) {
        int found = 0;
        for (int i = 0; i < guests.size(); i++) {
            if (guests.get(i).onFloor == floor) {
                found++;
            }
        }
        return found;
    }

    private int guestsIn(int lift) {
        int found = 0;
        for (int i = 0; i < guests.size(); i++) {
            if (guests.get(i).inLift == lift) {
                found++;
            }
        }
        return found;
    }

    private int guestsAtHome() {
        int found = 0;
        for (int i = 0; i < guests.size(); i++) {
            if (guests.get(i).isHome()) {
                found++;
            }
        }
        return found;
    }

    private int guestsRiding() {
        return guests.size() - guestsIn(NONE);
    }

    // ---- lines of the paper

    private void putFloor(int floor) {
        if (!isFloor(floor)) {
            return;
        }
        int rooms = floors.get(floor).rooms;
        int turn = now.turnOf(floor);
        put('F');
        putBehindBlank(floor);
        putBehindBlank(turn);
        for (int place = 0; place < rooms; place++) {
            putBehindBlank(remainder(place + rooms - turn, rooms));
        }
        put('\n');
    }

    private void putLift(int lift) {
        put('L');
        putBehindBlank(lift);
        putBehindBlank(now.heightOf(lift));
        put(' ');
        put(now.isRising(lift) ? '+' : '-');
        put('\n');
    }

    private void putGuest(int guest) {
        if (!isGuest(guest)) {
            return;
        }
        Guest who = guests.get(guest);
        put('G');
        putBehindBlank(guest);
        if (who.inLift == NONE) {
            putBehindBlank(who.onFloor);
            put('.');
            putNumber(who.inRoom);
        } else {
            put(' ');
            put('L');
            putNumber(who.inLift);
        }
        if (who.isHome()) {
            put('!');
        }
        put('\n');
    }

    private void putBehindBlank(int number) {
        put(' ');
        putNumber(number);
    }

    /** No number on the paper is above 11. */
    private void putNumber(int number) {
        if (number >= 10) {
            put((char) ('0' + number / 10));
        }
        put((char) ('0' + number % 10));
    }

    private void put(char sign) {
        if (paperLength >= 0 && paperLength < paper.length) {
            paper[paperLength] = (byte) sign;
            paperLength++;
        }
    }

    // ---- what the hotel is made of

    /** A ring of rooms, without its turn, which a bell changes. */
    private static final class Floor {
        final int rooms;
        int tune = 1;
        int span = 10;
        int step;

        Floor(int rooms) {
            this.rooms = rooms;
        }

        boolean hearsItsTune(int heard) {
            return remainder(heard, span) == tune;
        }

        int nextTurn(int turn) {
            return remainder(turn + step + 2 * rooms, rooms);
        }

        /** The greatest k so that the latest k bells are the first k tones of the tune. */
        int tonesHeard(int heard) {
            int greatest = 0;
            int tones = 0;
            int latest = 1;
            for (int part = span / 10; part > 0; part /= 10) {
                tones++;
                latest *= 10;
                if (remainder(heard, latest) == tune / part) {
                    greatest = tones;
                }
            }
            return greatest;
        }
    }

    /** The doors of a shaft, without its lift, which a bell moves. */
    private static final class Shaft {
        private final int[] doors = new int[MOST_FLOORS];

        Shaft() {
            for (int i = 0; i < doors.length; i++) {
                doors[i] = NONE;
            }
        }

        int doorOn(int floor) {
            return floor >= 0 && floor < doors.length ? doors[floor] : NONE;
        }

        void putDoor(int floor, int place) {
            if (floor >= 0 && floor < doors.length) {
                doors[floor] = place;
            }
        }
    }

    /** A guest is on a floor and in a room, or in a lift; what does not apply is NONE. */
    private static final class Guest {
        int onFloor;
        int inRoom;
        int inLift = NONE;
        int wantedFloor;
        int wantedRoom;
        int waited;

        Guest(int floor, int room) {
            onFloor = floor;
            inRoom = room;
            wantedFloor = floor;
            wantedRoom = room;
        }

        boolean isHome() {
            return onFloor == wantedFloor && inRoom == wantedRoom;
        }

        void stepOut() {
            onFloor = wantedFloor;
            inRoom = wantedRoom;
            inLift = NONE;
        }

        void stepInto(int lift) {
            onFloor = NONE;
            inRoom = NONE;
            inLift = lift;
        }

        void becomeLike(Guest other) {
            onFloor = other.onFloor;
            inRoom = other.inRoom;
            inLift = other.inLift;
            wantedFloor = other.wantedFloor;
            wantedRoom = other.wantedRoom;
            waited = other.waited;
        }
    }

    /** All that a bell changes but the guests: apart from the rest, so that it can be dreamt of. */
    private static final class Moment {
        int heard;
        private final int[] turns = new int[MOST_FLOORS];
        private final int[] heights = new int[MOST_LIFTS];
        private final boolean[] falling = new boolean[MOST_LIFTS];

        int turnOf(int floor) {
            return floor >= 0 && floor < turns.length ? turns[floor] : 0;
        }

        void setTurn(int floor, int turn) {
            if (floor >= 0 && floor < turns.length) {
                turns[floor] = turn;
            }
        }

        int heightOf(int lift) {
            return lift >= 0 && lift < heights.length ? heights[lift] : 0;
        }

        boolean isRising(int lift) {
            return lift >= 0 && lift < falling.length && !falling[lift];
        }

        void moveLift(int lift, int floorCount) {
            if (lift < 0 || lift >= heights.length || lift >= falling.length) {
                return;
            }
            boolean canGoOn = falling[lift] ? heights[lift] > 0 : heights[lift] + 1 < floorCount;
            if (!canGoOn) {
                falling[lift] = !falling[lift];
            }
            int next = falling[lift] ? heights[lift] - 1 : heights[lift] + 1;
            if (next >= 0 && next < floorCount) {
                heights[lift] = next;
            }
        }

        void becomeLike(Moment other) {
            heard = other.heard;
            for (int i = 0; i < turns.length; i++) {
                turns[i] = other.turnOf(i);
            }
            for (int i = 0; i < heights.length && i < falling.length; i++) {
                heights[i] = other.heightOf(i);
                falling[i] = !other.isRising(i);
            }
        }
    }

    /**
     * What might be behind some bells: made once, as a chain, so that looking ahead makes nothing.
     * Guests don't hinder one another, so a dream needs the one guest alone.
     */
    private static final class Dream {
        final Moment moment = new Moment();
        final Guest guest = new Guest(0, 0);
        final Dream deeper;

        Dream(Dream deeper) {
            this.deeper = deeper;
        }
    }
}
