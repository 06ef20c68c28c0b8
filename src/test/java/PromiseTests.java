/** For each promise of the document: ordinary inputs, the edges that it names, and wrong inputs. */
public final class PromiseTests {
    private static final String BOUNDS = "IndexOutOfBoundsException";
    private static final String ARGUMENT = "IllegalArgumentException";
    private static final String STATE = "IllegalStateException";

    private static int wrong = 0;
    private static String promise = "";

    private interface Call {
        long answer();
    }

    private static void due(String what, double got, double want) {
        if (got != want) {
            wrong++;
            System.out.println(promise + ": " + what + " is " + got + ", due is " + want);
        }
    }

    private static void dueLong(String what, long got, long want) {
        if (got != want) {
            wrong++;
            System.out.println(promise + ": " + what + " is " + got + ", due is " + want);
        }
    }

    /** What a throw statement of the class throws has a method of the class on top of its trace. */
    private static boolean isThrownByHotel(RuntimeException thrown) {
        StackTraceElement[] trace = thrown.getStackTrace();
        return trace.length > 0 && trace[0].getClassName().startsWith("HotelOfBells");
    }

    /** The call must throw just this, and leave the hotel as it was. */
    private static void dueThrow(String what, HotelOfBells hotel, String exception, Call call) {
        long before = hotel.digest();
        String got = "nothing";
        try {
            call.answer();
        } catch (RuntimeException thrown) {
            got = thrown.getClass().getSimpleName();
            if (!isThrownByHotel(thrown)) got = "what the machine or the library throws, " + got;
        }
        if (!got.equals(exception)) {
            wrong++;
            System.out.println(promise + ": " + what + " throws " + got + ", due is " + exception);
        }
        dueLong("digest behind " + what, hotel.digest(), before);
    }

    private static HotelOfBells hotel(int... rooms) {
        HotelOfBells hotel = new HotelOfBells();
        for (int count : rooms) {
            hotel.addFloor(count);
        }
        return hotel;
    }

    private static String paper(HotelOfBells hotel) {
        StringBuilder text = new StringBuilder();
        int length = hotel.count(7);
        for (int i = 0; i < length; i++) {
            text.append((char) hotel.byteAt(i));
        }
        return text.toString();
    }

    private static void duePaper(HotelOfBells hotel, String want) {
        dueLong("write()", hotel.write(), want.length());
        dueLong("count(7)", hotel.count(7), want.length());
        String got = paper(hotel);
        if (!got.equals(want)) {
            wrong++;
            System.out.println(promise + ": the paper says\n" + got + "due is\n" + want);
        }
    }

    /** What the document says of d, out of the answers of the other calls. */
    private static long digestOf(HotelOfBells hotel) {
        int[] counts = new int[8];
        for (int what = 0; what <= 7; what++) counts[what] = hotel.count(what);
        long d = 541;
        for (int count : counts) d = d * 31 + count;
        for (int i = 0; i < counts[0]; i++) {
            for (int what = 0; what <= 5; what++) d = d * 31 + hotel.floor(i, what);
        }
        for (int i = 0; i < counts[1]; i++) {
            for (int what = 0; what <= 3; what++) d = d * 31 + hotel.lift(i, what);
            for (int floor = 0; floor < counts[0]; floor++) {
                int door = hotel.setDoor(i, floor, -1);
                hotel.setDoor(i, floor, door);
                d = d * 31 + door;
            }
        }
        for (int i = 0; i < counts[2]; i++) {
            for (int what = 0; what <= 6; what++) d = d * 31 + hotel.guest(i, what);
        }
        for (int i = 0; i < counts[7]; i++) d = d * 31 + hotel.byteAt(i);
        return d;
    }

    private static void aNewObject() {
        promise = "promise 1";
        HotelOfBells h = new HotelOfBells();
        for (int what = 0; what <= 7; what++) due("count(" + what + ")", h.count(what), 0);
        due("home()", h.home(), 1);
        due("write()", h.write(), 0);
        long d = 541;
        for (int i = 0; i < 8; i++) d *= 31;
        dueLong("digest()", h.digest(), d);
    }

    private static void addFloor() {
        promise = "promise 2";
        HotelOfBells h = new HotelOfBells();
        dueThrow("addFloor(2)", h, ARGUMENT, () -> h.addFloor(2));
        dueThrow("addFloor(13)", h, ARGUMENT, () -> h.addFloor(13));
        dueThrow("addFloor(least)", h, ARGUMENT, () -> h.addFloor(Integer.MIN_VALUE));
        h.addLift();
        int[] rooms = {3, 12, 4, 7, 11, 5};
        for (int i = 0; i < 6; i++) {
            due("addFloor", h.addFloor(rooms[i]), i);
            int[] facts = {rooms[i], 0, 1, 0, 0, 0};
            for (int what = 0; what < 6; what++) due("floor(.., " + what + ")", h.floor(i, what), facts[what]);
            due("no door", h.setDoor(0, i, -1), -1);
        }
        due("count(0)", h.count(0), 6);
        dueThrow("a 7th floor", h, STATE, () -> h.addFloor(3));
        dueThrow("a 7th floor of 2 rooms", h, ARGUMENT, () -> h.addFloor(2));
        dueThrow("a 7th floor of 13 rooms", h, ARGUMENT, () -> h.addFloor(13));
    }

    private static void setTune() {
        promise = "promise 3";
        HotelOfBells h = hotel(3, 12);
        due("first", h.setTune(1, 444444, 5), 1);
        due("second", h.setTune(1, 111111, -5), 444444);
        due("third", h.setTune(1, 4, 0), 111111);
        due("fourth", h.setTune(1, 2341, 3), 4);
        due("tune", h.floor(1, 2), 2341);
        due("step", h.floor(1, 3), 3);
        due("the other floor's tune", h.floor(0, 2), 1);
        int[] noTunes = {0, -1, -11, 5, 10, 15, 51, 101, 110, 1234567, 1111111, 444445, 344440, 9,
            Integer.MAX_VALUE, Integer.MIN_VALUE};
        for (int tune : noTunes) {
            dueThrow("tune " + tune, h, ARGUMENT, () -> h.setTune(1, tune, 0));
        }
        dueThrow("step 6", h, ARGUMENT, () -> h.setTune(1, 1, 6));
        dueThrow("step -6", h, ARGUMENT, () -> h.setTune(1, 1, -6));
        dueThrow("floor 2", h, BOUNDS, () -> h.setTune(2, 1, 0));
        dueThrow("floor -1", h, BOUNDS, () -> h.setTune(-1, 1, 0));
        dueThrow("floor 2 and tune 0", h, BOUNDS, () -> h.setTune(2, 0, 9));
    }

    private static void addLift() {
        promise = "promise 4";
        HotelOfBells h = hotel(3);
        for (int i = 0; i < 4; i++) {
            due("addLift()", h.addLift(), i);
            int[] facts = {0, 1, 0, -1};
            for (int what = 0; what < 4; what++) due("lift(.., " + what + ")", h.lift(i, what), facts[what]);
        }
        due("count(1)", h.count(1), 4);
        dueThrow("a 5th lift", h, STATE, () -> h.addLift());
    }

    private static void setDoor() {
        promise = "promise 5";
        HotelOfBells h = hotel(3, 12);
        h.addLift();
        h.addLift();
        due("none before", h.setDoor(1, 1, 11), -1);
        due("11 before", h.setDoor(1, 1, 0), 11);
        due("0 before", h.setDoor(1, 1, -1), 0);
        due("taken away", h.setDoor(1, 1, 5), -1);
        due("the other lift", h.setDoor(0, 1, 5), -1);
        due("the other floor", h.setDoor(1, 0, 2), -1);
        dueThrow("place 3", h, ARGUMENT, () -> h.setDoor(1, 0, 3));
        dueThrow("place 12", h, ARGUMENT, () -> h.setDoor(1, 1, 12));
        dueThrow("place -2", h, ARGUMENT, () -> h.setDoor(1, 1, -2));
        dueThrow("lift 2", h, BOUNDS, () -> h.setDoor(2, 0, 0));
        dueThrow("lift -1", h, BOUNDS, () -> h.setDoor(-1, 0, 0));
        dueThrow("floor 2", h, BOUNDS, () -> h.setDoor(0, 2, 0));
        dueThrow("floor -1", h, BOUNDS, () -> h.setDoor(0, -1, 0));
        dueThrow("floor 2, place 99", h, BOUNDS, () -> h.setDoor(0, 2, 99));
    }

    private static void addGuest() {
        promise = "promise 6";
        HotelOfBells h = hotel(3, 12);
        HotelOfBells empty = new HotelOfBells();
        dueThrow("no floors", empty, BOUNDS, () -> empty.addGuest(0, 0));
        for (int i = 0; i < 10; i++) {
            due("addGuest", h.addGuest(1, 11 - i % 2), i);
            int[] facts = {1, 11 - i % 2, -1, 1, 11 - i % 2, 1, 0};
            for (int what = 0; what < 7; what++) due("guest(.., " + what + ")", h.guest(i, what), facts[what]);
        }
        dueThrow("an 11th guest", h, STATE, () -> h.addGuest(0, 0));
        dueThrow("an 11th guest, floor 2", h, BOUNDS, () -> h.addGuest(2, 0));
        HotelOfBells g = hotel(3);
        dueThrow("room 3", g, BOUNDS, () -> g.addGuest(0, 3));
        dueThrow("room -1", g, BOUNDS, () -> g.addGuest(0, -1));
        dueThrow("floor -1", g, BOUNDS, () -> g.addGuest(-1, 0));
    }

    private static void want() {
        promise = "promise 7";
        HotelOfBells h = hotel(3, 5);
        h.addLift();
        h.addGuest(0, 1);
        due("another room", h.want(0, 0, 2) ? 1 : 0, 0);
        due("another floor", h.want(0, 1, 1) ? 1 : 0, 0);
        h.ring(0);
        due("waited", h.guest(0, 6), 1);
        dueThrow("guest 1", h, BOUNDS, () -> h.want(1, 0, 0) ? 1 : 0);
        dueThrow("guest -1", h, BOUNDS, () -> h.want(-1, 0, 0) ? 1 : 0);
        dueThrow("floor 2", h, BOUNDS, () -> h.want(0, 2, 0) ? 1 : 0);
        dueThrow("floor -1", h, BOUNDS, () -> h.want(0, -1, 0) ? 1 : 0);
        dueThrow("room 3", h, BOUNDS, () -> h.want(0, 0, 3) ? 1 : 0);
        dueThrow("room -1", h, BOUNDS, () -> h.want(0, 0, -1) ? 1 : 0);
        due("still waited", h.guest(0, 6), 1);
        due("the same again", h.want(0, 1, 1) ? 1 : 0, 0);
        due("waits anew", h.guest(0, 6), 0);
        due("the own room", h.want(0, 0, 1) ? 1 : 0, 1);
        h.want(0, 1, 4);
        h.setDoor(0, 0, 1);
        h.ring(1);
        due("rides", h.guest(0, 2), 0);
        due("not at home in a lift", h.want(0, 0, 1) ? 1 : 0, 0);
        due("still rides", h.guest(0, 2), 0);
    }

    private static void floorFacts() {
        promise = "promise 8";
        HotelOfBells h = hotel(5, 3);
        h.setTune(0, 1212, 2);
        h.addGuest(0, 0);
        h.addGuest(0, 0);
        h.addGuest(1, 2);
        int[] tones = {0, 1, 0, 1, 0, 1, 0, 0, 2};
        int[] known = {1, 2, 3, 4, 3, 4, 3, 1, 0};
        int[] turns = {0, 0, 0, 2, 2, 4, 4, 4, 4};
        for (int i = 0; i < tones.length; i++) {
            h.ring(tones[i]);
            due("known behind bell " + i, h.floor(0, 5), known[i]);
            due("turn behind bell " + i, h.floor(0, 1), turns[i]);
        }
        int[] facts = {5, 4, 1212, 2, 2, 0};
        for (int what = 0; what < 6; what++) due("floor(0, " + what + ")", h.floor(0, what), facts[what]);
        due("guests above", h.floor(1, 4), 1);
        h.setTune(0, 211344, 0);
        due("bells ahead of the tune count", h.floor(0, 5), 4);
        h.setTune(0, 212113, 0);
        due("all six of them", h.floor(0, 5), 6);
        h.addFloor(4);
        h.setTune(2, 3, 0);
        due("bells ahead of the floor count", h.floor(2, 5), 1);
        dueThrow("floor 3", h, BOUNDS, () -> h.floor(3, 0));
        dueThrow("floor -1", h, BOUNDS, () -> h.floor(-1, 0));
        dueThrow("what 6", h, BOUNDS, () -> h.floor(0, 6));
        dueThrow("what -1", h, BOUNDS, () -> h.floor(0, -1));
    }

    private static void place() {
        promise = "promise 9";
        HotelOfBells h = hotel(12, 3);
        h.setTune(0, 1, -5);
        h.setTune(1, 1, 5);
        h.ring(0);
        due("turn -5 of 12", h.floor(0, 1), 7);
        due("turn 5 of 3", h.floor(1, 1), 2);
        for (int room = 0; room < 12; room++) due("place(0, " + room + ")", h.place(0, room), (room + 7) % 12);
        for (int room = 0; room < 3; room++) due("place(1, " + room + ")", h.place(1, room), (room + 2) % 3);
        dueThrow("floor 2", h, BOUNDS, () -> h.place(2, 0));
        dueThrow("floor -1", h, BOUNDS, () -> h.place(-1, 0));
        dueThrow("room 12", h, BOUNDS, () -> h.place(0, 12));
        dueThrow("room -1", h, BOUNDS, () -> h.place(0, -1));
    }

    private static void liftFacts() {
        promise = "promise 10";
        HotelOfBells h = new HotelOfBells();
        h.addLift();
        for (int i = 0; i < 3; i++) {
            h.ring(3);
            due("without floors", h.lift(0, 0), 0);
            due("without floors, up", h.lift(0, 1), i % 2);
            due("without floors, door", h.lift(0, 3), -1);
        }
        h.addFloor(3);
        h.ring(3);
        due("one floor", h.lift(0, 0), 0);
        due("one floor, up", h.lift(0, 1), 1);
        h.addFloor(5);
        h.addFloor(4);
        h.setDoor(0, 0, 2);
        h.setDoor(0, 2, 3);
        int[] at = {1, 2, 1, 0, 1, 2};
        int[] up = {1, 1, 0, 0, 1, 1};
        int[] door = {-1, 3, -1, 2, -1, 3};
        for (int i = 0; i < at.length; i++) {
            h.ring(3);
            due("floor behind " + i, h.lift(0, 0), at[i]);
            due("up behind " + i, h.lift(0, 1), up[i]);
            due("door behind " + i, h.lift(0, 3), door[i]);
        }
        h.addFloor(4);
        h.ring(3);
        due("up to the new floor", h.lift(0, 0), 3);
        HotelOfBells g = hotel(3);
        g.addLift();
        g.setDoor(0, 0, 0);
        for (int i = 0; i < 3; i++) {
            g.addGuest(0, i == 2 ? 1 : 0);
            g.want(i, 0, 2);
        }
        g.ring(3);
        due("guests in it", g.lift(0, 2), 2);
        dueThrow("lift 1", g, BOUNDS, () -> g.lift(1, 0));
        dueThrow("lift -1", g, BOUNDS, () -> g.lift(-1, 0));
        dueThrow("what 4", g, BOUNDS, () -> g.lift(0, 4));
        dueThrow("what -1", g, BOUNDS, () -> g.lift(0, -1));
    }

    private static void guestFacts() {
        promise = "promise 11";
        HotelOfBells h = hotel(3, 4);
        h.addLift();
        h.setDoor(0, 1, 2);
        h.setDoor(0, 0, 1);
        h.addGuest(1, 2);
        h.addGuest(1, 2);
        h.want(0, 0, 1);
        int[][] facts = {{1, 2, -1, 0, 1, 0, 0}, {-1, -1, 0, 0, 1, 0, 1}, {0, 1, -1, 0, 1, 1, 2}, {0, 1, -1, 0, 1, 1, 2}};
        for (int i = 0; i < facts.length; i++) {
            if (i > 0) h.ring(3);
            for (int what = 0; what < 7; what++) {
                due("guest(0, " + what + ") behind bells " + i, h.guest(0, what), facts[i][what]);
            }
        }
        due("who is at home all along", h.guest(1, 6), 0);
        dueThrow("guest 2", h, BOUNDS, () -> h.guest(2, 0));
        dueThrow("guest -1", h, BOUNDS, () -> h.guest(-1, 0));
        dueThrow("what 7", h, BOUNDS, () -> h.guest(0, 7));
        dueThrow("what -1", h, BOUNDS, () -> h.guest(0, -1));
    }

    private static void count() {
        promise = "promise 12";
        HotelOfBells h = hotel(3, 4);
        h.setTune(0, 2, 0);
        h.setTune(1, 12, 3);
        h.addLift();
        h.setDoor(0, 1, 0);
        h.addGuest(0, 0);
        h.addGuest(1, 3);
        h.addGuest(1, 0);
        h.want(2, 0, 0);
        h.play(121);
        h.ring(0);
        h.write();
        int[] facts = {2, 1, 3, 2, 1, 4, 2, paper(h).length()};
        for (int what = 0; what < 8; what++) due("count(" + what + ")", h.count(what), facts[what]);
        dueThrow("what 8", h, BOUNDS, () -> h.count(8));
        dueThrow("what -1", h, BOUNDS, () -> h.count(-1));
    }

    private static void ring() {
        promise = "promise 13";
        HotelOfBells h = hotel(3, 4);
        h.setTune(1, 3, 1);
        for (int i = 0; i < 4; i++) h.addLift();
        for (int i = 1; i < 4; i++) h.setDoor(i, 1, 1);
        h.setDoor(2, 0, 0);
        h.addGuest(1, 0);
        h.addGuest(1, 0);
        h.addGuest(1, 1);
        h.want(0, 0, 0);
        h.want(1, 0, 0);
        h.want(2, 1, 2);
        due("the floor turns ahead of the guests", h.ring(2), 0);
        due("the lift with the smallest number", h.guest(0, 2), 1);
        due("likewise", h.guest(1, 2), 1);
        due("who is not at a door stays", h.guest(2, 2), -1);
        due("no door there", h.ring(3), 0);
        h.setDoor(1, 0, 0);
        due("no lift there", h.ring(3), 0);
        due("both come home", h.ring(3), 2);
        due("at home", h.guest(1, 5), 1);
        due("one turn", h.count(6), 1);
        HotelOfBells g = hotel(3);
        g.addLift();
        g.setDoor(0, 0, 0);
        g.addGuest(0, 0);
        g.want(0, 0, 1);
        g.setTune(0, 4, 2);
        due("steps in on the wanted floor too", g.ring(0), 0);
        due("in it", g.guest(0, 2), 0);
        due("the wanted room is elsewhere", g.ring(0), 0);
        due("the wanted room comes", g.ring(3), 1);
        dueThrow("tone 4", g, ARGUMENT, () -> g.ring(4));
        dueThrow("tone -1", g, ARGUMENT, () -> g.ring(-1));
    }

    private static void play() {
        promise = "promise 14";
        HotelOfBells h = hotel(3, 3, 3);
        h.addLift();
        h.addLift();
        h.setDoor(0, 0, 0);
        h.setDoor(0, 1, 0);
        h.setDoor(0, 2, 0);
        for (int i = 0; i < 4; i++) h.addGuest(1, i == 3 ? 1 : 0);
        h.want(0, 2, 0);
        h.want(1, 0, 0);
        h.want(2, 1, 1);
        h.want(3, 2, 0);
        due("play", h.play(444434), 2);
        due("bells", h.count(5), 6);
        h.setTune(0, 34, 0);
        h.setTune(1, 43, 0);
        due("in their order", h.floor(0, 5), 2);
        due("the highest first", h.floor(1, 5), 1);
        due("one bell", h.play(1), 0);
        due("bells", h.count(5), 7);
        int[] noTunes = {0, -1, 5, 10, 105, 1111111, -1111, Integer.MAX_VALUE};
        for (int tune : noTunes) dueThrow("tune " + tune, h, ARGUMENT, () -> h.play(tune));
    }

    /** Guest 0 has to step in by the first of the three bells that turn the floor; guest 1 is at home. */
    private static HotelOfBells waiting() {
        HotelOfBells h = hotel(6);
        h.setTune(0, 122, 1);
        h.addLift();
        h.setDoor(0, 0, 0);
        h.addGuest(0, 0);
        h.want(0, 0, 5);
        h.addGuest(0, 3);
        return h;
    }

    /** A guest in a lift that goes down from floor 1 of three, to a room on floor 0 before its door. */
    private static HotelOfBells goingDown() {
        HotelOfBells h = hotel(3, 3, 3);
        h.setTune(0, 3, 1);
        h.addLift();
        h.setDoor(0, 0, 1);
        h.setDoor(0, 1, 2);
        h.addGuest(1, 2);
        h.want(0, 0, 0);
        h.play(344);
        return h;
    }

    private static void foresee() {
        promise = "promise 15";
        HotelOfBells h = waiting();
        due("at home now", h.foresee(1, 111111), 0);
        due("steps in only", h.foresee(0, 1), -1);
        long before = h.digest();
        due("in, and by the turn out", h.foresee(0, 122), 3);
        due("by the first turn", h.foresee(0, 12222), 3);
        due("too early", h.foresee(0, 222), -1);
        due("behind six", h.foresee(0, 111122), 6);
        dueLong("nothing is changed", h.digest(), before);
        h.play(12);
        due("the bells that were rung count", h.foresee(0, 2), 1);
        due("once more", h.foresee(0, 2), 1);
        dueThrow("guest 2", h, BOUNDS, () -> h.foresee(2, 1));
        dueThrow("guest -1", h, BOUNDS, () -> h.foresee(-1, 1));
        due("the lift goes on down", goingDown().foresee(0, 4), 1);
        due("the floor turns away, and back", goingDown().foresee(0, 343434), 5);
        dueThrow("guest 2, tune 0", h, BOUNDS, () -> h.foresee(2, 0));
        dueThrow("tune 0", h, ARGUMENT, () -> h.foresee(0, 0));
        dueThrow("tune 1111111", h, ARGUMENT, () -> h.foresee(0, 1111111));
        dueThrow("tune 5, at home", h, ARGUMENT, () -> h.foresee(1, 5));
    }

    private static void advise() {
        promise = "promise 16";
        HotelOfBells h = waiting();
        long before = h.digest();
        due("at home now", h.advise(1, 5), 0);
        due("not within 2", h.advise(0, 2), -1);
        due("the least of 3", h.advise(0, 3), 122);
        due("not more bells than needed", h.advise(0, 5), 122);
        dueLong("nothing is changed", h.digest(), before);
        h.ring(3);
        due("in it, but no bell of the tune", h.advise(0, 2), -1);
        due("all the tune", h.advise(0, 3), 122);
        h.ring(0);
        due("behind its first bell", h.advise(0, 1), -1);
        due("behind its first bell", h.advise(0, 2), 22);
        h.ring(1);
        due("fewer bells are ahead of lesser ones", h.advise(0, 5), 2);
        HotelOfBells g = hotel(12);
        g.setTune(0, 44444, 1);
        g.addLift();
        g.setDoor(0, 0, 0);
        g.addGuest(0, 0);
        g.want(0, 0, 11);
        due("not within 4", g.advise(0, 4), -1);
        due("all five", g.advise(0, 5), 44444);
        g.setTune(0, 3, 2);
        due("never at the door", g.advise(0, 5), -1);
        g.setTune(0, 3, 1);
        due("any first bell", g.advise(0, 5), 13);
        due("the lift goes on down", goingDown().advise(0, 5), 1);
        dueThrow("guest 1", g, BOUNDS, () -> g.advise(1, 1));
        dueThrow("guest -1", g, BOUNDS, () -> g.advise(-1, 1));
        dueThrow("guest 1, most 0", g, BOUNDS, () -> g.advise(1, 0));
        dueThrow("most 0", g, ARGUMENT, () -> g.advise(0, 0));
        dueThrow("most 6", g, ARGUMENT, () -> g.advise(0, 6));
        dueThrow("most 0, at home", h, ARGUMENT, () -> h.advise(1, 0));
    }

    private static void wouldTurn() {
        promise = "promise 17";
        HotelOfBells h = hotel(3, 3, 3, 3);
        h.setTune(1, 21, 0);
        h.setTune(2, 31, 2);
        h.setTune(3, 4, 1);
        due("now", h.wouldTurn(0), 1);
        due("another", h.wouldTurn(1), 0);
        due("the fourth", h.wouldTurn(3), 1);
        h.ring(1);
        due("behind tone 1", h.wouldTurn(0), 2);
        long before = h.digest();
        due("again", h.wouldTurn(0), 2);
        dueLong("nothing is changed", h.digest(), before);
        due("empty", new HotelOfBells().wouldTurn(0), 0);
        dueThrow("tone 4", h, ARGUMENT, () -> h.wouldTurn(4));
        dueThrow("tone -1", h, ARGUMENT, () -> h.wouldTurn(-1));
    }

    private static void write() {
        promise = "promise 18";
        HotelOfBells h = hotel(12, 3);
        h.setTune(0, 1, -1);
        h.setTune(1, 1, 1);
        h.addLift();
        h.addLift();
        h.setDoor(1, 1, 0);
        h.addGuest(0, 11);
        h.addGuest(1, 0);
        h.addGuest(1, 2);
        h.want(1, 0, 0);
        h.want(2, 0, 0);
        duePaper(h, "F 0 0 0 1 2 3 4 5 6 7 8 9 10 11\nF 1 0 0 1 2\nL 0 0 +\nL 1 0 +\nG 0 0.11!\nG 1 1.0\nG 2 1.2\n");
        h.ring(0);
        due("the paper stays", h.byteAt(4), '0');
        duePaper(h, "F 0 11 1 2 3 4 5 6 7 8 9 10 11 0\nF 1 1 2 0 1\nL 0 1 +\nL 1 1 +\nG 0 0.11!\nG 1 1.0\nG 2 L1\n");
        h.ring(3);
        duePaper(h, "F 0 11 1 2 3 4 5 6 7 8 9 10 11 0\nF 1 1 2 0 1\nL 0 0 -\nL 1 0 -\nG 0 0.11!\nG 1 1.0\nG 2 L1\n");
        duePaper(new HotelOfBells(), "");
        HotelOfBells full = hotel(12, 12, 12, 12, 12, 12);
        for (int i = 0; i < 4; i++) full.addLift();
        for (int i = 0; i < 10; i++) full.addGuest(5, 11);
        for (int i = 0; i < 6; i++) full.setTune(i, 1, -2);
        full.ring(0);
        due("a full hotel", full.write(), 6 * 33 + 4 * 8 + 10 * 10);
        due("its last byte", full.byteAt(329), 10);
    }

    private static void byteAt() {
        promise = "promise 19";
        HotelOfBells h = hotel(3);
        dueThrow("ahead of write()", h, BOUNDS, () -> h.byteAt(0));
        int length = h.write();
        due("F", h.byteAt(0), 'F');
        due("the last", h.byteAt(length - 1), 10);
        dueThrow("behind the last", h, BOUNDS, () -> h.byteAt(length));
        dueThrow("-1", h, BOUNDS, () -> h.byteAt(-1));
        dueThrow("the greatest", h, BOUNDS, () -> h.byteAt(Integer.MAX_VALUE));
    }

    private static void home() {
        promise = "promise 20";
        HotelOfBells h = hotel(3);
        due("none", h.home(), 1);
        h.addGuest(0, 0);
        due("all", h.home(), 1);
        h.want(0, 0, 1);
        due("none of one", h.home(), 0);
        h.addGuest(0, 0);
        h.addGuest(0, 0);
        due("two of three", h.home(), 2.0 / 3.0);
    }

    private static void digest() {
        promise = "promise 21";
        HotelOfBells h = waiting();
        h.addFloor(4);
        h.addLift();
        h.setDoor(1, 1, 3);
        dueLong("ahead of bells", h.digest(), digestOf(h));
        h.play(1223);
        dueLong("behind bells", h.digest(), digestOf(h));
        h.write();
        dueLong("with a paper", h.digest(), digestOf(h));
        h.ring(0);
        dueLong("with an old paper", h.digest(), digestOf(h));
    }

    public static void main(String[] args) {
        aNewObject();
        addFloor();
        setTune();
        addLift();
        setDoor();
        addGuest();
        want();
        floorFacts();
        place();
        liftFacts();
        guestFacts();
        count();
        ring();
        play();
        foresee();
        advise();
        wouldTurn();
        write();
        byteAt();
        home();
        digest();
        System.out.println(wrong == 0 ? "all answers are as due" : wrong + " answers are not as due");
        if (wrong != 0) System.exit(1);
    }
}
