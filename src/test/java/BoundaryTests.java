import java.math.BigInteger;

/**
 * For each sentence of the document that names a boundary case a test of its own, which bears the
 * sentence's words. What a refused call must leave as it was is in RefusalTests.
 */
public final class BoundaryTests {
    private static final Class<?> BOUNDS = IndexOutOfBoundsException.class;
    private static final Class<?> ARGUMENT = IllegalArgumentException.class;
    private static final Class<?> STATE = IllegalStateException.class;
    private static final int LEAST = Integer.MIN_VALUE;
    private static final int GREATEST = Integer.MAX_VALUE;

    private static int tests = 0;
    private static int wrong = 0;
    private static String sentence = "";

    private interface Test {
        void run();
    }

    private interface Call {
        Object answer();
    }

    private static void test(String words, Test test) {
        sentence = words;
        tests++;
        try {
            test.run();
        } catch (RuntimeException thrown) {
            fault("threw " + thrown);
        }
    }

    private static void fault(String what) {
        wrong++;
        System.out.println(sentence + ": " + what);
    }

    private static void due(String what, long got, long want) {
        if (got != want) fault(what + " is " + got + ", due is " + want);
    }

    private static void due(String what, double got, double want) {
        if (got != want) fault(what + " is " + got + ", due is " + want);
    }

    private static void due(String what, boolean got, boolean want) {
        if (got != want) fault(what + " is " + got + ", due is " + want);
    }

    private static void due(String what, String got, String want) {
        if (!got.equals(want)) fault(what + " is\n" + got + "due is\n" + want);
    }

    private static void refused(String what, Class<?> kind, Call call) {
        try {
            Object answer = call.answer();
            fault(what + " is " + answer + ", due is " + kind.getSimpleName());
        } catch (RuntimeException thrown) {
            if (thrown.getClass() != kind) fault(what + " throws " + thrown + ", due is " + kind.getSimpleName());
        }
    }

    // ---- hotels to begin with

    private static HotelOfBells hotel(int... rooms) {
        HotelOfBells hotel = new HotelOfBells();
        for (int count : rooms) hotel.addFloor(count);
        return hotel;
    }

    /** One shaft more, with these doors from floor 0 on. */
    private static void shaft(HotelOfBells hotel, int... doors) {
        int lift = hotel.addLift();
        for (int floor = 0; floor < doors.length; floor++) hotel.setDoor(lift, floor, doors[floor]);
    }

    private static int guest(HotelOfBells hotel, int floor, int room, int wantedFloor, int wantedRoom) {
        int guest = hotel.addGuest(floor, room);
        hotel.want(guest, wantedFloor, wantedRoom);
        return guest;
    }

    /** Six floors of 12 rooms, four shafts with all doors at the place 11, ten guests in a room before it. */
    private static HotelOfBells full() {
        HotelOfBells hotel = hotel(12, 12, 12, 12, 12, 12);
        for (int i = 0; i < 4; i++) shaft(hotel, 11, 11, 11, 11, 11, 11);
        for (int i = 0; i < 10; i++) hotel.addGuest(5, 11);
        return hotel;
    }

    private static void ringTimes(HotelOfBells hotel, int tone, int times) {
        for (int i = 0; i < times; i++) hotel.ring(tone);
    }

    private static String paper(HotelOfBells hotel) {
        StringBuilder text = new StringBuilder();
        int length = hotel.count(7);
        for (int i = 0; i < length; i++) text.append((char) hotel.byteAt(i));
        return text.toString();
    }

    private static String written(HotelOfBells hotel) {
        due("write()", hotel.write(), hotel.count(7));
        return paper(hotel);
    }

    // ---- Terms: floors

    private static void termsOfFloors() {
        test("Floors. There are at most 6", () -> {
            HotelOfBells h = hotel(3, 3, 3, 3, 3);
            due("the 6th floor", h.addFloor(3), 5);
            refused("a 7th floor", STATE, () -> h.addFloor(3));
            due("floors", h.count(0), 6);
            due("the 6th floor's rooms", h.floor(5, 0), 3);
            refused("floor(6, 0)", BOUNDS, () -> h.floor(6, 0));
        });
        test("numbered from 0, the lowest one, in the order of their building", () -> {
            HotelOfBells h = hotel(8, 3, 12, 5, 4, 7);
            int[] rooms = {8, 3, 12, 5, 4, 7};
            for (int i = 0; i < 6; i++) due("rooms of " + i, h.floor(i, 0), rooms[i]);
            h.addLift();
            for (int i = 1; i < 6; i++) {
                h.ring(0);
                due("the lift goes up to", h.lift(0, 0), i);
            }
        });
        test("A floor has 3 to 12 rooms", () -> {
            for (int rooms = 3; rooms <= 12; rooms++) {
                HotelOfBells h = new HotelOfBells();
                due("addFloor(" + rooms + ")", h.addFloor(rooms), 0);
                due("rooms", h.floor(0, 0), rooms);
            }
            HotelOfBells h = new HotelOfBells();
            for (int rooms : new int[] {2, 13, 0, -3, LEAST, GREATEST}) {
                refused("addFloor(" + rooms + ")", ARGUMENT, () -> h.addFloor(rooms));
            }
            due("floors", h.count(0), 0);
        });
        test("rooms, numbered from 0, and as many places in its ring, numbered likewise", () -> {
            for (int rooms = 3; rooms <= 12; rooms++) {
                int count = rooms;
                HotelOfBells h = hotel(rooms);
                h.addLift();
                due("the first room", h.addGuest(0, 0), 0);
                due("the last room", h.addGuest(0, rooms - 1), 1);
                refused("the room -1", BOUNDS, () -> h.addGuest(0, -1));
                refused("the room behind the last", BOUNDS, () -> h.addGuest(0, count));
                due("the first place", h.setDoor(0, 0, 0), -1);
                due("the last place", h.setDoor(0, 0, rooms - 1), 0);
                refused("the place behind the last", ARGUMENT, () -> h.setDoor(0, 0, count));
            }
        });
        test("it is turned by so many places, 0 to the number of rooms less 1 (0, at first)", () -> {
            for (int rooms = 3; rooms <= 12; rooms++) {
                HotelOfBells h = hotel(rooms);
                h.setTune(0, 1, 1);
                due("turn, at first", h.floor(0, 1), 0);
                ringTimes(h, 0, rooms - 1);
                due("the greatest turn", h.floor(0, 1), rooms - 1);
                h.ring(0);
                due("and 0 behind it", h.floor(0, 1), 0);
                h.setTune(0, 1, -1);
                h.ring(0);
                due("and the greatest ahead of 0", h.floor(0, 1), rooms - 1);
            }
        });
        test("the room r stands at the place r and this turn, by the remainder of the number of rooms", () -> {
            for (int rooms = 3; rooms <= 12; rooms++) {
                HotelOfBells h = hotel(rooms);
                h.setTune(0, 1, 1);
                for (int turn = 0; turn < rooms; turn++) {
                    for (int room = 0; room < rooms; room++) {
                        int sum = room + turn;
                        due("place(0, " + room + ") of " + rooms, h.place(0, room), sum < rooms ? sum : sum - rooms);
                    }
                    h.ring(0);
                }
            }
        });
        test("It has a tune, 1 to 6 tones", () -> {
            HotelOfBells h = hotel(3);
            for (int tune : new int[] {1, 4, 11, 44, 111, 444, 1111, 4444, 11111, 44444, 111111, 444444}) {
                h.setTune(0, tune, 0);
                due("tune", h.floor(0, 2), tune);
            }
            refused("no tone", ARGUMENT, () -> h.setTune(0, 0, 0));
            refused("the least of 7 tones", ARGUMENT, () -> h.setTune(0, 1111111, 0));
            refused("the greatest of 7 tones", ARGUMENT, () -> h.setTune(0, 4444444, 0));
            due("the tune stays", h.floor(0, 2), 444444);
        });
        test("and a step, -5 to 5", () -> {
            HotelOfBells h = hotel(3);
            for (int step = -5; step <= 5; step++) {
                h.setTune(0, 1, step);
                due("step", h.floor(0, 3), step);
            }
            for (int step : new int[] {-6, 6, LEAST, GREATEST}) {
                refused("step " + step, ARGUMENT, () -> h.setTune(0, 1, step));
            }
            due("the step stays", h.floor(0, 3), 5);
        });
    }

    // ---- Terms: lifts and guests

    private static void termsOfLifts() {
        test("Lifts. There are at most 4 shafts, numbered likewise", () -> {
            HotelOfBells h = new HotelOfBells();
            for (int i = 0; i < 4; i++) due("addLift()", h.addLift(), i);
            refused("a 5th", STATE, () -> h.addLift());
            due("lifts", h.count(1), 4);
            due("the last", h.lift(3, 0), 0);
            refused("lift(4, 0)", BOUNDS, () -> h.lift(4, 0));
        });
        test("on each floor a shaft has a door at a place of the ring, or none", () -> {
            HotelOfBells h = hotel(3, 12, 4, 5, 6, 7);
            int[] last = {2, 11, 3, 4, 5, 6};
            for (int i = 0; i < 4; i++) h.addLift();
            for (int lift = 0; lift < 4; lift++) {
                for (int floor = 0; floor < 6; floor++) due("none", h.setDoor(lift, floor, last[floor]), -1);
            }
            for (int lift = 0; lift < 4; lift++) {
                for (int floor = 0; floor < 6; floor++) due("each its own", h.setDoor(lift, floor, -1), last[floor]);
            }
        });
        test("A lift is at a floor (0, at first, also if there are no floors)", () -> {
            HotelOfBells h = new HotelOfBells();
            h.addLift();
            due("without floors", h.lift(0, 0), 0);
            h.addFloor(3);
            h.addFloor(3);
            h.ring(0);
            h.addLift();
            due("the one that went", h.lift(0, 0), 1);
            due("a new one", h.lift(1, 0), 0);
        });
        test("and goes up or down (up, at first)", () -> {
            HotelOfBells h = new HotelOfBells();
            h.addLift();
            due("without floors", h.lift(0, 1), 1);
            h.ring(0);
            h.addLift();
            due("the one that turned round", h.lift(0, 1), 0);
            due("a new one", h.lift(1, 1), 1);
        });
        test("Several shafts can have doors at one place", () -> {
            HotelOfBells h = hotel(3);
            for (int i = 0; i < 4; i++) shaft(h, 1);
            for (int i = 0; i < 4; i++) due("door of " + i, h.lift(i, 3), 1);
        });
    }

    private static void termsOfGuests() {
        test("Guests. There are at most 10, numbered likewise", () -> {
            HotelOfBells h = hotel(3);
            for (int i = 0; i < 10; i++) due("addGuest()", h.addGuest(0, i % 3), i);
            refused("an 11th", STATE, () -> h.addGuest(0, 0));
            due("guests", h.count(2), 10);
            due("the last one's room", h.guest(9, 1), 0);
            refused("guest(10, 0)", BOUNDS, () -> h.guest(10, 0));
        });
        test("Each is in a room (of which there is no limit)", () -> {
            HotelOfBells h = full();
            due("all in one room", h.floor(5, 4), 10);
            for (int i = 0; i < 10; i++) h.want(i, 4, 11);
            ringTimes(h, 0, 5);
            due("all in one lift", h.lift(0, 2), 10);
            due("all come home by one bell", h.ring(0), 10);
            due("all in one room again", h.floor(4, 4), 10);
        });
        test("and wants a room, of any floor", () -> {
            HotelOfBells h = full();
            for (int floor = 0; floor < 6; floor++) {
                h.want(floor, floor, 0);
                due("floor", h.guest(floor, 3), floor);
                due("room", h.guest(floor, 4), 0);
            }
        });
        test("who is in the room that is wanted is at home", () -> {
            HotelOfBells h = hotel(3, 3);
            h.addGuest(1, 2);
            due("there", h.guest(0, 5), 1);
            due("the same room of another floor", h.want(0, 0, 2), false);
            due("likewise", h.guest(0, 5), 0);
            due("another room of the same floor", h.want(0, 1, 1), false);
            due("likewise", h.guest(0, 5), 0);
            due("there again", h.want(0, 1, 2), true);
            due("likewise", h.guest(0, 5), 1);
        });
    }

    // ---- Terms: bells

    private static void termsOfTones() {
        test("Bells. There are 4 tones, 0 to 3", () -> {
            HotelOfBells h = hotel(3);
            for (int tone = 0; tone < 4; tone++) {
                h.setTune(0, tone + 1, 1);
                due("would turn by " + tone, h.wouldTurn(tone), 1);
                h.ring(tone);
                due("turns", h.count(6), tone + 1);
            }
            for (int tone : new int[] {-1, 4, LEAST, GREATEST}) {
                refused("ring(" + tone + ")", ARGUMENT, () -> h.ring(tone));
                refused("wouldTurn(" + tone + ")", ARGUMENT, () -> h.wouldTurn(tone));
            }
            due("bells", h.count(5), 4);
        });
        test("also those that were rung ahead of a floor", () -> {
            HotelOfBells h = new HotelOfBells();
            h.play(12341);
            h.addFloor(5);
            h.setTune(0, 123412, 2);
            due("five are known", h.floor(0, 5), 5);
            due("would turn", h.wouldTurn(1), 1);
            h.ring(1);
            due("turns", h.floor(0, 1), 2);
            due("all six are known", h.floor(0, 5), 6);
            HotelOfBells g = new HotelOfBells();
            g.ring(0);
            g.addFloor(5);
            due("the tune that a new floor has is known", g.floor(0, 5), 1);
            due("but a new floor has not turned", g.floor(0, 1), 0);
            due("nor was it counted", g.count(6), 0);
        });
        test("or of its tune", () -> {
            HotelOfBells h = hotel(5);
            h.play(43214);
            h.setTune(0, 432143, 3);
            due("five are known", h.floor(0, 5), 5);
            due("would turn", h.wouldTurn(2), 1);
            h.ring(2);
            due("turns", h.floor(0, 1), 3);
            h.setTune(0, 432143, 1);
            due("a tune that was just rung is known", h.floor(0, 5), 6);
            due("but turns nothing", h.floor(0, 1), 3);
        });
    }

    private static void bellsAndFloors() {
        test("1. this bell is its last tone, the one ahead of this the one ahead of that, and so on, through all", () -> {
            int tune = 123421;
            for (int part = 1; part <= 100000; part *= 10) {
                int digit = tune / part % 10;
                int other = tune + part * (digit % 4 + 1 - digit);
                HotelOfBells h = hotel(3);
                h.setTune(0, tune, 1);
                h.play(other);
                due("no turn by " + other, h.count(6), 0);
                h.play(tune);
                due("a turn by " + tune, h.count(6), 1);
            }
        });
        test("1. (a tune of 1 tone)", () -> {
            HotelOfBells h = hotel(3);
            h.setTune(0, 2, 1);
            h.play(21221);
            due("each bell of this tone turns it", h.count(6), 3);
        });
        test("1. (a tune that is longer than what was rung)", () -> {
            HotelOfBells h = hotel(3);
            h.setTune(0, 111111, 1);
            ringTimes(h, 0, 5);
            due("five bells", h.count(6), 0);
            h.ring(0);
            due("six bells", h.count(6), 1);
            h.ring(0);
            due("seven, of which the latest six are the tune, too", h.count(6), 2);
        });
        test("1. (a tune backwards, and one that is broken off)", () -> {
            HotelOfBells h = hotel(3);
            h.setTune(0, 123, 1);
            h.play(321);
            h.play(12413);
            due("no turn", h.count(6), 0);
            h.play(12123);
            due("one turn", h.count(6), 1);
        });
        test("1. Each floor whose tune is what was rung latest turns by its step", () -> {
            HotelOfBells h = hotel(5, 5, 5, 5, 5, 5);
            int[] tunes = {3, 23, 123, 13, 3123, 323};
            for (int i = 0; i < 6; i++) h.setTune(i, tunes[i], i == 5 ? 5 : i - 2);
            h.play(123);
            int[] turns = {3, 4, 0, 0, 0, 0};
            for (int i = 0; i < 6; i++) due("turn of " + i, h.floor(i, 1), turns[i]);
            due("a step of 0 counts", h.count(6), 3);
        });
        test("the turn becomes (the turn and the step, and 2 times the number of rooms) by the remainder", () -> {
            for (int rooms = 3; rooms <= 12; rooms++) {
                for (int step = -5; step <= 5; step++) {
                    HotelOfBells h = hotel(rooms);
                    for (int turn = 0; turn < rooms; turn++) {
                        h.setTune(0, 1, step);
                        h.ring(0);
                        int sum = turn + step;
                        while (sum < 0) sum += rooms;
                        while (sum >= rooms) sum -= rooms;
                        due(rooms + " rooms, from " + turn + " by " + step, h.floor(0, 1), sum);
                        h.setTune(0, 1, 1);
                        ringTimes(h, 0, Math.floorMod(turn + 1 - sum, rooms));
                    }
                }
            }
        });
    }

    private static void dueLift(HotelOfBells h, int[] at, int[] up) {
        for (int i = 0; i < at.length; i++) {
            h.ring(i % 4);
            due("floor behind bell " + i, h.lift(0, 0), at[i]);
            due("up behind bell " + i, h.lift(0, 1), up[i]);
        }
    }

    private static void bellsAndLifts() {
        test("2. up, if it goes up, and there is a floor above; otherwise it goes down from now on", () -> {
            HotelOfBells h = hotel(3, 3, 3);
            h.addLift();
            dueLift(h, new int[] {1, 2, 1, 0}, new int[] {1, 1, 0, 0});
        });
        test("2. likewise the other way round", () -> {
            HotelOfBells h = hotel(3, 3, 3);
            h.addLift();
            ringTimes(h, 0, 4);
            dueLift(h, new int[] {1, 2, 1, 0, 1}, new int[] {1, 1, 0, 0, 1});
        });
        test("2. (with two floors)", () -> {
            HotelOfBells h = hotel(3, 3);
            h.addLift();
            dueLift(h, new int[] {1, 0, 1, 0}, new int[] {1, 0, 1, 0});
        });
        test("2. (with six floors)", () -> {
            HotelOfBells h = hotel(3, 3, 3, 3, 3, 3);
            h.addLift();
            dueLift(h, new int[] {1, 2, 3, 4, 5, 4, 3, 2, 1, 0, 1}, new int[] {1, 1, 1, 1, 1, 0, 0, 0, 0, 0, 1});
        });
        test("2. (With one floor it stays, and its direction changes each time.)", () -> {
            HotelOfBells h = hotel(3);
            h.addLift();
            dueLift(h, new int[] {0, 0, 0, 0}, new int[] {0, 1, 0, 1});
        });
        test("2. one floor down, if there is one (without floors)", () -> {
            HotelOfBells h = new HotelOfBells();
            h.addLift();
            dueLift(h, new int[] {0, 0, 0}, new int[] {0, 1, 0});
            h.addFloor(3);
            dueLift(h, new int[] {0, 0}, new int[] {1, 0});
            h.addFloor(3);
            dueLift(h, new int[] {1, 0}, new int[] {1, 0});
        });
        test("2. there is a floor above (that was built meanwhile)", () -> {
            HotelOfBells h = hotel(3, 3);
            h.addLift();
            h.ring(0);
            h.addFloor(3);
            dueLift(h, new int[] {2, 1}, new int[] {1, 0});
            h.addFloor(3);
            dueLift(h, new int[] {0, 1, 2, 3, 2}, new int[] {0, 1, 1, 1, 0});
        });
        test("2. Each lift goes one floor on", () -> {
            HotelOfBells h = hotel(3, 3, 3);
            for (int i = 0; i < 4; i++) {
                h.addLift();
                h.ring(0);
            }
            int[] at = {0, 1, 2, 1};
            int[] up = {0, 0, 1, 1};
            for (int i = 0; i < 4; i++) {
                due("floor of " + i, h.lift(i, 0), at[i]);
                due("up of " + i, h.lift(i, 1), up[i]);
            }
        });
    }

    private static void bellsAndStepsOut() {
        test("3. Who rides in a lift that is at the floor of the room that is wanted", () -> {
            HotelOfBells h = hotel(3, 3, 3);
            shaft(h, 1, 1, 1);
            guest(h, 1, 1, 0, 1);
            due("steps in", h.ring(0), 0);
            due("the same place of a floor above", h.ring(0), 0);
            due("and of that in between", h.ring(0), 0);
            due("rides", h.guest(0, 2), 0);
            due("there", h.ring(0), 1);
            due("floor", h.guest(0, 0), 0);
            due("room", h.guest(0, 1), 1);
            due("in no lift", h.guest(0, 2), -1);
            due("at home", h.guest(0, 5), 1);
        });
        test("3. and whose door there is at the place where this room stands", () -> {
            for (int door = -1; door < 3; door++) {
                HotelOfBells h = hotel(3, 3);
                shaft(h, door, 0);
                guest(h, 1, 0, 0, 0);
                h.setTune(0, 1, 1);
                due("steps in while the wanted floor turns", h.ring(0), 0);
                due("with the door at " + door, h.ring(1), door == 1 ? 1 : 0);
            }
        });
        test("3. (the floor turns in the same bell, ahead of the guests)", () -> {
            HotelOfBells h = hotel(12);
            shaft(h, 11);
            guest(h, 0, 0, 0, 11);
            h.setTune(0, 1, -1);
            due("its room comes to the door by this bell", h.ring(0), 0);
            due("and it steps in", h.guest(0, 2), 0);
            h.setTune(0, 2, 1);
            due("the wanted room comes there by that", h.ring(1), 1);
        });
        test("3. (the lift comes in the same bell, ahead of the guests)", () -> {
            HotelOfBells h = hotel(3, 3);
            shaft(h, 0, 0);
            guest(h, 0, 0, 1, 0);
            due("it has left the floor", h.ring(0), 0);
            due("nobody in it", h.lift(0, 2), 0);
            due("it comes", h.ring(0), 0);
            due("one in it", h.lift(0, 2), 1);
            due("there", h.ring(0), 1);
        });
        test("3. (a door, and a wish, of the one who rides)", () -> {
            HotelOfBells h = hotel(4);
            shaft(h, 0);
            guest(h, 0, 0, 0, 3);
            h.ring(0);
            due("waits for another place", h.ring(0), 0);
            h.setDoor(0, 0, 3);
            due("the door is there now", h.ring(0), 1);
            h.want(0, 0, 1);
            h.ring(0);
            due("rides again", h.guest(0, 2), 0);
            due("wanting it is not being there", h.want(0, 0, 3), false);
            due("the wanted room is there now", h.ring(0), 1);
        });
    }

    private static void bellsAndStepsIn() {
        test("3. Who is in a room that is not the one that is wanted", () -> {
            HotelOfBells h = hotel(3);
            shaft(h, 1);
            h.addGuest(0, 1);
            ringTimes(h, 0, 3);
            due("who is at home stays", h.guest(0, 1), 1);
            h.want(0, 0, 2);
            h.ring(0);
            due("who is not steps in", h.guest(0, 2), 0);
        });
        test("3. at the place of which there is a door", () -> {
            for (int door = -1; door < 3; door++) {
                HotelOfBells h = hotel(3);
                shaft(h, door);
                guest(h, 0, 2, 0, 0);
                h.setTune(0, 1, 2);
                h.ring(0);
                due("the room 2 is at the place 1, the door at " + door, h.guest(0, 2), door == 1 ? 0 : -1);
            }
        });
        test("3. of a shaft whose lift is at this floor", () -> {
            HotelOfBells h = hotel(3, 3, 3);
            shaft(h, -1, 0, 0);
            guest(h, 2, 0, 1, 1);
            h.ring(0);
            due("one below", h.guest(0, 2), -1);
            h.ring(0);
            due("there", h.guest(0, 2), 0);
        });
        test("3. (of several that with the smallest number)", () -> {
            for (int first = 0; first < 4; first++) {
                HotelOfBells h = hotel(3);
                for (int i = 0; i < 4; i++) shaft(h, i < first ? 1 : 0);
                guest(h, 0, 0, 0, 2);
                h.ring(0);
                due("of those from " + first + " on", h.guest(0, 2), first);
            }
            HotelOfBells h = hotel(3, 3);
            shaft(h, 0, 0);
            h.ring(0);
            shaft(h, 0, 0);
            guest(h, 1, 0, 0, 2);
            h.ring(0);
            due("that with the smallest number is on another floor", h.guest(0, 2), 1);
        });
        test("3. Who is on the floor of the room that is wanted, in another room, waits for a lift all the same", () -> {
            HotelOfBells h = hotel(3, 3);
            shaft(h, 0, 1);
            guest(h, 0, 0, 0, 1);
            h.setTune(0, 4, 2);
            due("no lift", h.ring(0), 0);
            due("not there, nor riding", h.guest(0, 1), 0);
            h.ring(0);
            due("the lift comes", h.guest(0, 2), 0);
            h.ring(0);
            due("the wanted room comes to the door", h.ring(3), 1);
        });
        test("3. Others do nothing", () -> {
            HotelOfBells h = hotel(3);
            guest(h, 0, 0, 0, 1);
            due("without a lift", h.ring(0), 0);
            shaft(h, -1);
            due("without a door", h.ring(0), 0);
            h.setDoor(0, 0, 2);
            due("without a door there", h.ring(0), 0);
            due("the room", h.guest(0, 1), 0);
            due("in no lift", h.guest(0, 2), -1);
        });
    }

    // ---- promises 1 to 7: building

    private static void building() {
        test("1: without floors, lifts and guests; no bell was rung", () -> {
            HotelOfBells h = new HotelOfBells();
            for (int what = 0; what < 8; what++) due("count(" + what + ")", h.count(what), 0);
            refused("floor", BOUNDS, () -> h.floor(0, 0));
            refused("place", BOUNDS, () -> h.place(0, 0));
            refused("lift", BOUNDS, () -> h.lift(0, 0));
            refused("guest", BOUNDS, () -> h.guest(0, 0));
            refused("byteAt", BOUNDS, () -> h.byteAt(0));
        });
        test("1: (bells in an empty hotel)", () -> {
            HotelOfBells h = new HotelOfBells();
            due("ring", h.ring(3), 0);
            due("play", h.play(444444), 0);
            due("bells", h.count(5), 7);
            due("turns", h.count(6), 0);
            HotelOfBells other = new HotelOfBells();
            due("another object heard nothing", other.count(5), 0);
        });
        test("2: its tune is the tone 0, its step 0, and no shaft has a door there", () -> {
            HotelOfBells h = new HotelOfBells();
            for (int i = 0; i < 4; i++) h.addLift();
            for (int floor = 0; floor < 6; floor++) {
                h.addFloor(12);
                due("tune", h.floor(floor, 2), 1);
                due("step", h.floor(floor, 3), 0);
                for (int lift = 0; lift < 4; lift++) due("no door", h.setDoor(lift, floor, floor), -1);
            }
            h.ring(0);
            due("all hear it", h.count(6), 6);
            for (int floor = 0; floor < 6; floor++) due("none moves", h.floor(floor, 1), 0);
        });
        test("3: its tones as the digits 1 to 4 of a decimal number of 1 to 6 digits", () -> {
            HotelOfBells h = hotel(3);
            for (int part = 1; part <= 100000; part *= 10) {
                for (int digit = 0; digit <= 9; digit++) {
                    int tune = 222222 + (digit - 2) * part;
                    if (digit >= 1 && digit <= 4) {
                        h.setTune(0, tune, 0);
                        due("tune", h.floor(0, 2), tune);
                    } else if (part < 100000 || digit != 0) {
                        refused("tune " + tune, ARGUMENT, () -> h.setTune(0, tune, 0));
                        refused("play " + tune, ARGUMENT, () -> h.play(tune));
                    }
                }
            }
            for (int tune : new int[] {0, 5, 9, -1, -4, -123, -444444, LEAST, GREATEST, 1111111, 1000000}) {
                refused("tune " + tune, ARGUMENT, () -> h.setTune(0, tune, 0));
                refused("play " + tune, ARGUMENT, () -> h.play(tune));
            }
            due("no bell", h.count(5), 0);
        });
        test("3: the first one highest", () -> {
            HotelOfBells h = hotel(3);
            h.setTune(0, 14, 0);
            h.ring(0);
            due("the first is known", h.floor(0, 5), 1);
            h.ring(3);
            due("both are known", h.floor(0, 5), 2);
        });
        test("3: Returns the tune before, likewise", () -> {
            HotelOfBells h = hotel(3, 3);
            due("of a new floor", h.setTune(0, 444444, 5), 1);
            due("the greatest", h.setTune(0, 1, -5), 444444);
            due("the least", h.setTune(0, 1, -5), 1);
            due("of the other floor", h.setTune(1, 2, 0), 1);
        });
        test("4: Adds a shaft without doors", () -> {
            HotelOfBells h = hotel(3, 3);
            for (int lift = 0; lift < 4; lift++) {
                h.addLift();
                for (int floor = 0; floor < 2; floor++) due("no door", h.setDoor(lift, floor, 2), -1);
            }
        });
    }

    private static void doorsAndWishes() {
        test("5: the place; -1 for none, Returns the place before, -1 for none", () -> {
            HotelOfBells h = hotel(3);
            h.addLift();
            due("none", h.setDoor(0, 0, 0), -1);
            due("the first place", h.setDoor(0, 0, 2), 0);
            due("the last place", h.setDoor(0, 0, -1), 2);
            due("none again", h.setDoor(0, 0, -1), -1);
            due("still none", h.lift(0, 3), -1);
        });
        test("5: Throws IllegalArgumentException if place is not -1 to the number of rooms less 1", () -> {
            HotelOfBells h = hotel(3, 12);
            h.addLift();
            for (int place : new int[] {-2, 3, 11, LEAST, GREATEST}) {
                refused("place " + place, ARGUMENT, () -> h.setDoor(0, 0, place));
            }
            due("that floor has it", h.setDoor(0, 1, 11), -1);
            refused("place 12", ARGUMENT, () -> h.setDoor(0, 1, 12));
            due("no door came", h.lift(0, 3), -1);
        });
        test("6: Has a guest come into a room, which is wanted, too", () -> {
            HotelOfBells h = hotel(3, 12);
            h.ring(0);
            due("the first room", h.addGuest(0, 0), 0);
            due("the last room", h.addGuest(1, 11), 1);
            int[] facts = {1, 11, -1, 1, 11, 1, 0};
            for (int what = 0; what < 7; what++) due("guest(1, " + what + ")", h.guest(1, what), facts[what]);
        });
        test("6: Throws IndexOutOfBoundsException if there is no such floor or room", () -> {
            HotelOfBells h = hotel(3, 12);
            for (int floor : new int[] {-1, 2, LEAST, GREATEST}) {
                refused("floor " + floor, BOUNDS, () -> h.addGuest(floor, 0));
            }
            for (int room : new int[] {-1, 3, 11, LEAST, GREATEST}) {
                refused("room " + room, BOUNDS, () -> h.addGuest(0, room));
            }
            due("no guest came", h.count(2), 0);
        });
        test("7: Returns whether the guest is at home by this", () -> {
            HotelOfBells h = hotel(3, 12);
            shaft(h, 0, -1);
            h.addGuest(0, 0);
            due("the room that is wanted already", h.want(0, 0, 0), true);
            due("the last room above", h.want(0, 1, 11), false);
            ringTimes(h, 0, 2);
            due("rides", h.guest(0, 2), 0);
            for (int room = 0; room < 3; room++) due("in no room", h.want(0, 0, room), false);
        });
        test("7: Throws IndexOutOfBoundsException if there is no such guest, floor or room", () -> {
            HotelOfBells h = hotel(3, 12);
            h.addGuest(0, 0);
            for (int guest : new int[] {-1, 1, LEAST, GREATEST}) {
                refused("guest " + guest, BOUNDS, () -> h.want(guest, 0, 0));
            }
            for (int floor : new int[] {-1, 2, LEAST, GREATEST}) {
                refused("floor " + floor, BOUNDS, () -> h.want(0, floor, 0));
            }
            for (int room : new int[] {-1, 3, 11, LEAST, GREATEST}) {
                refused("room " + room, BOUNDS, () -> h.want(0, 0, room));
            }
            due("still at home", h.guest(0, 5), 1);
        });
    }

    // ---- promises 8 to 12: what is there

    private static void dueKnown(int tune, int rung, int want) {
        HotelOfBells h = hotel(3);
        h.setTune(0, tune, 0);
        if (rung > 0) h.play(rung);
        due("of " + tune + " behind " + rung, h.floor(0, 5), want);
    }

    private static void whatIsThere() {
        test("8: the greatest k, 0 to the length of its tune, so that the latest k bells are its first k tones", () -> {
            dueKnown(1, 0, 0);
            dueKnown(111111, 0, 0);
            dueKnown(1, 1, 1);
            dueKnown(1, 2, 0);
            dueKnown(1, 111111, 1);
            dueKnown(123412, 123412, 6);
            dueKnown(123412, 412341, 5);
            dueKnown(123412, 341234, 4);
            dueKnown(123412, 12, 2);
            dueKnown(111111, 11111, 5);
            dueKnown(1111, 111111, 4);
            dueKnown(1212, 121, 3);
            dueKnown(1212, 1213, 0);
            dueKnown(1213, 12121, 3);
            dueKnown(11121, 1111, 3);
            dueKnown(211111, 111112, 1);
            dueKnown(21, 1, 0);
        });
        test("8: guests in its rooms", () -> {
            HotelOfBells h = full();
            for (int floor = 0; floor < 6; floor++) due("floor " + floor, h.floor(floor, 4), floor == 5 ? 10 : 0);
            h.want(9, 0, 0);
            ringTimes(h, 0, 5);
            due("one rides", h.floor(5, 4), 9);
            due("on no other floor", h.floor(0, 4), 0);
        });
        test("8: Throws IndexOutOfBoundsException if there is no such floor, or what is not 0 to 5", () -> {
            HotelOfBells h = hotel(3);
            h.floor(0, 0);
            h.floor(0, 5);
            for (int what : new int[] {-1, 6, LEAST, GREATEST}) refused("what " + what, BOUNDS, () -> h.floor(0, what));
            for (int floor : new int[] {-1, 1, LEAST, GREATEST}) refused("floor " + floor, BOUNDS, () -> h.floor(floor, 0));
        });
        test("9: Throws IndexOutOfBoundsException if there is no such floor or room", () -> {
            HotelOfBells h = hotel(3, 12);
            due("the first", h.place(0, 0), 0);
            due("the last", h.place(1, 11), 11);
            for (int room : new int[] {-1, 3, 11, LEAST, GREATEST}) refused("room " + room, BOUNDS, () -> h.place(0, room));
            refused("room 12", BOUNDS, () -> h.place(1, 12));
            for (int floor : new int[] {-1, 2, LEAST, GREATEST}) refused("floor " + floor, BOUNDS, () -> h.place(floor, 0));
        });
        test("10: 3 the place of its door there, -1 if there is none", () -> {
            HotelOfBells h = new HotelOfBells();
            h.addLift();
            due("without floors", h.lift(0, 3), -1);
            h.addFloor(3);
            due("without a door", h.lift(0, 3), -1);
            h.setDoor(0, 0, 0);
            due("the first place", h.lift(0, 3), 0);
            h.addFloor(12);
            h.setDoor(0, 1, 11);
            due("not that above", h.lift(0, 3), 0);
            h.ring(0);
            due("that above, when it is there", h.lift(0, 3), 11);
        });
        test("10: 2 guests in it", () -> {
            HotelOfBells h = full();
            for (int i = 0; i < 10; i++) h.want(i, 0, 0);
            for (int lift = 0; lift < 4; lift++) due("none", h.lift(lift, 2), 0);
            ringTimes(h, 0, 5);
            due("all", h.lift(0, 2), 10);
            for (int lift = 1; lift < 4; lift++) due("none", h.lift(lift, 2), 0);
        });
        test("10: Throws IndexOutOfBoundsException if there is no such lift, or what is not 0 to 3", () -> {
            HotelOfBells h = hotel(3);
            h.addLift();
            h.lift(0, 0);
            h.lift(0, 3);
            for (int what : new int[] {-1, 4, LEAST, GREATEST}) refused("what " + what, BOUNDS, () -> h.lift(0, what));
            for (int lift : new int[] {-1, 1, LEAST, GREATEST}) refused("lift " + lift, BOUNDS, () -> h.lift(lift, 0));
        });
    }

    private static void guestsAndCounts() {
        test("11: 0 the floor, -1 in a lift, 1 the room, -1 in a lift, 2 the lift, -1 in a room", () -> {
            HotelOfBells h = hotel(3, 12);
            shaft(h, 2, 11);
            guest(h, 1, 11, 0, 2);
            int[][] facts = {{1, 11, -1, 0, 2, 0, 0}, {-1, -1, 0, 0, 2, 0, 1}, {0, 2, -1, 0, 2, 1, 2}};
            for (int i = 0; i < 3; i++) {
                for (int what = 0; what < 7; what++) due("guest(0, " + what + ")", h.guest(0, what), facts[i][what]);
                h.ring(0);
            }
        });
        test("11: 6 how many bells since the latest want() of this one at whose beginning this one was not at home", () -> {
            HotelOfBells h = hotel(3);
            shaft(h, 0);
            h.addGuest(0, 0);
            h.ring(0);
            due("at home", h.guest(0, 6), 0);
            h.want(0, 0, 1);
            due("no bell since", h.guest(0, 6), 0);
            h.ring(0);
            due("in a room", h.guest(0, 6), 1);
            h.ring(0);
            due("in a lift", h.guest(0, 6), 2);
            h.setDoor(0, 0, 1);
            h.ring(0);
            due("comes home by it", h.guest(0, 6), 3);
            ringTimes(h, 0, 2);
            due("at home", h.guest(0, 6), 3);
            h.want(0, 0, 1);
            due("the same room again", h.guest(0, 6), 0);
        });
        test("11: (or since coming)", () -> {
            HotelOfBells h = hotel(3);
            h.addGuest(0, 0);
            h.want(0, 0, 1);
            ringTimes(h, 0, 4);
            h.addGuest(0, 0);
            ringTimes(h, 0, 2);
            due("the one who waits", h.guest(0, 6), 6);
            due("the new one, at home", h.guest(1, 6), 0);
            h.want(1, 0, 2);
            due("another one's wish changes nothing", h.guest(0, 6), 6);
        });
        test("11: Throws IndexOutOfBoundsException if there is no such guest, or what is not 0 to 6", () -> {
            HotelOfBells h = hotel(3);
            h.addGuest(0, 0);
            h.guest(0, 0);
            h.guest(0, 6);
            for (int what : new int[] {-1, 7, LEAST, GREATEST}) refused("what " + what, BOUNDS, () -> h.guest(0, what));
            for (int guest : new int[] {-1, 1, LEAST, GREATEST}) refused("guest " + guest, BOUNDS, () -> h.guest(guest, 0));
        });
        test("12: 3 those who are at home, 4 those who ride (a full hotel)", () -> {
            HotelOfBells h = full();
            due("all at home", h.count(3), 10);
            due("none rides", h.count(4), 0);
            for (int i = 0; i < 10; i++) h.want(i, 4, 11);
            due("none at home", h.count(3), 0);
            due("none rides", h.count(4), 0);
            ringTimes(h, 0, 5);
            due("none at home", h.count(3), 0);
            due("all ride", h.count(4), 10);
            h.want(0, 0, 0);
            h.ring(0);
            due("nine at home", h.count(3), 9);
            due("one rides", h.count(4), 1);
        });
        test("12: 5 bells that were rung, 6 turns of floors by bells (each floor and bell counted, also with a step 0)", () -> {
            HotelOfBells h = full();
            for (int i = 0; i < 400; i++) h.play(111111);
            due("bells", h.count(5), 2400);
            due("turns", h.count(6), 14400);
            h.foresee(0, 111111);
            h.advise(0, 5);
            h.wouldTurn(0);
            due("bells that were not rung", h.count(5), 2400);
            due("and turns by them", h.count(6), 14400);
        });
        test("12: 7 bytes of the paper", () -> {
            HotelOfBells h = hotel(3);
            due("ahead of write()", h.count(7), 0);
            h.write();
            due("F 0 0 0 1 2", h.count(7), 12);
            h.addFloor(3);
            due("until it is written again", h.count(7), 12);
        });
        test("12: Throws IndexOutOfBoundsException if what is not 0 to 7", () -> {
            HotelOfBells h = full();
            int[] counts = {6, 4, 10, 10, 0, 0, 0, 0};
            for (int what = 0; what < 8; what++) due("count(" + what + ")", h.count(what), counts[what]);
            for (int what : new int[] {-1, 8, LEAST, GREATEST}) refused("what " + what, BOUNDS, () -> h.count(what));
        });
    }

    // ---- promises 13 to 17: bells and looking ahead

    /** A guest steps in by the first bell, and out by the one that ends so many tones 3 in a row. */
    private static HotelOfBells homeBehind(int tones) {
        HotelOfBells h = hotel(3);
        int tune = 0;
        for (int i = 0; i < tones; i++) tune = tune * 10 + 4;
        h.setTune(0, tune, 1);
        shaft(h, 0);
        guest(h, 0, 0, 0, 2);
        return h;
    }

    private static void bells() {
        test("13: Returns how many guests come home by it", () -> {
            HotelOfBells h = full();
            due("all are there already", h.ring(0), 0);
            for (int i = 0; i < 10; i++) h.want(i, i < 5 ? 4 : 3, 11);
            ringTimes(h, 0, 3);
            due("step in", h.ring(0), 0);
            due("five", h.ring(0), 5);
            due("the other five", h.ring(0), 5);
            due("none any more", h.ring(0), 0);
        });
        test("14: Rings bells, one behind the other (1 to 6 of them)", () -> {
            int[] tunes = {3, 43, 243, 1243, 31243, 231243};
            for (int length = 1; length <= 6; length++) {
                HotelOfBells one = hotel(5, 3);
                HotelOfBells other = hotel(5, 3);
                for (HotelOfBells h : new HotelOfBells[] {one, other}) {
                    h.setTune(0, 43, 1);
                    h.addLift();
                }
                String tones = "" + tunes[length - 1];
                one.play(tunes[length - 1]);
                for (int i = 0; i < length; i++) other.ring(tones.charAt(i) - '1');
                due("bells", one.count(5), length);
                due("digest of " + tones, one.digest(), other.digest());
            }
        });
        test("14: Returns how many guests come home by them", () -> {
            HotelOfBells h = full();
            due("none", h.play(111111), 0);
            for (int i = 0; i < 10; i++) h.want(i, i % 2, 11);
            due("up again, five and five", h.play(111111) + h.play(1111), 0);
            due("down", h.play(111111), 10);
        });
        test("15: 0 if this is so now", () -> {
            HotelOfBells h = full();
            due("whichever bells", h.foresee(9, 444444), 0);
            due("one bell", h.foresee(0, 1), 0);
        });
        test("15: Returns behind how many of these bells the guest would be at home; -1 if it is behind none of them", () -> {
            int[] tunes = {14, 144, 1444, 14444, 144444};
            int[] short1 = {1, 14, 144, 1444, 14444};
            for (int i = 0; i < 5; i++) {
                HotelOfBells h = homeBehind(i + 1);
                long before = h.digest();
                due("behind " + tunes[i], h.foresee(0, tunes[i]), i + 2);
                due("behind " + short1[i], h.foresee(0, short1[i]), -1);
                due("not changed", h.digest(), before);
            }
            HotelOfBells h = homeBehind(1);
            due("the first of several", h.foresee(0, 144444), 2);
            due("the sixth", h.foresee(0, 111114), 6);
            due("behind none of six", h.foresee(0, 111111), -1);
            h.ring(0);
            due("behind one of one", h.foresee(0, 4), 1);
            due("behind the first", h.foresee(0, 411111), 1);
        });
        test("15: if they were rung now (behind those that were rung)", () -> {
            HotelOfBells h = homeBehind(6);
            h.play(44444);
            due("five of six were rung", h.foresee(0, 4), 1);
            h.ring(0);
            due("and now none", h.foresee(0, 44444), -1);
            due("but all", h.foresee(0, 444444), 6);
        });
        test("15: if they were rung now (with a lift that goes down, and one that goes up)", () -> {
            HotelOfBells h = hotel(3, 3, 3);
            shaft(h, 1, 2, 0);
            guest(h, 1, 2, 0, 1);
            h.ring(0);
            due("going up", h.foresee(0, 111111), 3);
            due("not behind two", h.foresee(0, 11), -1);
            due("likewise", h.advise(0, 2), -1);
            ringTimes(h, 0, 2);
            due("going down", h.foresee(0, 111111), 1);
            due("likewise", h.advise(0, 5), 1);
        });
        test("15: Throws IllegalArgumentException if tune has no such digits", () -> {
            HotelOfBells h = homeBehind(1);
            h.addGuest(0, 1);
            for (int tune : new int[] {0, 5, 10, 15, 51, 1111111, -1, -14, LEAST, GREATEST}) {
                refused("who waits, " + tune, ARGUMENT, () -> h.foresee(0, tune));
                refused("who is at home, " + tune, ARGUMENT, () -> h.foresee(1, tune));
            }
        });
        test("15: Throws IndexOutOfBoundsException if there is no such guest", () -> {
            HotelOfBells h = homeBehind(1);
            for (int guest : new int[] {-1, 1, LEAST, GREATEST}) {
                refused("guest " + guest, BOUNDS, () -> h.foresee(guest, 1));
                refused("advise, guest " + guest, BOUNDS, () -> h.advise(guest, 1));
            }
        });
    }

    private static void advice() {
        test("16: how many bells at most", () -> {
            int[] rows = {4, 44, 444, 4444, 44444};
            for (int i = 0; i < 5; i++) {
                HotelOfBells h = homeBehind(i + 1);
                h.setTune(0, 1, 0);
                h.ring(0);
                h.setTune(0, rows[i], 1);
                for (int most = 1; most <= 5; most++) {
                    due("at most " + most, h.advise(0, most), most > i ? rows[i] : -1);
                }
            }
        });
        test("16: -1 if there are none", () -> {
            HotelOfBells h = homeBehind(6);
            for (int most = 1; most <= 5; most++) due("six are needed", h.advise(0, most), -1);
            h.ring(3);
            due("the other five", h.advise(0, 5), 44444);
            due("not four", h.advise(0, 4), -1);
            HotelOfBells g = hotel(3);
            guest(g, 0, 0, 0, 1);
            due("without lifts", g.advise(0, 5), -1);
        });
        test("16: 0 if the guest is at home", () -> {
            HotelOfBells h = full();
            for (int most = 1; most <= 5; most++) due("at home", h.advise(9, most), 0);
        });
        test("16: Looks for the fewest bells by which a guest would come home", () -> {
            HotelOfBells h = hotel(4, 4);
            h.setTune(0, 4, 1);
            shaft(h, 1, 0);
            guest(h, 1, 0, 0, 0);
            h.ring(0);
            due("rides", h.guest(0, 2), 0);
            due("4 ahead of 1114", h.advise(0, 5), 4);
            due("likewise", h.advise(0, 1), 4);
        });
        test("16: of several rows of bells that which is the least number", () -> {
            HotelOfBells h = homeBehind(1);
            due("any first bell will do, so it is the least", h.advise(0, 5), 14);
            HotelOfBells g = hotel(3, 4);
            shaft(g, 0, 0);
            guest(g, 0, 0, 1, 0);
            due("any bells will do", g.advise(0, 5), 111);
            g.setTune(1, 1, 1);
            due("bells of the tone 0 turn it away", g.advise(0, 4), 222);
            g.setTune(1, 4, 1);
            due("bells of the tone 3 are not needed", g.advise(0, 4), 111);
        });
        test("16: (nothing is changed by it)", () -> {
            HotelOfBells h = homeBehind(3);
            long before = h.digest();
            due("advice", h.advise(0, 5), 444);
            due("digest", h.digest(), before);
            due("again", h.advise(0, 5), 444);
            due("and it is true", h.play(444), 1);
        });
        test("16: Throws IllegalArgumentException if most is not 1 to 5", () -> {
            HotelOfBells h = homeBehind(1);
            h.addGuest(0, 1);
            due("1", h.advise(0, 1), -1);
            due("5", h.advise(0, 5), 14);
            for (int most : new int[] {-1, 0, 6, LEAST, GREATEST}) {
                refused("who waits, " + most, ARGUMENT, () -> h.advise(0, most));
                refused("who is at home, " + most, ARGUMENT, () -> h.advise(1, most));
            }
        });
        test("17: Returns how many floors would turn, if it were rung now", () -> {
            HotelOfBells h = new HotelOfBells();
            for (int tone = 0; tone < 4; tone++) due("without floors", h.wouldTurn(tone), 0);
            for (int i = 0; i < 6; i++) {
                h.addFloor(3);
                due("each floor", h.wouldTurn(0), i + 1);
            }
            due("none", h.wouldTurn(3), 0);
            h.setTune(5, 444441, 0);
            for (int i = 0; i < 5; i++) {
                due("five", h.wouldTurn(0), 5);
                h.ring(3);
            }
            due("six, also with a step 0", h.wouldTurn(0), 6);
            due("and again", h.wouldTurn(0), 6);
            due("no bell was rung", h.count(5), 5);
        });
    }

    // ---- promises 18 to 21: paper

    private static void paperLines() {
        test("18: (an empty hotel)", () -> {
            HotelOfBells h = new HotelOfBells();
            due("write()", h.write(), 0);
            refused("byteAt(0)", BOUNDS, () -> h.byteAt(0));
        });
        test("18: for each floor a line F, its number, its turn, and the rooms in the order of the places, from 0", () -> {
            HotelOfBells h = hotel(12, 3);
            h.setTune(0, 1, -1);
            h.setTune(1, 1, 1);
            due("at first", written(h), "F 0 0 0 1 2 3 4 5 6 7 8 9 10 11\nF 1 0 0 1 2\n");
            h.ring(0);
            due("turned", written(h), "F 0 11 1 2 3 4 5 6 7 8 9 10 11 0\nF 1 1 2 0 1\n");
            h.ring(0);
            due("turned again", written(h), "F 0 10 2 3 4 5 6 7 8 9 10 11 0 1\nF 1 2 1 2 0\n");
            h.ring(0);
            due("and round", written(h), "F 0 9 3 4 5 6 7 8 9 10 11 0 1 2\nF 1 0 0 1 2\n");
        });
        test("18: for each lift a line L, its number, its floor, and + if it goes up, else -", () -> {
            HotelOfBells h = new HotelOfBells();
            h.addLift();
            due("up, without floors", written(h), "L 0 0 +\n");
            h.ring(0);
            h.addLift();
            due("down, without floors", written(h), "L 0 0 -\nL 1 0 +\n");
        });
        test("18: for each guest a line G, its number, and either the floor and the room, or the letter L and the lift; then, if at home, !", () -> {
            HotelOfBells h = hotel(3, 12);
            shaft(h, -1, -1);
            shaft(h, 2, 11);
            h.addGuest(1, 11);
            guest(h, 1, 11, 0, 2);
            guest(h, 0, 0, 1, 10);
            String rooms = "F 0 0 0 1 2\nF 1 0 0 1 2 3 4 5 6 7 8 9 10 11\n";
            due("in rooms", written(h), rooms + "L 0 0 +\nL 1 0 +\nG 0 1.11!\nG 1 1.11\nG 2 0.0\n");
            h.ring(3);
            due("in a lift", written(h), rooms + "L 0 1 +\nL 1 1 +\nG 0 1.11!\nG 1 L1\nG 2 0.0\n");
            h.ring(3);
            due("at home", written(h), rooms + "L 0 0 -\nL 1 0 -\nG 0 1.11!\nG 1 0.2!\nG 2 0.0\n");
        });
        test("18: Within a line one blank stands between all these, none ahead of !; each line ends with a line end (10)", () -> {
            HotelOfBells h = hotel(3, 10);
            shaft(h, 0);
            h.addGuest(1, 9);
            guest(h, 0, 0, 1, 0);
            String text = written(h);
            int ends = 0;
            for (char sign : text.toCharArray()) if (sign == 10) ends++;
            due("line ends", ends, 5);
            due("the last sign", text.charAt(text.length() - 1), 10);
            due("the end of another kind", text.indexOf(13), -1);
            due("two blanks", text.contains("  "), false);
            due("a blank at the end of a line", text.contains(" \n"), false);
            due("a blank at the beginning of one", text.contains("\n "), false);
            due("a blank ahead of !", text.contains(" !"), false);
            due("two line ends", text.contains("\n\n"), false);
        });
        test("18: (a full hotel)", () -> {
            HotelOfBells h = full();
            for (int i = 0; i < 6; i++) h.setTune(i, 1, -2);
            ringTimes(h, 0, 5);
            StringBuilder want = new StringBuilder();
            for (int i = 0; i < 6; i++) want.append("F ").append(i).append(" 2 10 11 0 1 2 3 4 5 6 7 8 9\n");
            for (int i = 0; i < 4; i++) want.append("L ").append(i).append(" 5 +\n");
            for (int i = 0; i < 10; i++) want.append("G ").append(i).append(" 5.11!\n");
            due("the paper", written(h), want.toString());
        });
        test("18: in the place of what was there", () -> {
            HotelOfBells h = hotel(12);
            shaft(h, 11);
            guest(h, 0, 11, 0, 0);
            int longer = h.write();
            h.ring(3);
            int shorter = h.write();
            due("G 0 L0 is shorter than G 0 0.11", shorter, longer - 2);
            due("the end", h.byteAt(shorter - 1), 10);
            refused("behind it", BOUNDS, () -> h.byteAt(shorter));
            due("the whole", paper(h), "F 0 0 0 1 2 3 4 5 6 7 8 9 10 11\nL 0 0 -\nG 0 L0\n");
            due("written once more", h.write(), shorter);
        });
        test("19: Throws IndexOutOfBoundsException if there is no such place", () -> {
            HotelOfBells h = full();
            for (int i = 0; i < 6; i++) h.setTune(i, 1, -1);
            h.ring(0);
            refused("ahead of write()", BOUNDS, () -> h.byteAt(0));
            int length = h.write();
            due("the longest paper", length, 330);
            due("the first", h.byteAt(0), 'F');
            due("the last", h.byteAt(length - 1), 10);
            for (int index : new int[] {-1, length, 511, 512, LEAST, GREATEST}) {
                refused("byteAt(" + index + ")", BOUNDS, () -> h.byteAt(index));
            }
        });
        test("20: Returns the part of all guests who are at home; 1 if there are none", () -> {
            HotelOfBells h = hotel(3, 3);
            due("no guests", h.home(), 1.0);
            for (int i = 0; i < 10; i++) {
                guest(h, 0, 0, 1, 2);
                due("none of them", h.home(), 0.0);
            }
            for (int i = 0; i < 10; i++) {
                h.want(i, 0, 0);
                due("some of them", h.home(), (i + 1) / 10.0);
            }
            HotelOfBells g = hotel(3);
            for (int i = 0; i < 3; i++) guest(g, 0, 0, 0, i == 0 ? 0 : 1);
            due("one of three", g.home(), 1.0 / 3.0);
        });
    }

    private interface Make {
        HotelOfBells hotel();
    }

    private static BigInteger with(BigInteger d, long x) {
        return d.multiply(BigInteger.valueOf(31)).add(BigInteger.valueOf(x));
    }

    /**
     * The checksum as the number that it would be without an end of 64 bits; its numbers come from two
     * objects that are made alike, for all of them in one would take more than 512 calls.
     */
    private static BigInteger endless(Make make) {
        HotelOfBells h = make.hotel();
        BigInteger d = BigInteger.valueOf(541);
        for (int what = 0; what < 8; what++) d = with(d, h.count(what));
        for (int i = 0; i < h.count(0); i++) for (int what = 0; what < 6; what++) d = with(d, h.floor(i, what));
        for (int i = 0; i < h.count(1); i++) {
            for (int what = 0; what < 4; what++) d = with(d, h.lift(i, what));
            for (int floor = 0; floor < h.count(0); floor++) {
                int door = h.setDoor(i, floor, -1);
                h.setDoor(i, floor, door);
                d = with(d, door);
            }
        }
        for (int i = 0; i < h.count(2); i++) for (int what = 0; what < 7; what++) d = with(d, h.guest(i, what));
        HotelOfBells other = make.hotel();
        int length = other.count(7);
        for (int i = 0; i < length; i++) d = with(d, other.byteAt(i));
        return d;
    }

    private static long dueDigest(String what, boolean wraps, Make make) {
        BigInteger d = endless(make);
        due(what + ", more than 64 bits", d.bitLength() > 63, wraps);
        long got = make.hotel().digest();
        due(what, got, d.longValue());
        return got;
    }

    private static HotelOfBells withLifts(int lifts) {
        HotelOfBells h = new HotelOfBells();
        for (int i = 0; i < lifts; i++) h.addLift();
        return h;
    }

    private static HotelOfBells withPaper(int bells) {
        HotelOfBells h = hotel(3);
        h.addGuest(0, 2);
        h.write();
        ringTimes(h, 1, bells);
        return h;
    }

    private static HotelOfBells fullBehind(int tunes) {
        HotelOfBells h = full();
        for (int i = 0; i < 10; i++) h.want(i, i % 6, i);
        for (int i = 0; i < 6; i++) h.setTune(i, 12 + i % 2, i - 3);
        for (int i = 0; i < tunes; i++) h.play(121312);
        h.write();
        h.ring(2);
        return h;
    }

    private static void checksum() {
        test("21: A number d starts with 541; d becomes d * 31 + x (an empty hotel)", () -> {
            HotelOfBells h = new HotelOfBells();
            due("digest()", h.digest(), 541L * 31 * 31 * 31 * 31 * 31 * 31 * 31 * 31);
            h.ring(0);
            due("one bell, of the counts the sixth", h.digest(), 541L * 852891037441L + 31 * 31);
        });
        test("21: which wraps around as a 64-bit integer", () -> {
            dueDigest("nothing", false, HotelOfBells::new);
            dueDigest("a lift", true, () -> withLifts(1));
            dueDigest("four lifts", true, () -> withLifts(4));
            dueDigest("a floor", true, () -> hotel(3));
            int below = 0;
            for (int bells = 0; bells < 20; bells++) {
                int count = bells;
                if (dueDigest("behind bells", true, () -> withPaper(count)) < 0) below++;
            }
            due("now and then below 0", below > 0 && below < 20, true);
        });
        test("21: (a full hotel)", () -> {
            dueDigest("at first", true, BoundaryTests::full);
            for (int tunes = 0; tunes < 30; tunes++) {
                int count = tunes;
                dueDigest("behind bells", true, () -> fullBehind(count));
            }
        });
        test("21: the place of its door on each floor, -1 for none", () -> {
            HotelOfBells h = hotel(3, 12);
            h.addLift();
            long none = h.digest();
            h.setDoor(0, 1, 11);
            due("the last floor is the last number", h.digest() - none, 12);
            h.setDoor(0, 1, -1);
            due("taken away", h.digest(), none);
            h.setDoor(0, 0, 0);
            due("the first floor, there and on its floor", h.digest() - none, 31 + 31 * 31);
        });
        test("21: the bytes of the paper", () -> {
            HotelOfBells h = withLifts(1);
            long d = h.digest();
            h.write();
            // The paper's length is the last count, ahead of the four numbers of the lift.
            d += 8 * 31 * 31 * 31 * 31;
            for (char sign : "L 0 0 +\n".toCharArray()) d = d * 31 + sign;
            due("as they were written", h.digest(), d);
        });
    }

    // ---- the end of what is promised

    private static void lastCall() {
        test("An object is used for at most 512 calls after it has been made", () -> {
            HotelOfBells h = new HotelOfBells();
            int calls = 0;
            for (int i = 0; i < 6; i++, calls++) h.addFloor(3);
            for (int i = 0; i < 4; i++, calls++) h.addLift();
            for (int i = 0; i < 10; i++, calls++) h.addGuest(5, 2);
            for (int i = 0; i < 10; i++, calls++) h.want(i, 5, 0);
            for (; calls < 500; calls++) due("play", h.play(444444), 0);
            due("bells", h.count(5), 470 * 6);
            due("the bells that a guest waited", h.guest(9, 6), 470 * 6);
            due("advice", h.advise(9, 5), -1);
            due("write", h.write(), 6 * 12 + 4 * 8 + 10 * 8);
            due("home", h.home(), 0.0);
            for (int i = 0; i < 6; i++) h.setTune(i, 444444, 5);
            due("the last call of all", h.wouldTurn(3), 6);
        });
    }

    public static void main(String[] args) {
        termsOfFloors();
        termsOfLifts();
        termsOfGuests();
        termsOfTones();
        bellsAndFloors();
        bellsAndLifts();
        bellsAndStepsOut();
        bellsAndStepsIn();
        building();
        doorsAndWishes();
        whatIsThere();
        guestsAndCounts();
        bells();
        advice();
        paperLines();
        checksum();
        lastCall();
        System.out.println(tests + " tests, " + wrong + " answers are not as due");
        if (wrong != 0) System.exit(1);
    }
}
