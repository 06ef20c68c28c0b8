import java.util.ArrayList;
import java.util.List;

/**
 * "A method that throws an exception changes nothing. If several exceptions apply, the one that is
 * named first is thrown." Each refused call is made on one of two hotels that were built alike; then
 * both must tell the same, now and behind bells, floors and wishes that come later. So do calls that
 * are answered, but change nothing.
 */
public final class RefusalTests {
    private static final Class<?> BOUNDS = IndexOutOfBoundsException.class;
    private static final Class<?> ARGUMENT = IllegalArgumentException.class;
    private static final Class<?> STATE = IllegalStateException.class;
    private static final int LEAST = Integer.MIN_VALUE;
    private static final int GREATEST = Integer.MAX_VALUE;
    private static final int[] NO_TUNES = {0, 5, 9, 10, 15, 51, 101, 444445, 1111111, 4444444, -1, -11,
        LEAST, GREATEST};
    private static final int[] NO_STEPS = {-6, 6, LEAST, GREATEST};
    private static final int[] NO_TONES = {-1, 4, LEAST, GREATEST};

    private static int refusals = 0;
    private static int wrong = 0;

    private interface Make {
        HotelOfBells hotel();
    }

    private interface Call {
        void on(HotelOfBells hotel);
    }

    private static final List<Make> MAKES = new ArrayList<>();

    private static void fault(String what) {
        wrong++;
        System.out.println(what);
    }

    /** The same refusal in hotels of all kinds. */
    private static void refusedAnywhere(String what, Class<?> kind, Call call) {
        for (Make make : MAKES) refused(what, make, kind, call);
    }

    private static void refused(String what, Make make, Class<?> kind, Call call) {
        refusals++;
        HotelOfBells one = make.hotel();
        HotelOfBells other = make.hotel();
        try {
            call.on(one);
            fault(what + " was not refused");
        } catch (RuntimeException thrown) {
            if (thrown.getClass() != kind) fault(what + " throws " + thrown + ", due is " + kind.getSimpleName());
            StackTraceElement[] trace = thrown.getStackTrace();
            if (trace.length == 0 || !trace[0].getClassName().startsWith("HotelOfBells")) {
                fault(what + ": the machine or the library throws " + thrown);
            }
        }
        dueAlike(what, one, other);
    }

    /** A call that is answered, but by which nothing may change. */
    private static void changesNothing(String what, Call call) {
        for (Make make : MAKES) {
            HotelOfBells one = make.hotel();
            HotelOfBells other = make.hotel();
            call.on(one);
            dueAlike(what, one, other);
        }
    }

    private static void dueAlike(String what, HotelOfBells one, HotelOfBells other) {
        String got = allToldOf(one);
        String want = allToldOf(other);
        if (!got.equals(want)) fault(what + " has changed the hotel:\n" + got + "due is\n" + want);
    }

    // ---- all that two hotels can tell (within their 512 calls: the bytes of the paper are in the checksum)

    private static String allToldOf(HotelOfBells h) {
        StringBuilder told = new StringBuilder();
        tellNow(h, told);
        tellAhead(h, told);
        // The first bells show which were heard ahead of the refused call, the others what comes of it all.
        for (int tune : new int[] {2, 34, 121, 1243}) {
            told.append(h.play(tune)).append(' ').append(h.digest()).append('\n');
        }
        told.append(h.write()).append(' ').append(h.digest()).append('\n');
        for (int guest = 0; guest < h.count(2); guest++) told.append(h.want(guest, 0, guest % 3)).append(' ');
        if (h.count(0) < 6) told.append(h.addFloor(4)).append(' ');
        if (h.count(1) < 4) told.append(h.addLift()).append(' ');
        if (h.count(2) < 10) told.append(h.addGuest(0, 0)).append(' ');
        for (int i = 0; i < 8; i++) told.append(h.play(123411)).append(' ').append(h.digest()).append('\n');
        return told.toString();
    }

    private static void tellNow(HotelOfBells h, StringBuilder told) {
        for (int what = 0; what < 8; what++) told.append(h.count(what)).append(' ');
        for (int floor = 0; floor < h.count(0); floor++) {
            for (int what = 0; what < 6; what++) told.append(h.floor(floor, what)).append(' ');
            for (int lift = 0; lift < h.count(1); lift++) {
                int door = h.setDoor(lift, floor, -1);
                told.append(door).append(h.setDoor(lift, floor, door)).append(' ');
            }
        }
        for (int lift = 0; lift < h.count(1); lift++) {
            for (int what = 0; what < 4; what++) told.append(h.lift(lift, what)).append(' ');
        }
        for (int guest = 0; guest < h.count(2); guest++) {
            for (int what = 0; what < 7; what++) told.append(h.guest(guest, what)).append(' ');
        }
        told.append(h.home()).append(' ').append(h.digest()).append('\n');
    }

    private static void tellAhead(HotelOfBells h, StringBuilder told) {
        for (int tone = 0; tone < 4; tone++) told.append(h.wouldTurn(tone)).append(' ');
        for (int guest = 0; guest < h.count(2); guest++) {
            told.append(h.foresee(guest, 341212)).append(' ').append(h.advise(guest, 4)).append(' ');
        }
        told.append('\n');
    }

    // ---- hotels of all kinds

    private static HotelOfBells bare() {
        HotelOfBells h = new HotelOfBells();
        h.play(134);
        return h;
    }

    /** One floor, one shaft, one guest who waits; the paper is older than the latest bell. */
    private static HotelOfBells small() {
        HotelOfBells h = new HotelOfBells();
        h.addFloor(3);
        h.setTune(0, 12, -1);
        h.addLift();
        h.setDoor(0, 0, 1);
        h.addGuest(0, 0);
        h.want(0, 0, 2);
        h.write();
        h.ring(0);
        return h;
    }

    /** All that there may be, amidst bells: some ride, some are at home, some wait. */
    private static HotelOfBells full() {
        HotelOfBells h = new HotelOfBells();
        int[] rooms = {3, 12, 5, 4, 7, 3};
        int[] tunes = {12, 1, 341, 34121, 2, 121212};
        for (int i = 0; i < 6; i++) {
            h.addFloor(rooms[i]);
            h.setTune(i, tunes[i], 3 - i);
        }
        for (int i = 0; i < 4; i++) {
            h.addLift();
            for (int floor = 0; floor < 6; floor++) h.setDoor(i, floor, (i + floor) % 4 - 1);
            h.ring(i);
        }
        for (int i = 0; i < 10; i++) {
            h.addGuest(i % 6, i % 3);
            h.want(i, i < 8 ? (i * 5 + 1) % 6 : i % 6, i < 8 ? i % 2 : i % 3);
        }
        h.play(341212);
        h.write();
        h.play(12341);
        return h;
    }

    // ---- what is refused, method by method

    private static void building() {
        for (int rooms : new int[] {2, 13, 0, -1, -3, LEAST, GREATEST}) {
            refusedAnywhere("addFloor(" + rooms + ")", ARGUMENT, h -> h.addFloor(rooms));
        }
        for (int rooms : new int[] {3, 12}) {
            refused("a 7th floor of " + rooms, RefusalTests::full, STATE, h -> h.addFloor(rooms));
        }
        refused("a 5th lift", RefusalTests::full, STATE, h -> h.addLift());
        refused("an 11th guest", RefusalTests::full, STATE, h -> h.addGuest(0, 0));
        refused("an 11th guest in the last room", RefusalTests::full, STATE, h -> h.addGuest(5, 2));
    }

    private static void tunes() {
        for (int floor : new int[] {-1, LEAST, GREATEST, 6}) {
            refusedAnywhere("setTune, floor " + floor, BOUNDS, h -> h.setTune(floor, 1, 0));
            refusedAnywhere("setTune, floor and tune", BOUNDS, h -> h.setTune(floor, 0, 0));
            refusedAnywhere("setTune, floor and step", BOUNDS, h -> h.setTune(floor, 1, 6));
            refusedAnywhere("setTune, floor, tune and step", BOUNDS, h -> h.setTune(floor, 5, -6));
        }
        refused("setTune without floors", RefusalTests::bare, BOUNDS, h -> h.setTune(0, 1, 0));
        refused("setTune behind the last floor", RefusalTests::small, BOUNDS, h -> h.setTune(1, 1, 0));
        for (Make make : MAKES.subList(1, 3)) {
            for (int tune : NO_TUNES) {
                refused("setTune, tune " + tune, make, ARGUMENT, h -> h.setTune(0, tune, 2));
            }
            for (int step : NO_STEPS) {
                refused("setTune, step " + step, make, ARGUMENT, h -> h.setTune(0, 23, step));
            }
            refused("setTune, tune and step", make, ARGUMENT, h -> h.setTune(0, 5, 6));
        }
        for (int tune : NO_TUNES) refusedAnywhere("play(" + tune + ")", ARGUMENT, h -> h.play(tune));
        // Digits ahead of the wrong one are no bells: the whole tune is looked at first.
        for (int tune : new int[] {1235, 12305, 444440, 121210}) {
            refusedAnywhere("play(" + tune + ")", ARGUMENT, h -> h.play(tune));
        }
        for (int tone : NO_TONES) {
            refusedAnywhere("ring(" + tone + ")", ARGUMENT, h -> h.ring(tone));
            refusedAnywhere("wouldTurn(" + tone + ")", ARGUMENT, h -> h.wouldTurn(tone));
        }
    }

    private static void doors() {
        for (int lift : new int[] {-1, 4, LEAST, GREATEST}) {
            refusedAnywhere("setDoor, lift " + lift, BOUNDS, h -> h.setDoor(lift, 0, 0));
            refusedAnywhere("setDoor, lift and place", BOUNDS, h -> h.setDoor(lift, 0, -2));
        }
        for (int floor : new int[] {-1, 6, LEAST, GREATEST}) {
            refusedAnywhere("setDoor, floor " + floor, BOUNDS, h -> h.setDoor(0, floor, 0));
            refusedAnywhere("setDoor, floor and no door", BOUNDS, h -> h.setDoor(0, floor, -1));
            refusedAnywhere("setDoor, floor and place", BOUNDS, h -> h.setDoor(0, floor, 12));
        }
        refused("setDoor, lift behind the last", RefusalTests::small, BOUNDS, h -> h.setDoor(1, 0, 0));
        refused("setDoor, floor behind the last", RefusalTests::small, BOUNDS, h -> h.setDoor(0, 1, 0));
        for (Make make : MAKES.subList(1, 3)) {
            for (int place : new int[] {-2, 3, 11, 12, LEAST, GREATEST}) {
                refused("setDoor, place " + place, make, ARGUMENT, h -> h.setDoor(0, 0, place));
            }
        }
        refused("setDoor, place 12 of 12", RefusalTests::full, ARGUMENT, h -> h.setDoor(3, 1, 12));
    }

    private static void guests() {
        for (int floor : new int[] {-1, 6, LEAST, GREATEST}) {
            refusedAnywhere("addGuest, floor " + floor, BOUNDS, h -> h.addGuest(floor, 0));
            refusedAnywhere("want, floor " + floor, BOUNDS, h -> h.want(0, floor, 0));
            refusedAnywhere("place, floor " + floor, BOUNDS, h -> h.place(floor, 0));
        }
        for (int room : new int[] {-1, 3, 11, LEAST, GREATEST}) {
            refusedAnywhere("addGuest, room " + room, BOUNDS, h -> h.addGuest(0, room));
            refusedAnywhere("want, room " + room, BOUNDS, h -> h.want(0, 0, room));
            refusedAnywhere("place, room " + room, BOUNDS, h -> h.place(0, room));
        }
        for (int guest : new int[] {-1, 10, LEAST, GREATEST}) {
            refusedAnywhere("want, guest " + guest, BOUNDS, h -> h.want(guest, 0, 0));
            refusedAnywhere("foresee, guest " + guest, BOUNDS, h -> h.foresee(guest, 1));
            refusedAnywhere("foresee, guest and tune", BOUNDS, h -> h.foresee(guest, 5));
            refusedAnywhere("advise, guest " + guest, BOUNDS, h -> h.advise(guest, 1));
            refusedAnywhere("advise, guest and most", BOUNDS, h -> h.advise(guest, 6));
        }
        refused("addGuest without floors", RefusalTests::bare, BOUNDS, h -> h.addGuest(0, 0));
        refused("want behind the last guest", RefusalTests::small, BOUNDS, h -> h.want(1, 0, 0));
        refused("want behind the last floor", RefusalTests::small, BOUNDS, h -> h.want(0, 1, 0));
        refused("the room 12 of 12", RefusalTests::full, BOUNDS, h -> h.want(0, 1, 12));
    }

    private static void facts() {
        for (int what : new int[] {-1, LEAST, GREATEST, 8}) {
            refusedAnywhere("count(" + what + ")", BOUNDS, h -> h.count(what));
            refusedAnywhere("floor(0, " + what + ")", BOUNDS, h -> h.floor(0, what));
            refusedAnywhere("lift(0, " + what + ")", BOUNDS, h -> h.lift(0, what));
            refusedAnywhere("guest(0, " + what + ")", BOUNDS, h -> h.guest(0, what));
        }
        refusedAnywhere("floor(0, 6)", BOUNDS, h -> h.floor(0, 6));
        refusedAnywhere("lift(0, 4)", BOUNDS, h -> h.lift(0, 4));
        refusedAnywhere("guest(0, 7)", BOUNDS, h -> h.guest(0, 7));
        for (int number : new int[] {-1, LEAST, GREATEST, 10}) {
            refusedAnywhere("floor(" + number + ", 0)", BOUNDS, h -> h.floor(number, 0));
            refusedAnywhere("lift(" + number + ", 0)", BOUNDS, h -> h.lift(number, 0));
            refusedAnywhere("guest(" + number + ", 0)", BOUNDS, h -> h.guest(number, 0));
        }
        for (int index : new int[] {-1, LEAST, GREATEST, 331, 512}) {
            refusedAnywhere("byteAt(" + index + ")", BOUNDS, h -> h.byteAt(index));
        }
        refusedAnywhere("byteAt behind the paper", BOUNDS, h -> h.byteAt(h.count(7)));
    }

    private static void lookingAhead() {
        for (Make make : MAKES.subList(1, 3)) {
            for (int tune : NO_TUNES) {
                refused("foresee, tune " + tune, make, ARGUMENT, h -> h.foresee(0, tune));
            }
            for (int most : new int[] {-1, 0, 6, LEAST, GREATEST}) {
                refused("advise, most " + most, make, ARGUMENT, h -> h.advise(0, most));
            }
        }
    }

    /** Of several exceptions that apply to a hotel that is full, the one that is named first. */
    private static void severalApply() {
        for (int rooms : new int[] {2, 13, LEAST, GREATEST}) {
            refused("a 7th floor of " + rooms, RefusalTests::full, ARGUMENT, h -> h.addFloor(rooms));
        }
        for (int floor : new int[] {-1, 6}) {
            refused("an 11th guest, floor " + floor, RefusalTests::full, BOUNDS, h -> h.addGuest(floor, 0));
        }
        for (int room : new int[] {-1, 3}) {
            refused("an 11th guest, room " + room, RefusalTests::full, BOUNDS, h -> h.addGuest(0, room));
        }
    }

    private static void answersChangeNothing() {
        changesNothing("wouldTurn", h -> {
            for (int tone = 0; tone < 4; tone++) h.wouldTurn(tone);
        });
        changesNothing("foresee", h -> {
            int guests = h.count(2);
            for (int guest = 0; guest < guests; guest++) h.foresee(guest, 121234);
        });
        changesNothing("advise", h -> {
            int guests = h.count(2);
            for (int guest = 0; guest < guests; guest++) h.advise(guest, 5);
        });
        changesNothing("home and digest", h -> {
            h.home();
            h.digest();
        });
        changesNothing("count", h -> {
            for (int what = 0; what < 8; what++) h.count(what);
        });
        changesNothing("the paper's last byte", h -> {
            int length = h.count(7);
            if (length > 0) h.byteAt(length - 1);
        });
    }

    /** Hotels in which nothing happens would hide what a refused call has changed. */
    private static void dueAlive() {
        HotelOfBells h = full();
        if (h.count(3) < 1 || h.count(4) < 1 || h.count(3) + h.count(4) >= 10) {
            fault("the full hotel has " + h.count(3) + " at home, and " + h.count(4) + " who ride");
        }
    }

    public static void main(String[] args) {
        MAKES.add(RefusalTests::bare);
        MAKES.add(RefusalTests::small);
        MAKES.add(RefusalTests::full);
        dueAlive();
        building();
        tunes();
        doors();
        guests();
        facts();
        lookingAhead();
        severalApply();
        answersChangeNothing();
        System.out.println(refusals + " refused calls, " + wrong + " faults");
        if (wrong != 0) System.exit(1);
    }
}
