import java.util.ArrayList;
import java.util.Arrays;
import java.util.List;

/**
 * Long runs of calls, each answer compared with that of a second hotel, which is written as plainly
 * as the document's words: it keeps every bell, has the rooms lie in rings, and looks ahead by
 * ringing in a copy of the whole hotel.
 */
public final class ModelTests {
    private static final int RUNS = 1500;
    private static final int CALLS = 250;
    private static final int BUILDING = 40;
    private static final int IOOBE = 1;
    private static final int IAE = 2;
    private static final int ISE = 3;

    /** The exception that is due, told apart from those of a fault in this test. */
    private static final class Due extends RuntimeException {
        private static final long serialVersionUID = 1L;
        final int kind;

        Due(int kind) {
            this.kind = kind;
        }
    }

    private static void refuse(boolean wrong, int kind) {
        if (wrong) throw new Due(kind);
    }

    private static final class Model {
        List<List<Integer>> rings = new ArrayList<>();
        List<String> tunes = new ArrayList<>();
        List<Integer> steps = new ArrayList<>();
        List<int[]> doors = new ArrayList<>();
        List<int[]> lifts = new ArrayList<>();
        List<int[]> guests = new ArrayList<>();
        StringBuilder rung = new StringBuilder();
        int turns;
        String paper = "";

        Model copy() {
            Model m = new Model();
            for (List<Integer> ring : rings) m.rings.add(new ArrayList<>(ring));
            m.tunes.addAll(tunes);
            m.steps.addAll(steps);
            for (int[] d : doors) m.doors.add(d.clone());
            for (int[] l : lifts) m.lifts.add(l.clone());
            for (int[] g : guests) m.guests.add(g.clone());
            m.rung.append(rung);
            m.turns = turns;
            m.paper = paper;
            return m;
        }

        static boolean isTune(int tune) {
            return Integer.toString(tune).matches("[1-4]{1,6}");
        }

        boolean noFloor(int f) {
            return f < 0 || f >= rings.size();
        }

        boolean noRoom(int f, int r) {
            return noFloor(f) || r < 0 || r >= rings.get(f).size();
        }

        boolean noLift(int l) {
            return l < 0 || l >= lifts.size();
        }

        boolean noGuest(int g) {
            return g < 0 || g >= guests.size();
        }

        /** A guest's row: the seven answers of guest(). */
        static boolean isHome(int[] g) {
            return g[2] < 0 && g[0] == g[3] && g[1] == g[4];
        }

        int addFloor(int rooms) {
            refuse(rooms < 3 || rooms > 12, IAE);
            refuse(rings.size() == 6, ISE);
            List<Integer> ring = new ArrayList<>();
            for (int r = 0; r < rooms; r++) ring.add(r);
            rings.add(ring);
            tunes.add("1");
            steps.add(0);
            return rings.size() - 1;
        }

        int setTune(int f, int tune, int step) {
            refuse(noFloor(f), IOOBE);
            refuse(!isTune(tune) || step < -5 || step > 5, IAE);
            steps.set(f, step);
            return Integer.parseInt(tunes.set(f, Integer.toString(tune)));
        }

        int addLift() {
            refuse(lifts.size() == 4, ISE);
            doors.add(new int[] {-1, -1, -1, -1, -1, -1});
            lifts.add(new int[] {0, 1});
            return lifts.size() - 1;
        }

        int setDoor(int l, int f, int p) {
            refuse(noLift(l) || noFloor(f), IOOBE);
            refuse(p < -1 || p >= rings.get(f).size(), IAE);
            int before = doors.get(l)[f];
            doors.get(l)[f] = p;
            return before;
        }

        int addGuest(int f, int r) {
            refuse(noRoom(f, r), IOOBE);
            refuse(guests.size() == 10, ISE);
            guests.add(new int[] {f, r, -1, f, r, 1, 0});
            return guests.size() - 1;
        }

        int want(int g, int f, int r) {
            refuse(noGuest(g) || noRoom(f, r), IOOBE);
            int[] who = guests.get(g);
            who[3] = f;
            who[4] = r;
            who[6] = 0;
            who[5] = isHome(who) ? 1 : 0;
            return who[5];
        }

        int floor(int f, int what) {
            refuse(noFloor(f) || what < 0 || what > 5, IOOBE);
            if (what == 0) return rings.get(f).size();
            if (what == 1) return rings.get(f).indexOf(0);
            if (what == 2) return Integer.parseInt(tunes.get(f));
            if (what == 3) return steps.get(f);
            int found = 0;
            if (what == 4) {
                for (int[] g : guests) if (g[2] < 0 && g[0] == f) found++;
            } else {
                for (int k = 0; k <= tunes.get(f).length(); k++) {
                    if (rung.toString().endsWith(tunes.get(f).substring(0, k))) found = k;
                }
            }
            return found;
        }

        int place(int f, int r) {
            refuse(noRoom(f, r), IOOBE);
            return rings.get(f).indexOf(r);
        }

        int lift(int l, int what) {
            refuse(noLift(l) || what < 0 || what > 3, IOOBE);
            if (what < 2) return lifts.get(l)[what];
            if (what == 3) return doors.get(l)[lifts.get(l)[0]];
            int found = 0;
            for (int[] g : guests) if (g[2] == l) found++;
            return found;
        }

        int guest(int g, int what) {
            refuse(noGuest(g) || what < 0 || what > 6, IOOBE);
            return guests.get(g)[what];
        }

        int count(int what) {
            refuse(what < 0 || what > 7, IOOBE);
            int home = 0;
            int riding = 0;
            for (int[] g : guests) {
                home += g[5];
                riding += g[2] >= 0 ? 1 : 0;
            }
            int[] facts = {rings.size(), lifts.size(), guests.size(), home, riding, rung.length(), turns, paper.length()};
            return facts[what];
        }

        int ring(int tone) {
            refuse(tone < 0 || tone > 3, IAE);
            rung.append(tone + 1);
            for (int f = 0; f < rings.size(); f++) {
                if (!rung.toString().endsWith(tunes.get(f))) continue;
                turns++;
                java.util.Collections.rotate(rings.get(f), steps.get(f));
            }
            for (int[] l : lifts) {
                int next = l[0] + (l[1] == 1 ? 1 : -1);
                if (noFloor(next)) {
                    l[1] = 1 - l[1];
                    next = l[0] + (l[1] == 1 ? 1 : -1);
                }
                if (!noFloor(next)) l[0] = next;
            }
            int came = 0;
            for (int[] g : guests) {
                if (g[5] == 0) g[6]++;
                if (actOf(g)) came++;
            }
            return came;
        }

        boolean actOf(int[] g) {
            if (g[2] >= 0) {
                if (lifts.get(g[2])[0] != g[3]) return false;
                int door = doors.get(g[2])[g[3]];
                if (door < 0 || rings.get(g[3]).get(door) != g[4]) return false;
                g[0] = g[3];
                g[1] = g[4];
                g[2] = -1;
                g[5] = 1;
                return true;
            }
            if (g[5] == 1) return false;
            for (int l = lifts.size() - 1; l >= 0; l--) {
                int door = doors.get(l)[g[0] < 0 ? 0 : g[0]];
                if (lifts.get(l)[0] == g[0] && door >= 0 && rings.get(g[0]).get(door) == g[1]) g[2] = l;
            }
            // Kept until all shafts were looked at, so that the smallest number is what stays.
            if (g[2] >= 0) {
                g[0] = -1;
                g[1] = -1;
            }
            return false;
        }

        int play(int tune) {
            refuse(!isTune(tune), IAE);
            int came = 0;
            for (char c : Integer.toString(tune).toCharArray()) came += ring(c - '1');
            return came;
        }

        int foresee(int g, int tune) {
            refuse(noGuest(g), IOOBE);
            refuse(!isTune(tune), IAE);
            Model m = copy();
            String row = Integer.toString(tune);
            for (int k = 0; k <= row.length(); k++) {
                if (m.guests.get(g)[5] == 1) return k;
                if (k < row.length()) m.ring(row.charAt(k) - '1');
            }
            return -1;
        }

        /** All tunes of so many bells in the order of their numbers, the short ones first. */
        int advise(int g, int most) {
            refuse(noGuest(g), IOOBE);
            refuse(most < 1 || most > 5, IAE);
            if (guests.get(g)[5] == 1) return 0;
            List<Integer> rows = new ArrayList<>(List.of(1, 2, 3, 4));
            for (int length = 1; length <= most; length++) {
                List<Integer> longer = new ArrayList<>();
                for (int row : rows) {
                    if (foresee(g, row) == length) return row;
                    for (int digit = 1; digit <= 4; digit++) longer.add(row * 10 + digit);
                }
                rows = longer;
            }
            return -1;
        }

        int wouldTurn(int tone) {
            refuse(tone < 0 || tone > 3, IAE);
            Model m = copy();
            m.ring(tone);
            return m.turns - turns;
        }

        int write() {
            StringBuilder text = new StringBuilder();
            for (int f = 0; f < rings.size(); f++) {
                text.append("F ").append(f).append(' ').append(floor(f, 1));
                for (int r : rings.get(f)) text.append(' ').append(r);
                text.append('\n');
            }
            for (int l = 0; l < lifts.size(); l++) {
                text.append("L ").append(l).append(' ').append(lift(l, 0)).append(lift(l, 1) == 1 ? " +\n" : " -\n");
            }
            for (int g = 0; g < guests.size(); g++) {
                int[] who = guests.get(g);
                text.append("G ").append(g).append(' ');
                text.append(who[2] >= 0 ? "L" + who[2] : who[0] + "." + who[1]);
                text.append(who[5] == 1 ? "!\n" : "\n");
            }
            paper = text.toString();
            return paper.length();
        }

        int byteAt(int index) {
            refuse(index < 0 || index >= paper.length(), IOOBE);
            return paper.charAt(index);
        }

        double home() {
            return guests.isEmpty() ? 1 : (double) count(3) / guests.size();
        }

        long digest() {
            List<Integer> all = new ArrayList<>();
            for (int w = 0; w < 8; w++) all.add(count(w));
            for (int f = 0; f < rings.size(); f++) for (int w = 0; w < 6; w++) all.add(floor(f, w));
            for (int l = 0; l < lifts.size(); l++) {
                for (int w = 0; w < 4; w++) all.add(lift(l, w));
                for (int f = 0; f < rings.size(); f++) all.add(doors.get(l)[f]);
            }
            for (int[] g : guests) for (int fact : g) all.add(fact);
            for (char c : paper.toCharArray()) all.add((int) c);
            long d = 541;
            for (int x : all) d = d * 31 + x;
            return d;
        }
    }

    // The answers as text, an exception by its kind.

    private static String ask(Model m, int call, int[] a) {
        try {
            switch (call) {
                case 0: return "" + m.addFloor(a[0]);
                case 1: return "" + m.setTune(a[0], a[1], a[2]);
                case 2: return "" + m.addLift();
                case 3: return "" + m.setDoor(a[0], a[1], a[2]);
                case 4: return "" + m.addGuest(a[0], a[1]);
                case 5: return "" + m.want(a[0], a[1], a[2]);
                case 6: return "" + m.floor(a[0], a[1]);
                case 7: return "" + m.place(a[0], a[1]);
                case 8: return "" + m.lift(a[0], a[1]);
                case 9: return "" + m.guest(a[0], a[1]);
                case 10: return "" + m.count(a[0]);
                case 11: return "" + m.ring(a[0]);
                case 12: return "" + m.play(a[0]);
                case 13: return "" + m.foresee(a[0], a[1]);
                case 14: return "" + m.advise(a[0], a[1]);
                case 15: return "" + m.wouldTurn(a[0]);
                case 16: return "" + m.write();
                case 17: return "" + m.byteAt(a[0]);
                case 18: return "" + m.home();
                default: return "" + m.digest();
            }
        } catch (Due due) {
            String[] names = {"", "IndexOutOfBoundsException", "IllegalArgumentException", "IllegalStateException"};
            return names[due.kind];
        }
    }

    private static String ask(HotelOfBells h, int call, int[] a) {
        try {
            switch (call) {
                case 0: return "" + h.addFloor(a[0]);
                case 1: return "" + h.setTune(a[0], a[1], a[2]);
                case 2: return "" + h.addLift();
                case 3: return "" + h.setDoor(a[0], a[1], a[2]);
                case 4: return "" + h.addGuest(a[0], a[1]);
                case 5: return h.want(a[0], a[1], a[2]) ? "1" : "0";
                case 6: return "" + h.floor(a[0], a[1]);
                case 7: return "" + h.place(a[0], a[1]);
                case 8: return "" + h.lift(a[0], a[1]);
                case 9: return "" + h.guest(a[0], a[1]);
                case 10: return "" + h.count(a[0]);
                case 11: return "" + h.ring(a[0]);
                case 12: return "" + h.play(a[0]);
                case 13: return "" + h.foresee(a[0], a[1]);
                case 14: return "" + h.advise(a[0], a[1]);
                case 15: return "" + h.wouldTurn(a[0]);
                case 16: return "" + h.write();
                case 17: return "" + h.byteAt(a[0]);
                case 18: return "" + h.home();
                default: return "" + h.digest();
            }
        } catch (RuntimeException thrown) {
            StackTraceElement[] trace = thrown.getStackTrace();
            // Only a throw statement of the class leaves one of its methods on top.
            if (trace.length == 0 || !trace[0].getClassName().startsWith("HotelOfBells")) return thrown.toString();
            return thrown.getClass().getSimpleName();
        }
    }

    private static final String[] NAMES = {"addFloor", "setTune", "addLift", "setDoor", "addGuest", "want", "floor",
        "place", "lift", "guest", "count", "ring", "play", "foresee", "advise", "wouldTurn", "write", "byteAt", "home",
        "digest"};

    /** How often each call comes: bells and what makes guests move often, the dear advise seldom. */
    private static final int[] WEIGHTS = {2, 8, 2, 10, 3, 14, 10, 4, 6, 12, 6, 30, 14, 16, 6, 8, 3, 6, 2, 6};

    /** The whole run comes from its number, so that it can be told and repeated. */
    private static final class Numbers {
        private long state;

        Numbers(int seed) {
            state = seed * 7919L + 17;
        }

        int below(int bound) {
            state = state * 6364136223846793005L + 1442695040888963407L;
            return (int) ((state >>> 33) % bound);
        }

        int call() {
            int all = 0;
            for (int weight : WEIGHTS) all += weight;
            int left = below(all);
            int call = 0;
            while (left >= WEIGHTS[call]) left -= WEIGHTS[call++];
            return call;
        }

        /** Mostly 0 to most, now and then just outside, seldom far outside. */
        int upTo(int most) {
            int way = below(40);
            if (way == 0) return below(2) == 0 ? -1 : most + 1;
            if (way == 1 && below(4) == 0) return below(2) == 0 ? Integer.MIN_VALUE : Integer.MAX_VALUE;
            return below(most + 1);
        }

        int tune(int tones, int longest) {
            if (below(40) == 0) {
                int[] noTunes = {0, -1, 5, 10, 1111111, 114050, -12, Integer.MAX_VALUE, Integer.MIN_VALUE};
                return noTunes[below(noTunes.length)];
            }
            int tune = 0;
            for (int i = below(longest); i >= 0; i--) tune = tune * 10 + 1 + below(tones);
            return tune;
        }
    }

    private static int[] arguments(int call, Model m, Numbers n, int tones, int mostRooms, int longest) {
        int floors = Math.max(0, m.rings.size() - 1);
        int lifts = Math.max(0, m.lifts.size() - 1);
        int guests = Math.max(0, m.guests.size() - 1);
        int f = n.upTo(floors);
        int rooms = m.noFloor(f) ? 2 : m.rings.get(f).size() - 1;
        switch (call) {
            case 0: return new int[] {n.below(20) == 0 ? 2 + n.upTo(11) : 3 + n.below(mostRooms - 2)};
            case 1: return new int[] {f, n.tune(tones, 1 + n.below(longest)), n.upTo(10) - 5};
            case 3: return new int[] {n.upTo(lifts), f, n.upTo(rooms + 1) - 1};
            case 4: return new int[] {f, n.upTo(rooms)};
            case 5: return new int[] {n.upTo(guests), f, n.upTo(rooms)};
            case 6: return new int[] {f, n.upTo(5)};
            case 7: return new int[] {f, n.upTo(rooms)};
            case 8: return new int[] {n.upTo(lifts), n.upTo(3)};
            case 9: return new int[] {n.upTo(guests), n.upTo(6)};
            case 10: return new int[] {n.upTo(7)};
            case 11: return new int[] {n.below(30) == 0 ? n.upTo(3) : n.below(tones)};
            case 12: return new int[] {n.tune(tones, 6)};
            case 13: return new int[] {n.upTo(guests), n.tune(tones, 6)};
            case 14: return new int[] {n.upTo(guests), 1 + n.upTo(4)};
            case 15: return new int[] {n.upTo(3)};
            case 17: return new int[] {n.upTo(Math.max(0, m.paper.length() - 1))};
            default: return new int[0];
        }
    }

    /** Whether the run's answers are all as due; the first that is not ends it. */
    private static boolean run(int seed, int[] seen) {
        Numbers n = new Numbers(seed);
        int tones = 1 + n.below(4);
        int mostRooms = 3 + n.below(n.below(2) == 0 ? 2 : 10);
        int mostFloors = 1 + n.below(6);
        int longest = 1 + n.below(6);
        Model m = new Model();
        HotelOfBells h = new HotelOfBells();
        StringBuilder told = new StringBuilder();
        for (int i = 0; i < CALLS; i++) {
            int call = i < BUILDING ? n.below(6) : n.call();
            if (call == 0 && m.rings.size() >= mostFloors && n.below(50) > 0) call = 3;
            int[] a = arguments(call, m, n, tones, mostRooms, longest);
            String want = ask(m, call, a);
            String got = ask(h, call, a);
            told.append("  ").append(NAMES[call]).append(Arrays.toString(a)).append(" -> ").append(got).append('\n');
            if ((call == 11 || call == 12) && want.matches("[1-9].*")) seen[0]++;
            if (call == 14 && want.matches("[1-9].*")) seen[1]++;
            if (call == 13 && want.matches("[1-9].*")) seen[2]++;
            String wantState = "" + m.digest();
            String gotState = "" + h.digest();
            if (!got.equals(want) || !gotState.equals(wantState)) {
                System.out.println("run " + seed + ":\n" + told + "due is " + want);
                if (got.equals(want)) System.out.println("and then digest() " + wantState + ", not " + gotState);
                return false;
            }
        }
        return true;
    }

    public static void main(String[] args) {
        int wrong = 0;
        int[] seen = new int[3];
        for (int seed = 0; seed < RUNS && wrong < 3; seed++) {
            if (!run(seed, seen)) wrong++;
        }
        System.out.println("bells by which guests came home: " + seen[0] + ", advice: " + seen[1] + ", foreseen: " + seen[2]);
        // Runs in which nobody comes home would test little.
        if (seen[0] < 500 || seen[1] < 50 || seen[2] < 100) {
            wrong++;
            System.out.println("too little happens in these runs");
        }
        System.out.println(wrong == 0 ? "all answers are as due" : wrong + " runs are not as due");
        if (wrong != 0) System.exit(1);
    }
}
