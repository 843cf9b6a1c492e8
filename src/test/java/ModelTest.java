import java.util.ArrayDeque;
import java.util.ArrayList;
import java.util.Deque;
import java.util.List;
import java.util.TreeSet;
import java.util.regex.Matcher;
import java.util.regex.Pattern;

/**
 * Long runs of calls beside a slow second program. The model keeps the tracks as lists
 * in the order in which they were laid and tries each way out, so that it shares no
 * idea with the class but the document's words.
 */
public final class ModelTest {
    private static final int RUNS = 100;
    private static final int CALLS = 470;
    private static final int NOTHING = -1;
    private static final String INDEX = "IndexOutOfBoundsException";
    private static final String ARGUMENT = "IllegalArgumentException";
    private static final String STATE = "IllegalStateException";

    /** What the document calls a refusal by an exception, told by its name. */
    private static final class Refused extends Exception {
        Refused(String name) {
            super(name);
        }
    }

    private static final class Model {
        static final int[] DEPOTS = {0, 9, 79, 70};
        static final int[] DX = {0, 1, 0, -1};
        static final int[] DY = {-1, 0, 1, 0};
        static final Pattern TURNS = Pattern.compile("[0-3]:([1-6][nesw])+(;[0-3]:([1-6][nesw])+)*");

        TreeSet<Integer> houses = new TreeSet<>();
        List<List<Integer>> lines = new ArrayList<>();
        int[] owner = new int[80];
        int[][] stops = new int[12][];
        int[] coins = {20, 20, 20, 20};
        int[] head = DEPOTS.clone();
        int[] last = {NOTHING, NOTHING, NOTHING, NOTHING};
        int[] paid = new int[4];
        int[] got = new int[4];
        int[] settings = {2, 2, 1};
        int pieces;
        Deque<Model> saved = new ArrayDeque<>();
        String buffer = "";

        Model() {
            java.util.Arrays.fill(owner, NOTHING);
            for (int p = 0; p < 4; p++) {
                lines.add(new ArrayList<>(List.of(DEPOTS[p])));
                owner[DEPOTS[p]] = p;
            }
        }

        Model copy() {
            Model m = new Model();
            m.take(this);
            return m;
        }

        void take(Model o) {
            houses = new TreeSet<>(o.houses);
            lines = new ArrayList<>();
            for (List<Integer> line : o.lines) {
                lines.add(new ArrayList<>(line));
            }
            owner = o.owner.clone();
            stops = o.stops.clone();
            coins = o.coins.clone();
            head = o.head.clone();
            last = o.last.clone();
            paid = o.paid.clone();
            got = o.got.clone();
            settings = o.settings.clone();
            pieces = o.pieces;
        }

        void save() {
            saved.addLast(copy());
            if (saved.size() > 6) {
                saved.removeFirst();
            }
        }

        static void demand(boolean holds, String exception) throws Refused {
            if (!holds) {
                throw new Refused(exception);
            }
        }

        static boolean in(int value, int low, int high) {
            return low <= value && value <= high;
        }

        int tracks(int square) {
            int n = 0;
            for (List<Integer> line : lines) {
                n += line.contains(square) ? 1 : 0;
            }
            return n;
        }

        int lowestStop(int square) {
            for (int s = 0; s < 12; s++) {
                if (stops[s] != null && stops[s][0] == square) {
                    return s;
                }
            }
            return NOTHING;
        }

        int toll(int square) {
            return owner[square] == NOTHING ? 0 : settings[0] * tracks(square);
        }

        static int step(int square, int direction) {
            int x = square % 10 + DX[direction];
            int y = square / 10 + DY[direction];
            return in(x, 0, 9) && in(y, 0, 7) ? 10 * y + x : NOTHING;
        }

        boolean open(int player, int square) {
            return !houses.contains(square) && !lines.get(player).contains(square) && tracks(square) < settings[1];
        }

        int reason(int player, int from, int die, int direction) {
            int to = step(from, direction);
            if (to == NOTHING) {
                return 1;
            }
            if (last[player] != NOTHING) {
                int turn = (direction - last[player] + 4) % 4;
                String turns = new String[] {"", "013", "013", "0", "0", "13", "0123"}[die];
                if (turns.indexOf('0' + turn) < 0) {
                    return 2;
                }
            }
            if (houses.contains(to)) {
                return 3;
            }
            if (lines.get(player).contains(to)) {
                return 4;
            }
            if (tracks(to) >= settings[1]) {
                return 5;
            }
            return toll(to) > coins[player] ? 6 : 0;
        }

        int put(int player, int from, int direction) {
            int to = step(from, direction);
            int toll = toll(to);
            coins[player] -= toll;
            paid[player] += toll;
            if (owner[to] == NOTHING) {
                owner[to] = player;
            } else {
                coins[owner[to]] += toll;
                got[owner[to]] += toll;
            }
            lines.get(player).add(to);
            head[player] = to;
            last[player] = direction;
            coins[player] += settings[2];
            pieces++;
            return toll;
        }

        long house(int square, boolean isHouse) throws Refused {
            demand(in(square, 0, 79), INDEX);
            demand(tracks(square) == 0 && lowestStop(square) == NOTHING, STATE);
            save();
            boolean was = houses.contains(square);
            if (isHouse) {
                houses.add(square);
            } else {
                houses.remove(square);
            }
            return was ? 1 : 0;
        }

        long stop(int square, int player) throws Refused {
            demand(in(square, 0, 79) && in(player, 0, 3), INDEX);
            demand(!houses.contains(square), STATE);
            int free = NOTHING;
            for (int s = 11; s >= 0; s--) {
                if (stops[s] == null) {
                    free = s;
                } else {
                    demand(stops[s][0] != square || stops[s][1] != player, STATE);
                }
            }
            demand(free != NOTHING, STATE);
            save();
            stops[free] = new int[] {square, player};
            return free;
        }

        long drop(int stop) throws Refused {
            demand(in(stop, 0, 11) && stops[stop] != null, INDEX);
            save();
            int square = stops[stop][0];
            stops[stop] = null;
            return square;
        }

        long lay(int player, int die, int direction) throws Refused {
            demand(refusal(player, die, direction) == 0, STATE);
            save();
            return put(player, head[player], direction);
        }

        long branch(int player, int square, int direction) throws Refused {
            demand(in(player, 0, 3) && lines.get(player).contains(square), INDEX);
            demand(in(direction, 0, 3), ARGUMENT);
            demand(reason(player, square, 6, direction) == 0, STATE);
            save();
            return put(player, square, direction);
        }

        long takeUp(int player) throws Refused {
            demand(in(player, 0, 3), INDEX);
            save();
            List<Integer> line = lines.get(player);
            int taken = line.size() - 1;
            while (line.size() > 1) {
                int square = line.remove(1);
                if (owner[square] == player) {
                    owner[square] = NOTHING;
                    for (int p = 3; p >= 0; p--) {
                        owner[square] = lines.get(p).contains(square) ? p : owner[square];
                    }
                }
            }
            head[player] = DEPOTS[player];
            last[player] = NOTHING;
            return taken;
        }

        long give(int player, int more) throws Refused {
            demand(in(player, 0, 3), INDEX);
            demand(in(more, 1, 999), ARGUMENT);
            demand(coins[player] + more <= 99999, STATE);
            save();
            return coins[player] += more;
        }

        long set(int setting, int value) throws Refused {
            demand(in(setting, 0, 2), INDEX);
            demand(setting == 1 ? in(value, 1, 4) : in(value, 0, 9), ARGUMENT);
            save();
            int before = settings[setting];
            settings[setting] = value;
            return before;
        }

        long append(int code) throws Refused {
            demand(in(code, 33, 126), ARGUMENT);
            demand(buffer.length() < 60, STATE);
            buffer += (char) code;
            return buffer.length();
        }

        long clearBuffer() {
            int length = buffer.length();
            buffer = "";
            return length;
        }

        long firstError() {
            int length = buffer.length();
            while (length > 0) {
                Matcher matcher = TURNS.matcher(buffer.substring(0, length));
                // More characters could still make it a match: the start of some turns.
                if (matcher.matches() || matcher.hitEnd()) {
                    break;
                }
                length--;
            }
            return length;
        }

        long play() throws Refused {
            demand(TURNS.matcher(buffer).matches(), ARGUMENT);
            save();
            String[] parts = buffer.split(";");
            buffer = "";
            int laid = 0;
            for (String part : parts) {
                int player = part.charAt(0) - '0';
                for (int i = 2; i < part.length(); i += 2) {
                    int direction = "nesw".indexOf(part.charAt(i + 1));
                    if (reason(player, head[player], part.charAt(i) - '0', direction) != 0) {
                        return laid;
                    }
                    put(player, head[player], direction);
                    laid++;
                }
            }
            return laid;
        }

        long undo() throws Refused {
            demand(!saved.isEmpty(), STATE);
            take(saved.removeLast());
            return saved.size();
        }

        long square(int square, int what) throws Refused {
            demand(in(square, 0, 79), INDEX);
            demand(in(what, 0, 3), ARGUMENT);
            int mask = 0;
            for (int p = 0; p < 4; p++) {
                mask += lines.get(p).contains(square) ? 1 << p : 0;
            }
            int house = houses.contains(square) ? 1 : 0;
            return new int[] {mask, owner[square], house, lowestStop(square)}[what];
        }

        boolean has(int[] stop) {
            return lines.get(stop[1]).contains(stop[0]);
        }

        long stopOf(int stop, int what) throws Refused {
            demand(in(stop, 0, 11), INDEX);
            demand(in(what, 0, 2), ARGUMENT);
            if (stops[stop] == null) {
                return NOTHING;
            }
            return what == 2 ? has(stops[stop]) ? 1 : 0 : stops[stop][what];
        }

        int stopCount(int player, boolean reachedAlone) {
            int n = 0;
            for (int[] stop : stops) {
                n += stop != null && stop[1] == player && (!reachedAlone || has(stop)) ? 1 : 0;
            }
            return n;
        }

        long player(int player, int what) throws Refused {
            demand(in(player, 0, 3), INDEX);
            demand(in(what, 0, 9), ARGUMENT);
            int owned = 0;
            for (int p : owner) {
                owned += p == player ? 1 : 0;
            }
            int all = stopCount(player, false);
            int reached = stopCount(player, true);
            return new int[] {coins[player], lines.get(player).size(), head[player], last[player], owned,
                all, reached, all == reached ? 1 : 0, paid[player], got[player]}[what];
        }

        long refusal(int player, int die, int direction) throws Refused {
            demand(in(player, 0, 3), INDEX);
            demand(in(die, 1, 6) && in(direction, 0, 3), ARGUMENT);
            return reason(player, head[player], die, direction);
        }

        long count(int what) throws Refused {
            demand(in(what, 0, 7), ARGUMENT);
            int there = 0;
            for (int[] stop : stops) {
                there += stop != null ? 1 : 0;
            }
            int joined = 0;
            for (int p = 0; p < 4; p++) {
                joined += stopCount(p, false) == stopCount(p, true) ? 1 : 0;
            }
            int tolls = paid[0] + paid[1] + paid[2] + paid[3];
            return new int[] {houses.size(), there, tracked(1), tracked(2), pieces, tolls, joined, saved.size()}[what];
        }

        int tracked(int atLeast) {
            int n = 0;
            for (int square = 0; square < 80; square++) {
                n += tracks(square) >= atLeast ? 1 : 0;
            }
            return n;
        }

        long setting(int setting) throws Refused {
            demand(in(setting, 0, 2), INDEX);
            return settings[setting];
        }

        /** The least sum over all ways, by asking for ways of one more piece until none is new. */
        int least(int player, int goal, boolean byTolls) {
            int far = 1 << 20;
            int[] sums = new int[80];
            for (int square = 0; square < 80; square++) {
                sums[square] = lines.get(player).contains(square) ? 0 : far;
            }
            for (int length = 0; length < 80; length++) {
                int[] next = sums.clone();
                for (int from = 0; from < 80; from++) {
                    for (int direction = 0; direction < 4 && sums[from] < far; direction++) {
                        int to = step(from, direction);
                        if (to != NOTHING && open(player, to)) {
                            next[to] = Math.min(next[to], sums[from] + (byTolls ? toll(to) : 1));
                        }
                    }
                }
                if (java.util.Arrays.equals(next, sums)) {
                    break;
                }
                sums = next;
            }
            return sums[goal] == far ? NOTHING : sums[goal];
        }

        long away(int player, int square) throws Refused {
            demand(in(player, 0, 3) && in(square, 0, 79), INDEX);
            return least(player, square, false);
        }

        long cheapest(int player, int square) throws Refused {
            demand(in(player, 0, 3) && in(square, 0, 79), INDEX);
            return least(player, square, true);
        }

        long best(int player, int die) throws Refused {
            demand(in(player, 0, 3), INDEX);
            demand(in(die, 1, 6), ARGUMENT);
            int best = NOTHING;
            long bestScore = Long.MAX_VALUE;
            for (int direction = 0; direction < 4; direction++) {
                if (reason(player, head[player], die, direction) != 0) {
                    continue;
                }
                Model then = copy();
                int toll = then.put(player, head[player], direction);
                for (int[] stop : stops) {
                    if (stop == null || stop[1] != player || has(stop)) {
                        continue;
                    }
                    int away = then.least(player, stop[0], false);
                    long score = away * 1000L + toll;
                    if (away != NOTHING && score < bestScore) {
                        best = direction;
                        bestScore = score;
                    }
                }
            }
            return best;
        }

        long ahead() {
            int best = 0;
            for (int p = 1; p < 4; p++) {
                long mine = stopCount(p, true) * 1000000000L + coins[p];
                long other = stopCount(best, true) * 1000000000L + coins[best];
                best = mine > other ? p : best;
            }
            return best;
        }

        double shared() {
            return (double) tracked(2) / tracked(1);
        }

        long digest() throws Refused {
            List<Long> values = new ArrayList<>();
            for (int what = 0; what < 8; what++) {
                values.add(count(what));
            }
            for (int setting : settings) {
                values.add((long) setting);
            }
            for (int i = 0; i < 320; i++) {
                values.add(square(i / 4, i % 4));
            }
            for (int i = 0; i < 36; i++) {
                values.add(stopOf(i / 3, i % 3));
            }
            for (int p = 0; p < 4; p++) {
                for (int what = 0; what < 10; what++) {
                    values.add(player(p, what));
                }
                values.add(away(p, 44));
                values.add(cheapest(p, 44));
                for (int i = 0; i < 24; i++) {
                    values.add(refusal(p, i / 4 + 1, i % 4));
                }
                for (int die = 1; die <= 6; die++) {
                    values.add(best(p, die));
                }
            }
            values.add(ahead());
            values.add(Double.doubleToLongBits(shared()));
            values.add((long) buffer.length());
            for (char c : buffer.toCharArray()) {
                values.add((long) c);
            }
            long hash = 2909;
            for (long value : values) {
                hash = 31 * hash + value;
            }
            return hash;
        }
    }

    private static long seed;

    /** A number of 0 to bound - 1, the same in each run of the test. */
    private static int roll(int bound) {
        seed = seed * 6364136223846793005L + 1442695040888963407L;
        return (int) ((seed >>> 33) % bound);
    }

    /** Mostly in the range, now and then beside it or far out. */
    private static int pick(int low, int high) {
        int kind = roll(60);
        if (kind == 0) {
            return low - 1;
        }
        if (kind == 1) {
            return high + 1;
        }
        if (kind == 2) {
            return new int[] {Integer.MIN_VALUE, Integer.MAX_VALUE, -1000000, 1000000}[roll(4)];
        }
        return low + roll(high - low + 1);
    }

    private static int code() {
        return roll(30) == 0 ? pick(33, 126) : "0123456:;nesw".charAt(roll(13));
    }

    private static String asText(TramTolls x, Model m, int call, int[] a) {
        String model;
        try {
            model = "" + ask(m, call, a);
        } catch (Refused e) {
            model = e.getMessage();
        }
        String real;
        try {
            real = "" + ask(x, call, a);
        } catch (RuntimeException e) {
            real = e.getClass().getSimpleName();
        }
        return model.equals(real) ? null : "answered " + real + ", due is " + model;
    }

    private static Object ask(Model m, int call, int[] a) throws Refused {
        switch (call) {
            case 0: return m.house(a[0], a[1] > 0);
            case 1: return m.stop(a[0], a[1]);
            case 2: return m.drop(a[0]);
            case 3: return m.lay(a[0], a[1], a[2]);
            case 4: return m.branch(a[0], a[1], a[2]);
            case 5: return m.takeUp(a[0]);
            case 6: return m.give(a[0], a[1]);
            case 7: return m.set(a[0], a[1]);
            case 8: return m.append(a[0]);
            case 9: return m.clearBuffer();
            case 10: return m.firstError();
            case 11: return m.play();
            case 12: return m.undo();
            case 13: return m.square(a[0], a[1]);
            case 14: return m.stopOf(a[0], a[1]);
            case 15: return m.player(a[0], a[1]);
            case 16: return m.refusal(a[0], a[1], a[2]);
            case 17: return m.count(a[0]);
            case 18: return m.setting(a[0]);
            case 19: return m.away(a[0], a[1]);
            case 20: return m.cheapest(a[0], a[1]);
            case 21: return m.best(a[0], a[1]);
            case 22: return m.ahead();
            case 23: return m.shared();
            default: return m.digest();
        }
    }

    private static Object ask(TramTolls x, int call, int[] a) {
        switch (call) {
            case 0: return (long) x.house(a[0], a[1] > 0);
            case 1: return (long) x.stop(a[0], a[1]);
            case 2: return (long) x.drop(a[0]);
            case 3: return (long) x.lay(a[0], a[1], a[2]);
            case 4: return (long) x.branch(a[0], a[1], a[2]);
            case 5: return (long) x.takeUp(a[0]);
            case 6: return (long) x.give(a[0], a[1]);
            case 7: return (long) x.set(a[0], a[1]);
            case 8: return (long) x.append(a[0]);
            case 9: return (long) x.clearBuffer();
            case 10: return (long) x.firstError();
            case 11: return (long) x.play();
            case 12: return (long) x.undo();
            case 13: return (long) x.square(a[0], a[1]);
            case 14: return (long) x.stopOf(a[0], a[1]);
            case 15: return (long) x.player(a[0], a[1]);
            case 16: return (long) x.refusal(a[0], a[1], a[2]);
            case 17: return (long) x.count(a[0]);
            case 18: return (long) x.setting(a[0]);
            case 19: return (long) x.away(a[0], a[1]);
            case 20: return (long) x.cheapest(a[0], a[1]);
            case 21: return (long) x.best(a[0], a[1]);
            case 22: return (long) x.ahead();
            case 23: return x.shared();
            default: return x.digest();
        }
    }

    private static int[] arguments(int call, Model m) {
        switch (call) {
            case 0: return new int[] {pick(0, 79), roll(3)};
            case 1: return new int[] {pick(0, 79), pick(0, 3)};
            case 2: return new int[] {pick(0, 11)};
            case 3: return new int[] {pick(0, 3), pick(1, 6), pick(0, 3)};
            case 4: return branchArguments(m);
            case 6: return new int[] {pick(0, 3), roll(3) == 0 ? pick(1, 999) : pick(1, 9)};
            case 7: return settingArguments();
            case 8: return new int[] {code()};
            case 13: return new int[] {pick(0, 79), pick(0, 3)};
            case 14: return new int[] {pick(0, 11), pick(0, 2)};
            case 15: return new int[] {pick(0, 3), pick(0, 9)};
            case 16: return new int[] {pick(0, 3), pick(1, 6), pick(0, 3)};
            case 17: return new int[] {pick(0, 7)};
            case 18: return new int[] {pick(0, 2)};
            case 21: return new int[] {pick(0, 3), pick(1, 6)};
            default: return new int[] {pick(0, 3), pick(0, 79)};
        }
    }

    private static int[] branchArguments(Model m) {
        int player = roll(4);
        List<Integer> line = m.lines.get(player);
        int square = roll(10) == 0 ? pick(0, 79) : line.get(roll(line.size()));
        return new int[] {roll(30) == 0 ? pick(0, 3) : player, square, pick(0, 3)};
    }

    private static int[] settingArguments() {
        int setting = pick(0, 2);
        return new int[] {setting, setting == 1 ? pick(1, 4) : pick(0, 9)};
    }

    private static String turns() {
        StringBuilder text = new StringBuilder();
        int parts = 1 + roll(3);
        for (int i = 0; i < parts; i++) {
            text.append(i > 0 ? ";" : "").append(roll(4)).append(':');
            for (int k = 1 + roll(4); k > 0; k--) {
                text.append(1 + roll(6)).append("nesw".charAt(roll(4)));
            }
        }
        if (roll(10) == 0) {
            text.setCharAt(roll(text.length()), (char) (33 + roll(94)));
        }
        return text.toString();
    }

    /** Which calls a run makes: of all kinds in one, mostly pieces in another. */
    private static int nextCall(int run) {
        if (run % 4 == 0) {
            return roll(25);
        }
        int[] often = {3, 3, 3, 3, 3, 4, 4, 4, 4, 1, 1, 21, 21, 19, 20};
        int[] rare = {0, 0, 0, 2, 5, 6, 7, 12, 13, 14, 15, 16, 17, 22, 23};
        int kind = roll(20);
        if (kind < 14) {
            return often[roll(often.length)];
        }
        return kind < 18 ? rare[roll(rare.length)] : roll(25);
    }

    private static boolean play(int run) {
        seed = run * 7919L + 1;
        TramTolls x = new TramTolls();
        Model m = new Model();
        int calls = 0;
        while (calls < CALLS) {
            List<int[]> due = new ArrayList<>();
            if (roll(25) == 0) {
                due.add(new int[] {9});
                for (char c : turns().toCharArray()) {
                    due.add(new int[] {8, c});
                }
                due.add(new int[] {10});
                due.add(new int[] {11});
            } else {
                int call = nextCall(run);
                int[] a = arguments(call, m);
                due.add(new int[] {call, a[0], a.length > 1 ? a[1] : 0, a.length > 2 ? a[2] : 0});
            }
            if (roll(20) == 0) {
                due.add(new int[] {24});
            }
            for (int[] row : due) {
                int[] a = {row.length > 1 ? row[1] : 0, row.length > 2 ? row[2] : 0, row.length > 3 ? row[3] : 0};
                String fault = asText(x, m, row[0], a);
                calls++;
                if (fault != null) {
                    System.out.println("run " + run + ", call " + calls + ", method " + row[0] + "("
                        + a[0] + ", " + a[1] + ", " + a[2] + "): " + fault);
                    return false;
                }
            }
        }
        return true;
    }

    public static void main(String[] args) {
        int wrong = 0;
        for (int run = 0; run < RUNS; run++) {
            wrong += play(run) ? 0 : 1;
        }
        System.out.println(wrong == 0 ? "the class answers as the model" : wrong + " runs differ");
        if (wrong != 0) {
            System.exit(1);
        }
    }
}
