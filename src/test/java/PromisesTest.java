import java.util.concurrent.Callable;

/** Promise by promise: ordinary calls, the edges that the document names, and wrong arguments. */
public final class PromisesTest {
    private static final int N = 0;
    private static final int E = 1;
    private static final int S = 2;
    private static final int W = 3;

    private static final Class<?> INDEX = IndexOutOfBoundsException.class;
    private static final Class<?> ARGUMENT = IllegalArgumentException.class;
    private static final Class<?> STATE = IllegalStateException.class;

    private static int wrong = 0;

    public static void main(String[] args) {
        newObject();
        houses();
        stops();
        drops();
        lays();
        dice();
        tollsAndReasons();
        branches();
        takeUps();
        gives();
        settings();
        appends();
        errors();
        plays();
        undos();
        squares();
        stopsOf();
        players();
        refusals();
        counts();
        aways();
        cheapests();
        bests();
        aheads();
        shares();
        digests();
        System.out.println(wrong == 0 ? "all promises hold" : wrong + " answers are wrong");
        if (wrong != 0) {
            System.exit(1);
        }
    }

    private static void due(String what, Object got, Object want) {
        if (!got.equals(want)) {
            wrong++;
            System.out.println(what + ": answered " + got + ", due is " + want);
        }
    }

    /** The call throws exactly the class, and changes nothing. */
    private static void refused(String what, TramTolls x, Class<?> want, Callable<?> call) {
        long before = x.digest();
        Object got;
        try {
            got = "answer " + call.call();
        } catch (Exception e) {
            got = e.getClass();
        }
        due(what, got, want);
        due(what + " changes nothing", x.digest(), before);
    }

    private static TramTolls write(TramTolls x, String text) {
        for (char c : text.toCharArray()) {
            x.append(c);
        }
        return x;
    }

    private static TramTolls written(String text) {
        return write(new TramTolls(), text);
    }

    private static TramTolls played(String text) {
        TramTolls x = written(text);
        x.play();
        return x;
    }

    // ---- promise 1

    private static void newObject() {
        TramTolls x = new TramTolls();
        int[] depots = {0, 9, 79, 70};
        due("NONE", TramTolls.NONE, -1);
        due("1 houses", x.count(0), 0);
        due("1 stops", x.count(1), 0);
        due("1 tracked squares", x.count(2), 4);
        due("1 saved", x.count(7), 0);
        due("1 lines that join", x.count(6), 4);
        due("1 no stop on the first square", x.square(0, 3), -1);
        due("1 toll", x.setting(0), 2);
        due("1 tracks", x.setting(1), 2);
        due("1 coins a piece", x.setting(2), 1);
        due("1 buffer", x.clearBuffer(), 0);
        for (int p = 0; p < 4; p++) {
            due("1 coins", x.player(p, 0), 20);
            due("1 head", x.player(p, 2), depots[p]);
            due("1 last", x.player(p, 3), -1);
            due("1 depot's track", x.square(depots[p], 0), 1 << p);
            due("1 depot's owner", x.square(depots[p], 1), p);
        }
    }

    // ---- promise 2

    private static void houses() {
        TramTolls x = new TramTolls();
        due("2 build", x.house(12, true), 0);
        due("2 there", x.square(12, 2), 1);
        due("2 again", x.house(12, true), 1);
        due("2 away", x.house(12, false), 1);
        due("2 gone", x.square(12, 2), 0);
        due("2 away again", x.house(12, false), 0);
        due("2 saves each", x.count(7), 4);
        x.stop(20, 3);
        refused("2 low", x, INDEX, () -> x.house(-1, true));
        refused("2 high", x, INDEX, () -> x.house(80, true));
        refused("2 depot", x, STATE, () -> x.house(79, true));
        refused("2 depot, none", x, STATE, () -> x.house(0, false));
        refused("2 stop", x, STATE, () -> x.house(20, true));
        x.drop(0);
        due("2 behind a stop", x.house(20, true), 0);
    }

    // ---- promise 3

    private static void stops() {
        TramTolls x = new TramTolls();
        x.house(13, true);
        due("3 first", x.stop(44, 0), 0);
        due("3 same square", x.stop(44, 1), 1);
        due("3 on a depot", x.stop(0, 0), 2);
        refused("3 twice", x, STATE, () -> x.stop(44, 1));
        refused("3 the first twice", x, STATE, () -> x.stop(44, 0));
        refused("3 house", x, STATE, () -> x.stop(13, 1));
        refused("3 low", x, INDEX, () -> x.stop(-1, 0));
        refused("3 high", x, INDEX, () -> x.stop(80, 0));
        refused("3 player low", x, INDEX, () -> x.stop(4, -1));
        refused("3 player high", x, INDEX, () -> x.stop(13, 4));
        x.drop(1);
        due("3 lowest free", x.stop(3, 1), 1);
        for (int i = 3; i < 12; i++) {
            due("3 next", x.stop(20 + i, 2), i);
        }
        refused("3 twelve", x, STATE, () -> x.stop(60, 2));
    }

    // ---- promise 4

    private static void drops() {
        TramTolls x = new TramTolls();
        x.stop(44, 0);
        x.stop(45, 3);
        due("4 square", x.drop(1), 45);
        due("4 one left", x.count(1), 1);
        due("4 saved", x.count(7), 3);
        refused("4 not there", x, INDEX, () -> x.drop(1));
        refused("4 low", x, INDEX, () -> x.drop(-1));
        refused("4 high", x, INDEX, () -> x.drop(12));
        x.undo();
        due("4 undone", x.stopOf(1, 1), 3);
    }

    // ---- promise 5

    private static void lays() {
        TramTolls x = new TramTolls();
        due("5 free", x.lay(0, 5, S), 0);
        due("5 head", x.player(0, 2), 10);
        due("5 last", x.player(0, 3), S);
        due("5 coins", x.player(0, 0), 21);
        due("5 owner", x.square(10, 1), 0);
        due("5 pieces", x.count(4), 1);
        due("5 saved", x.count(7), 1);
        refused("5 player", x, INDEX, () -> x.lay(4, 0, 4));
        refused("5 player low", x, INDEX, () -> x.lay(-1, 1, 1));
        refused("5 die low", x, ARGUMENT, () -> x.lay(0, 0, S));
        refused("5 die high", x, ARGUMENT, () -> x.lay(0, 7, S));
        refused("5 direction low", x, ARGUMENT, () -> x.lay(0, 1, -1));
        refused("5 direction high", x, ARGUMENT, () -> x.lay(0, 1, 4));
        refused("5 refused", x, STATE, () -> x.lay(0, 1, W));
        refused("5 back", x, STATE, () -> x.lay(0, 1, N));
    }

    private static void dice() {
        // For each die the directions that it allows behind a piece eastwards, as a mask.
        int[] allowed = {0, 7, 7, 2, 2, 5, 15};
        for (int die = 1; die <= 6; die++) {
            TramTolls x = played("0:1e1s1e");
            for (int direction = 0; direction < 4; direction++) {
                boolean may = (allowed[die] >> direction & 1) != 0;
                // Behind the head lies the line itself.
                int reason = !may ? 2 : direction == W ? 4 : 0;
                due("die " + die + " " + direction, x.refusal(0, die, direction), reason);
            }
            TramTolls fresh = new TramTolls();
            due("first piece " + die, fresh.refusal(2, die, N), 0);
            due("first piece west " + die, fresh.refusal(2, die, W), 0);
        }
        // To the left and the right of a piece northwards lie west and east.
        TramTolls y = played("3:1e1e1n");
        due("left of north", y.refusal(3, 5, W), 0);
        due("right of north", y.refusal(3, 5, E), 0);
        due("straight north", y.refusal(3, 5, N), 2);
        due("straight north 3", y.refusal(3, 3, N), 0);
    }

    private static void tollsAndReasons() {
        TramTolls x = played("0:1e3e3e;1:1w3w3w3w3w");
        due("coins before", x.player(1, 0), 25);
        due("5 toll for one track", x.lay(1, 3, W), 2);
        due("5 payer", x.player(1, 0), 24);
        due("5 owner gets", x.player(0, 0), 25);
        due("5 owner stays", x.square(3, 1), 0);
        due("5 both tracks", x.square(3, 0), 3);
        x.set(1, 4);
        play(x, "2:1n3n3n3n3n3n3n1w3w3w3w3w", 12);
        due("coins of a long way", x.player(2, 0), 20);
        due("5 toll for two tracks", x.lay(2, 3, W), 4);
        due("5 all goes to the owner", x.player(0, 0), 29);
        due("5 none to others", x.player(1, 0), 24 + 12);
        due("paid", x.player(2, 8), 16);
        due("got", x.player(0, 9), 6);
        x.set(0, 9);
        due("5 dear", x.lay(2, 3, W), 9);
        due("coins for just one more", x.player(2, 0), 9);
        due("reason none for the last coin", x.refusal(2, 1, W), 0);
        due("5 last coins", x.lay(2, 1, W), 9);
        due("reason 6", x.refusal(2, 1, W), 6);
        refused("5 too dear", x, STATE, () -> x.lay(2, 1, W));
        x.set(1, 1);
        due("reason 5 ahead of 6", x.refusal(2, 1, W), 5);
        x.set(1, 2);
        x.set(0, 0);
        due("reason none without a toll", x.refusal(2, 1, W), 0);
        due("5 no toll", x.lay(2, 1, W), 0);
        due("a full square", x.square(3, 0), 7);
        play(x, "3:1n3n3n3n3n3n", 6);
        due("reason 5 at two tracks", x.refusal(3, 1, N), 5);
        x.set(1, 3);
        due("reason 5 no more", x.refusal(3, 1, N), 0);
        x.set(2, 9);
        x.lay(3, 1, N);
        due("coins by setting 2", x.player(3, 0), 20 + 6 + 9);
    }

    private static void play(TramTolls x, String text, int laid) {
        due("play " + text, write(x, text).play(), laid);
    }

    // ---- promise 6

    private static void branches() {
        TramTolls x = played("0:1e3e3e");
        refused("6 player", x, INDEX, () -> x.branch(4, 1, 4));
        refused("6 player low", x, INDEX, () -> x.branch(-1, 1, S));
        refused("6 square", x, INDEX, () -> x.branch(0, 4, 4));
        refused("6 square low", x, INDEX, () -> x.branch(0, -1, S));
        refused("6 square high", x, INDEX, () -> x.branch(0, 80, S));
        refused("6 other line", x, INDEX, () -> x.branch(0, 9, S));
        refused("6 direction", x, ARGUMENT, () -> x.branch(0, 1, 4));
        refused("6 direction low", x, ARGUMENT, () -> x.branch(0, 1, -1));
        refused("6 leaves", x, STATE, () -> x.branch(0, 1, N));
        refused("6 own", x, STATE, () -> x.branch(0, 1, W));
        due("6 from within", x.branch(0, 1, S), 0);
        due("6 head", x.player(0, 2), 11);
        due("6 last", x.player(0, 3), S);
        due("6 pieces", x.count(4), 4);
        due("6 saved", x.count(7), 2);
        due("6 from the head", x.branch(0, 11, W), 0);
        due("6 from the other end", x.branch(0, 3, E), 0);
        play(x, "3:1n3n3n3n3n", 5);
        due("6 toll", x.branch(3, 20, N), 2);
    }

    // ---- promise 7

    private static void takeUps() {
        TramTolls x = played("0:1e3e3e;1:1w3w3w3w3w3w");
        x.set(1, 4);
        play(x, "2:1n3n3n3n3n3n3n1w3w3w3w3w3w3w", 14);
        int coins = x.player(0, 0);
        due("7 tracks", x.takeUp(0), 3);
        due("7 head", x.player(0, 2), 0);
        due("7 last", x.player(0, 3), -1);
        due("7 depot stays", x.square(0, 0), 1);
        due("7 depot's owner", x.square(0, 1), 0);
        due("7 lowest other", x.square(3, 1), 1);
        due("7 only other", x.square(2, 1), 2);
        due("7 none", x.square(1, 1), -1);
        due("7 other tracks stay", x.square(3, 0), 6);
        due("7 coins stay", x.player(0, 0), coins);
        due("7 pieces stay counted", x.count(4), 23);
        due("7 tolls stay counted", x.player(0, 9), 2 + 4 + 2);
        due("7 of no owner", x.takeUp(2), 14);
        due("7 owner stays", x.square(3, 1), 1);
        due("7 depot of another", x.square(9, 1), 1);
        due("7 not there any more", x.square(2, 0), 0);
        due("7 empty line", x.takeUp(2), 0);
        due("7 saved", x.count(7), 6);
        due("7 any direction again", x.refusal(2, 3, W), 0);
        refused("7 low", x, INDEX, () -> x.takeUp(-1));
        refused("7 high", x, INDEX, () -> x.takeUp(4));
        // A lower player can be the next owner of a higher one's square.
        TramTolls y = played("1:1w3w3w3w3w3w;0:1e3e3e");
        due("7 owned by 1", y.square(3, 1), 1);
        y.takeUp(1);
        due("7 then by 0", y.square(3, 1), 0);
    }

    // ---- promise 8

    private static void gives() {
        TramTolls x = new TramTolls();
        due("8 one", x.give(2, 1), 21);
        due("8 most", x.give(2, 999), 1020);
        due("8 others", x.player(1, 0), 20);
        due("8 saved", x.count(7), 2);
        refused("8 player", x, INDEX, () -> x.give(4, 0));
        refused("8 player low", x, INDEX, () -> x.give(-1, 5));
        refused("8 none", x, ARGUMENT, () -> x.give(0, 0));
        refused("8 too many", x, ARGUMENT, () -> x.give(0, 1000));
        for (int i = 0; i < 99; i++) {
            x.give(2, 999);
        }
        due("8 to the limit", x.give(2, 99999 - 1020 - 99 * 999), 99999);
        refused("8 limit", x, STATE, () -> x.give(2, 1));
        refused("8 argument first", x, ARGUMENT, () -> x.give(2, 0));
        x.lay(2, 1, N);
        due("8 more by a piece", x.player(2, 0), 100000);
        refused("8 still", x, STATE, () -> x.give(2, 1));
    }

    // ---- promises 9 and 20

    private static void settings() {
        TramTolls x = new TramTolls();
        due("9 toll", x.set(0, 9), 2);
        due("9 toll again", x.set(0, 0), 9);
        due("9 tracks", x.set(1, 4), 2);
        due("9 tracks again", x.set(1, 1), 4);
        due("9 coins", x.set(2, 9), 1);
        due("9 coins again", x.set(2, 0), 9);
        due("9 saved", x.count(7), 6);
        due("20 toll", x.setting(0), 0);
        due("20 tracks", x.setting(1), 1);
        due("20 coins", x.setting(2), 0);
        int[][] beyond = {{0, -1}, {0, 10}, {1, 0}, {1, 5}, {2, -1}, {2, 10}};
        for (int[] pair : beyond) {
            refused("9 value " + pair[0], x, ARGUMENT, () -> x.set(pair[0], pair[1]));
        }
        refused("9 low", x, INDEX, () -> x.set(-1, 99));
        refused("9 high", x, INDEX, () -> x.set(3, 99));
        refused("20 low", x, INDEX, () -> x.setting(-1));
        refused("20 high", x, INDEX, () -> x.setting(3));
    }

    // ---- promises 10 and 11

    private static void appends() {
        TramTolls x = new TramTolls();
        refused("10 low", x, ARGUMENT, () -> x.append(32));
        refused("10 high", x, ARGUMENT, () -> x.append(127));
        due("10 lowest", x.append(33), 1);
        due("10 highest", x.append(126), 2);
        for (int i = 3; i <= 60; i++) {
            due("10 length", x.append('0'), i);
        }
        refused("10 full", x, STATE, () -> x.append('0'));
        refused("10 full, argument first", x, ARGUMENT, () -> x.append(32));
        due("10 not undoable", x.count(7), 0);
        due("11 length", x.clearBuffer(), 60);
        due("11 cleared", x.clearBuffer(), 0);
        due("11 not undoable", x.count(7), 0);
        due("11 from the start", x.append('0'), 1);
    }

    // ---- promise 12

    private static void errors() {
        String[] right = {"", "0", "3:", "0:1", "0:6n", "0:1n2e3s4w5n6e", "0:1n;", "0:1n;3:6w", "0:1n;0:1n;1:2e3e"};
        for (String text : right) {
            due("12 " + text, written(text).firstError(), text.length());
        }
        Object[][] faults = {{"4:1n", 0}, {"/", 0}, {":", 0}, {";", 0}, {"n", 0}, {"01", 1}, {"0;", 1},
            {"0:0n", 2}, {"0:7n", 2}, {"0:n", 2}, {"0:;", 2}, {"0:1x", 3}, {"0:11", 3}, {"0:1N", 3}, {"0:1;", 3},
            {"0:1n:", 4}, {"0:1nn", 4}, {"0:1n0", 4}, {"0:1n7", 4}, {"0:1n;;", 5}, {"0:1n;4", 5}, {"0:1n;1e", 6}};
        for (Object[] fault : faults) {
            due("12 " + fault[0], written((String) fault[0] + "zz").firstError(), fault[1]);
        }
    }

    // ---- promise 13

    private static void plays() {
        TramTolls x = written("0:1e3e5s;1:1w");
        due("13 all", x.play(), 4);
        due("13 cleared", x.clearBuffer(), 0);
        due("13 head", x.player(0, 2), 12);
        due("13 head of 1", x.player(1, 2), 8);
        due("13 one saved state", x.count(7), 1);
        play(x, "0:3s3e3s;1:1w", 1);
        due("13 stops at the first", x.player(1, 2), 8);
        play(x, "2:1s;1:1w", 0);
        due("13 saved also if none", x.count(7), 3);
        due("13 undone", x.undo(), 2);
        due("13 undone twice", x.undo(), 1);
        due("13 as one", x.undo(), 0);
        due("13 all undone", x.count(4), 0);
        for (String text : new String[] {"", "0", "0:", "0:1", "0:1e;", "0:1e;1", "x", "0:1ex", "0:1e;1:7e"}) {
            TramTolls y = written(text);
            refused("13 " + text, y, ARGUMENT, y::play);
            due("13 buffer stays " + text, y.clearBuffer(), text.length());
        }
        TramTolls z = played("0:1e1s;0:3s");
        due("13 player again", z.player(0, 2), 21);
        play(z, "0:3s3s3s3s", 4);
        play(z, "1:1w;3:1n", 2);
    }

    // ---- promise 14

    private static void undos() {
        TramTolls x = new TramTolls();
        refused("14 none", x, STATE, x::undo);
        String[] states = new String[9];
        for (int i = 0; i < 9; i++) {
            states[i] = counted(x);
            x.give(0, i + 1);
            due("14 saved", x.count(7), Math.min(i + 1, 6));
        }
        x.append('0');
        for (int i = 8; i >= 3; i--) {
            due("14 left", x.undo(), i - 3);
            x.clearBuffer();
            due("14 state " + i, counted(x), states[i]);
            x.append('0');
        }
        refused("14 oldest dropped", x, STATE, x::undo);
        due("14 buffer stays", x.clearBuffer(), 1);
        // The first saved state is not always that of a new object.
        x.give(1, 5);
        due("14 first again", x.undo(), 0);
        due("14 state 3 again", counted(x), states[3]);
        TramTolls z = played("0:1e3e3e;1:1w3w3w3w3w");
        long ahead = z.digest();
        z.lay(1, 3, W);
        z.takeUp(0);
        due("14 owner by a taken line", z.square(3, 1), 1);
        z.undo();
        due("14 owner", z.square(3, 1), 0);
        z.undo();
        due("14 tolls paid", z.player(1, 8), 0);
        due("14 tolls got", z.player(0, 9), 0);
        due("14 all of a toll", z.digest(), ahead);
        TramTolls y = played("0:1e3e");
        y.stop(2, 0);
        y.house(44, true);
        y.set(0, 7);
        y.takeUp(0);
        long before = y.digest();
        y.takeUp(0);
        y.undo();
        due("14 all of it", y.digest(), before);
        y.undo();
        due("14 line again", y.player(0, 1), 3);
        due("14 head again", y.player(0, 2), 2);
        due("14 last again", y.player(0, 3), E);
        y.undo();
        due("14 setting", y.setting(0), 2);
        y.undo();
        due("14 house", y.square(44, 2), 0);
        y.undo();
        due("14 stop", y.square(2, 3), -1);
        y.undo();
        due("14 pieces", y.count(4), 0);
        due("14 coins", y.player(0, 0), 20);
    }

    /** Looks at what is counted, the coins and the settings, but not at the saved states. */
    private static String counted(TramTolls x) {
        StringBuilder looks = new StringBuilder();
        for (int i = 0; i < 7; i++) {
            looks.append(x.count(i)).append(' ');
        }
        for (int i = 0; i < 4; i++) {
            looks.append(x.player(i, 0)).append(' ').append(x.player(i, 2)).append(' ');
        }
        for (int i = 0; i < 3; i++) {
            looks.append(x.setting(i)).append(' ');
        }
        return looks.toString();
    }

    // ---- promise 15

    private static void squares() {
        TramTolls x = played("0:1e3e3e;1:1w3w3w3w3w3w");
        x.house(5 + 10, true);
        x.stop(3, 2);
        x.stop(3, 0);
        int[] due = {3, 0, 0, 0};
        int[] empty = {0, -1, 0, -1};
        int[] house = {0, -1, 1, -1};
        for (int what = 0; what < 4; what++) {
            due("15 shared " + what, x.square(3, what), due[what]);
            due("15 empty " + what, x.square(44, what), empty[what]);
            due("15 house " + what, x.square(15, what), house[what]);
        }
        x.drop(0);
        due("15 lowest stop", x.square(3, 3), 1);
        refused("15 low", x, INDEX, () -> x.square(-1, 9));
        refused("15 high", x, INDEX, () -> x.square(80, 9));
        refused("15 what low", x, ARGUMENT, () -> x.square(0, -1));
        refused("15 what high", x, ARGUMENT, () -> x.square(0, 4));
    }

    // ---- promise 16

    private static void stopsOf() {
        TramTolls x = played("0:1e3e");
        x.stop(2, 1);
        x.stop(2, 0);
        due("16 square", x.stopOf(0, 0), 2);
        due("16 player", x.stopOf(0, 1), 1);
        due("16 other line", x.stopOf(0, 2), 0);
        due("16 own line", x.stopOf(1, 2), 1);
        for (int what = 0; what < 3; what++) {
            due("16 not there", x.stopOf(11, what), -1);
        }
        refused("16 low", x, INDEX, () -> x.stopOf(-1, 9));
        refused("16 high", x, INDEX, () -> x.stopOf(12, 9));
        refused("16 what low", x, ARGUMENT, () -> x.stopOf(11, -1));
        refused("16 what high", x, ARGUMENT, () -> x.stopOf(0, 3));
    }

    // ---- promise 17

    private static void players() {
        TramTolls x = played("0:1e3e3e;1:1w3w3w3w3w3w");
        x.stop(3, 0);
        x.stop(8, 0);
        x.stop(3, 1);
        int[] first = {25, 4, 3, E, 4, 2, 1, 0, 0, 2};
        int[] second = {24, 7, 3, W, 6, 1, 1, 1, 2, 0};
        int[] third = {20, 1, 79, -1, 1, 0, 0, 1, 0, 0};
        for (int what = 0; what < 10; what++) {
            due("17 player 0, " + what, x.player(0, what), first[what]);
            due("17 player 1, " + what, x.player(1, what), second[what]);
            due("17 player 2, " + what, x.player(2, what), third[what]);
        }
        refused("17 low", x, INDEX, () -> x.player(-1, 99));
        refused("17 high", x, INDEX, () -> x.player(4, 99));
        refused("17 what low", x, ARGUMENT, () -> x.player(0, -1));
        refused("17 what high", x, ARGUMENT, () -> x.player(0, 10));
    }

    // ---- promise 18

    private static void refusals() {
        TramTolls x = played("0:1e");
        x.house(11, true);
        due("18 1 ahead of 2", x.refusal(0, 3, N), 1);
        due("18 2 ahead of 3", x.refusal(0, 3, S), 2);
        due("18 3", x.refusal(0, 1, S), 3);
        due("18 2 ahead of 4", x.refusal(0, 1, W), 2);
        due("18 4", x.refusal(0, 6, W), 4);
        due("18 none", x.refusal(0, 4, E), 0);
        x.set(1, 1);
        due("18 4 ahead of 5", x.refusal(0, 6, W), 4);
        refused("18 low", x, INDEX, () -> x.refusal(-1, 0, 0));
        refused("18 high", x, INDEX, () -> x.refusal(4, 0, 0));
        refused("18 die low", x, ARGUMENT, () -> x.refusal(0, 0, 0));
        refused("18 die high", x, ARGUMENT, () -> x.refusal(0, 7, 0));
        refused("18 direction low", x, ARGUMENT, () -> x.refusal(0, 1, -1));
        refused("18 direction high", x, ARGUMENT, () -> x.refusal(0, 1, 4));
    }

    // ---- promise 19

    private static void counts() {
        TramTolls x = played("0:1e3e3e;1:1w3w3w3w3w3w");
        x.house(44, true);
        x.house(45, true);
        x.stop(3, 0);
        x.stop(4, 0);
        x.stop(30, 1);
        x.stop(79, 2);
        x.drop(2);
        int[] due = {2, 3, 4 + 3 + 5, 1, 9, 2, 3, 6};
        for (int what = 0; what < 8; what++) {
            due("19 " + what, x.count(what), due[what]);
        }
        refused("19 low", x, ARGUMENT, () -> x.count(-1));
        refused("19 high", x, ARGUMENT, () -> x.count(8));
    }

    // ---- promise 21

    private static void aways() {
        TramTolls x = new TramTolls();
        due("21 own", x.away(0, 0), 0);
        due("21 across", x.away(0, 78), 15);
        due("21 a depot", x.away(0, 79), 16);
        play(x, "0:1s3s3s", 3);
        due("21 from any square", x.away(0, 2), 2);
        due("21 from the end", x.away(0, 32), 2);
        x.set(1, 1);
        due("21 full", x.away(0, 79), -1);
        x.house(32, true);
        due("21 a house", x.away(0, 32), -1);
        due("21 round a house", x.away(0, 33), 4);
        due("21 round it farther down", x.away(0, 42), 3);
        x.house(40, true);
        due("21 past two houses", x.away(0, 42), 3);
        x.set(1, 2);
        TramTolls y = new TramTolls();
        y.house(1, true);
        y.house(10, true);
        due("21 shut in", y.away(0, 11), -1);
        due("21 shut out", y.away(1, 0), -1);
        due("21 itself", y.away(0, 0), 0);
        refused("21 low", y, INDEX, () -> y.away(-1, 0));
        refused("21 high", y, INDEX, () -> y.away(4, 0));
        refused("21 square low", y, INDEX, () -> y.away(0, -1));
        refused("21 square high", y, INDEX, () -> y.away(0, 80));
        // A line across the town is a wall while a square has room for one track alone.
        TramTolls z = played("3:1e3e3e3e3e3e;0:1s3s3s3s3s3s");
        z.branch(3, 76, N);
        z.set(1, 1);
        due("21 past the end", z.away(0, 77), 9);
    }

    // ---- promise 22

    private static void cheapests() {
        TramTolls x = new TramTolls();
        due("22 depot of another", x.cheapest(1, 0), 2);
        due("22 own", x.cheapest(0, 0), 0);
        due("22 free", x.cheapest(0, 44), 0);
        due("22 a depot", x.cheapest(0, 9), 2);
        // Player 1's line down the column 5, from the row 0 to the row 6.
        play(x, "1:1w3w3w3w5s3s3s3s3s3s", 10);
        due("22 round the end", x.cheapest(0, 26), 0);
        due("22 on the line", x.cheapest(0, 25), 2);
        x.house(75, true);
        due("22 across", x.cheapest(0, 26), 2);
        x.set(0, 9);
        due("22 dearer", x.cheapest(0, 26), 9);
        due("22 beyond the coins", x.cheapest(0, 9), 18);
        x.set(0, 3);
        play(x, "0:1e3e3e3e3e", 5);
        due("22 two tracks are full", x.away(1, 5), 0);
        x.set(1, 3);
        due("22 for each track", x.cheapest(2, 5), 3 + 6);
        due("22 from the line", x.cheapest(0, 6), 3);
        x.set(1, 1);
        due("22 full", x.cheapest(2, 5), -1);
        due("22 a house", x.cheapest(2, 75), -1);
        refused("22 low", x, INDEX, () -> x.cheapest(-1, 0));
        refused("22 high", x, INDEX, () -> x.cheapest(4, 0));
        refused("22 square low", x, INDEX, () -> x.cheapest(0, -1));
        refused("22 square high", x, INDEX, () -> x.cheapest(0, 80));
    }

    // ---- promise 23

    private static void bests() {
        TramTolls x = new TramTolls();
        due("23 without stops", x.best(0, 1), -1);
        x.stop(0, 0);
        due("23 stops it has", x.best(0, 1), -1);
        x.stop(33, 0);
        x.stop(20, 1);
        due("23 lowest of equal ones", x.best(0, 1), E);
        x.house(1, true);
        due("23 round a house", x.best(0, 1), S);
        play(x, "0:1s", 1);
        due("23 straight", x.best(0, 3), S);
        due("23 to a side", x.best(0, 5), E);
        x.stop(20, 0);
        due("23 the nearest", x.best(0, 1), S);
        due("23 not allowed", x.best(0, 5), E);
        x.drop(1);
        x.drop(3);
        due("23 no more", x.best(0, 1), -1);
        // The piece towards the stop costs a toll, that to the other side none.
        TramTolls y = played("0:1e3e3e3e;1:1w3w5s5w");
        y.stop(26, 1);
        due("head", y.player(1, 2), 16);
        due("23 stop itself", y.best(1, 1), S);
        // Away is the same for both, and the toll is not.
        TramTolls z = new TramTolls();
        play(z, "0:1e3e3e3e3e3e3e3e", 8);
        play(z, "1:1s5w", 2);
        z.stop(6, 1);
        due("23 head of 1", z.player(1, 2), 18);
        due("23 the least toll", z.best(1, 1), W);
        TramTolls u = played("0:1e3e3e3e3e3e3e3e;2:1n3n3n3n3n3n1w");
        u.stop(7, 2);
        u.stop(8, 2);
        due("23 away ahead of toll", u.best(2, 1), N);
        u.drop(1);
        due("23 then toll", u.best(2, 1), W);
        u.house(17, true);
        due("23 toll if there is no other", u.best(2, 1), N);
        u.set(1, 1);
        due("23 none is left", u.best(2, 1), -1);
        // Pieces from other squares of the line may be the nearest ones behind any piece.
        TramTolls v = played("0:1s3s3s");
        v.stop(2, 0);
        due("23 none is nearer", v.best(0, 1), E);
        TramTolls w = played("0:1e3e3e");
        w.stop(20, 0);
        due("23 nearest from the depot", w.best(0, 1), E);
        refused("23 low", x, INDEX, () -> x.best(-1, 0));
        refused("23 high", x, INDEX, () -> x.best(4, 0));
        refused("23 die low", x, ARGUMENT, () -> x.best(0, 0));
        refused("23 die high", x, ARGUMENT, () -> x.best(0, 7));
    }

    // ---- promise 24

    private static void aheads() {
        TramTolls x = new TramTolls();
        due("24 lowest", x.ahead(), 0);
        x.give(2, 1);
        due("24 coins", x.ahead(), 2);
        x.give(3, 1);
        due("24 lowest of the rich", x.ahead(), 2);
        x.stop(9, 1);
        due("24 stops", x.ahead(), 1);
        x.stop(0, 0);
        x.stop(44, 0);
        due("24 stops reached alone", x.ahead(), 0);
        x.give(1, 1);
        due("24 equal stops", x.ahead(), 1);
    }

    // ---- promise 25

    private static void shares() {
        TramTolls x = new TramTolls();
        due("25 none", x.shared(), 0.0);
        play(x, "0:1e3e3e;1:1w3w3w3w3w3w", 9);
        due("25 one of twelve", x.shared(), 1.0 / 12);
        x.lay(1, 3, W);
        due("25 two of twelve", x.shared(), 2.0 / 12);
        x.set(1, 4);
        x.lay(1, 3, W);
        play(x, "1:3w", 1);
        due("25 the depot too", x.shared(), 4.0 / 12);
    }

    // ---- promise 26

    private static void digests() {
        String text = "0:1e3e3e;1:1w3w3w3w3w3w";
        digestOf("new", TramTolls::new, "");
        digestOf("with a text", () -> written(text), text);
        Checks.State crossed = () -> played(text);
        digestOf("shared", crossed, "");
        Checks.State stops = () -> {
            TramTolls x = crossed.make();
            x.stop(33, 0);
            x.stop(70, 1);
            x.house(15, true);
            return x;
        };
        digestOf("stops", stops, "");
        Checks.State moreShared = () -> {
            TramTolls x = stops.make();
            x.set(1, 4);
            play(x, "1:3w3w3w", 3);
            return x;
        };
        digestOf("more shared", moreShared, "");
        Checks.State rich = () -> {
            TramTolls x = moreShared.make();
            x.give(3, 99);
            play(x, "2:1w3w3w3w3w5n3n3n", 8);
            return x;
        };
        due("26 a dear square 44", rich.make().cheapest(0, 44), 2);
        due("26 ahead", rich.make().ahead(), 3);
        digestOf("who is ahead", rich, "");
        digestOf("any codes", () -> write(rich.make(), "~!"), "~!");
    }

    private static void digestOf(String what, Checks.State state, String text) {
        due("26 " + what, state.make().digest(), Checks.hash(state, text));
    }
}
