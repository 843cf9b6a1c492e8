/** What the tests of the edges share: the document's sentences, due answers, refused calls. */
final class Checks {
    static final int N = 0;
    static final int E = 1;
    static final int S = 2;
    static final int W = 3;

    static final Class<?> INDEX = IndexOutOfBoundsException.class;
    static final Class<?> ARGUMENT = IllegalArgumentException.class;
    static final Class<?> STATE = IllegalStateException.class;

    /** Makes objects that are alike, each by the same calls. */
    interface State {
        TramTolls make();
    }

    interface Call {
        Object on(TramTolls x);
    }

    private static String sentence = "";
    private static int tests = 0;
    private static int wrong = 0;

    private Checks() {
    }

    /** One test for one sentence of the document. */
    static void test(String ofDocument, Runnable body) {
        sentence = ofDocument;
        tests++;
        try {
            body.run();
        } catch (RuntimeException e) {
            fault("the test was ended by " + e);
        }
    }

    static void end() {
        System.out.println(wrong == 0 ? tests + " sentences hold" : wrong + " answers are wrong");
        if (wrong != 0) {
            System.exit(1);
        }
    }

    private static void fault(String what) {
        wrong++;
        System.out.println("[" + sentence + "] " + what);
    }

    static void due(String what, Object got, Object want) {
        if (!got.equals(want)) {
            fault(what + ": answered " + got + ", due is " + want);
        }
    }

    /** Each call throws exactly this class, and the object is then like one that was not called. */
    static void refused(Class<?> want, State state, Call... calls) {
        for (int i = 0; i < calls.length; i++) {
            TramTolls x = state.make();
            due("what call " + i + " throws", outcome(x, calls[i]), want);
            alike("call " + i + " changed something", x, state.make());
        }
    }

    /** The class of the exception that a call throws, or its answer. */
    static Object outcome(TramTolls x, Call call) {
        try {
            return call.on(x);
        } catch (RuntimeException e) {
            return e.getClass();
        }
    }

    /** Both objects answer the same, also behind each undo that is left. */
    static void alike(String what, TramTolls x, TramTolls twin) {
        for (int i = 0; i <= 6; i++) {
            due(what + ", digest behind " + i + " undos", x.digest(), twin.digest());
            due(what + ", text behind " + i + " undos", x.firstError(), twin.firstError());
            due(what + ", undo " + i, outcome(x, TramTolls::undo), outcome(twin, TramTolls::undo));
        }
    }

    /** Numbers beside a range and far from it. */
    static int[] outside(int low, int high) {
        return new int[] {low - 1, high + 1, Integer.MIN_VALUE, Integer.MAX_VALUE};
    }

    static TramTolls write(TramTolls x, String text) {
        for (char c : text.toCharArray()) {
            x.append(c);
        }
        return x;
    }

    static TramTolls written(String text) {
        return write(new TramTolls(), text);
    }

    static int turns(TramTolls x, String text) {
        return write(x, text).play();
    }

    static TramTolls played(String text) {
        TramTolls x = new TramTolls();
        turns(x, text);
        return x;
    }

    /**
     * A town with something of everything: the lines 0 to 3 (of the player 0) and 9 to 3
     * (of the player 1, with a toll), a house, stops, a text, and six saved states.
     */
    static TramTolls busy() {
        TramTolls x = played("0:1e3e3e;1:1w3w3w3w3w3w");
        x.house(44, true);
        x.stop(3, 0);
        x.stop(30, 1);
        x.stop(79, 3);
        x.give(2, 5);
        x.set(2, 3);
        return write(x, "2:1n;3");
    }

    /**
     * The player 0 on the square 5 with 2 coins and the last piece eastwards, on the line of
     * the player 1 from 9 to 4; a track costs 9, a piece earns nothing.
     */
    static TramTolls poor() {
        TramTolls x = new TramTolls();
        x.set(2, 0);
        turns(x, "1:1w3w3w3w3w;0:1e3e3e");
        x.set(0, 9);
        x.lay(0, 3, E);
        x.lay(0, 3, E);
        return x;
    }

    /**
     * Four lines that come together: the player 0 has the square 44, and the players 1 to 3
     * are beside it, one straight piece away; a square has room for all, a piece earns nothing.
     */
    static TramTolls meeting() {
        TramTolls x = new TramTolls();
        x.set(2, 0);
        x.set(1, 4);
        turns(x, "0:1e3e3e3e5s3s3s3s;1:1s3s3s3s5w3w3w3w");
        turns(x, "2:1w3w3w3w3w5n3n;3:1n3n3n5e3e3e");
        return x;
    }

    /** The direction of the straight piece that brings each player to 44 in that town. */
    static int towards44(int player) {
        return new int[] {S, W, N, E}[player];
    }

    /** The next step of a way to and fro over the whole town, from the depot 0 or 9. */
    static int snakeStep(int square, int player) {
        int column = square % 10;
        boolean eastwards = square / 10 % 2 == player;
        if (eastwards) {
            return column < 9 ? E : S;
        }
        return column > 0 ? W : S;
    }

    static int beside(int square, int direction) {
        return square + new int[] {-10, 1, 10, -1}[direction];
    }

    /** Lines of the players 0 to players - 1 (at most 2), each on all squares, without tolls. */
    static TramTolls everywhere(int players) {
        TramTolls x = new TramTolls();
        x.set(0, 0);
        x.set(1, 4);
        for (int player = 0; player < players; player++) {
            int square = player == 0 ? 0 : 9;
            for (int i = 0; i < 79; i++) {
                int direction = snakeStep(square, player);
                x.lay(player, 6, direction);
                square = beside(square, direction);
            }
        }
        return x;
    }

    /** Houses on each square but the depots. */
    static TramTolls allHouses() {
        TramTolls x = new TramTolls();
        for (int square = 0; square < 80; square++) {
            if (!isDepot(square)) {
                x.house(square, true);
            }
        }
        return x;
    }

    static boolean isDepot(int square) {
        return square == 0 || square == 9 || square == 79 || square == 70;
    }

    /** All 12 stops, those of the number i on the square 20 + i, of the player i modulo 4. */
    static TramTolls allStops() {
        TramTolls x = new TramTolls();
        for (int i = 0; i < 12; i++) {
            x.stop(20 + i, i % 4);
        }
        return x;
    }

    /** Walls in the rows 1, 3 and 5, each with one gap: at 19, 30 and 59. */
    static TramTolls maze() {
        TramTolls x = new TramTolls();
        for (int column = 0; column < 9; column++) {
            x.house(10 + column, true);
            x.house(31 + column, true);
            x.house(50 + column, true);
        }
        return x;
    }

    /** The digest as the document tells it, from looks; no object is asked more than it may be. */
    static long hash(State state, String text) {
        long h = 2909;
        TramTolls x = state.make();
        for (int what = 0; what < 8; what++) {
            h = 31 * h + x.count(what);
        }
        for (int setting = 0; setting < 3; setting++) {
            h = 31 * h + x.setting(setting);
        }
        for (int half = 0; half < 2; half++) {
            x = state.make();
            for (int i = half * 160; i < half * 160 + 160; i++) {
                h = 31 * h + x.square(i / 4, i % 4);
            }
        }
        x = state.make();
        for (int i = 0; i < 36; i++) {
            h = 31 * h + x.stopOf(i / 3, i % 3);
        }
        for (int player = 0; player < 4; player++) {
            h = hashPlayer(h, x, player);
        }
        h = 31 * h + x.ahead();
        h = 31 * h + Double.doubleToLongBits(x.shared());
        h = 31 * h + text.length();
        for (char c : text.toCharArray()) {
            h = 31 * h + c;
        }
        return h;
    }

    private static long hashPlayer(long start, TramTolls x, int player) {
        long h = start;
        for (int what = 0; what < 10; what++) {
            h = 31 * h + x.player(player, what);
        }
        h = 31 * h + x.away(player, 44);
        h = 31 * h + x.cheapest(player, 44);
        for (int i = 0; i < 24; i++) {
            h = 31 * h + x.refusal(player, i / 4 + 1, i % 4);
        }
        for (int die = 1; die <= 6; die++) {
            h = 31 * h + x.best(player, die);
        }
        return h;
    }
}
