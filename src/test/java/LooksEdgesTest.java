/** The edges of the promises 15 to 26: looks, ways, who is ahead, the share and the digest. */
public final class LooksEdgesTest {
    private static final int N = Checks.N;
    private static final int E = Checks.E;
    private static final int S = Checks.S;
    private static final int W = Checks.W;

    private static final Class<?> INDEX = Checks.INDEX;
    private static final Class<?> ARGUMENT = Checks.ARGUMENT;
    private static final int[] NO_SQUARES = Checks.outside(0, 79);
    private static final int[] NO_PLAYERS = Checks.outside(0, 3);
    private static final int[] NO_DICE = Checks.outside(1, 6);

    public static void main(String[] args) {
        Checks.test("looks; nothing is changed", LooksEdgesTest::looksChangeNothing);
        Checks.test("what would be; nothing is changed", LooksEdgesTest::whatWouldBeChangesNothing);
        Checks.test("15: IndexOutOfBounds if there is no such square", LooksEdgesTest::noSquare);
        Checks.test("15: IllegalArgument if what is not 0 to 3", LooksEdgesTest::nothingOfSquare);
        Checks.test("15: players who have a track there, as a mask", LooksEdgesTest::masks);
        Checks.test("15: its owner, NONE without one", LooksEdgesTest::owners);
        Checks.test("15: 1 if there is a house, otherwise 0", LooksEdgesTest::housesOfSquares);
        Checks.test("15: the lowest stop there, NONE without one", LooksEdgesTest::lowestStops);
        Checks.test("16: IndexOutOfBounds if stop is out of range", LooksEdgesTest::noStop);
        Checks.test("16: IllegalArgument if what is not 0 to 2", LooksEdgesTest::nothingOfStop);
        Checks.test("16: NONE if it is not there", LooksEdgesTest::stopNotThere);
        Checks.test("16: 1 if the line of the player is there, otherwise 0", LooksEdgesTest::lineAtStop);
        Checks.test("17: IndexOutOfBounds if there is no such player", LooksEdgesTest::noPlayer);
        Checks.test("17: IllegalArgument if what is not 0 to 9", LooksEdgesTest::nothingOfPlayer);
        Checks.test("17: a line of a depot alone, and one of all squares", LooksEdgesTest::leastAndMostOfPlayer);
        Checks.test("17: stops of a line, none and all", LooksEdgesTest::stopsOfPlayer);
        Checks.test("18: IndexOutOfBounds if there is no such player", LooksEdgesTest::refusalOfNoPlayer);
        Checks.test("18: IllegalArgument if die or direction is out of range", LooksEdgesTest::refusalOutOfRange);
        Checks.test("18: 0 if it would not be", LooksEdgesTest::refusalAsLay);
        Checks.test("19: IllegalArgument if what is not 0 to 7", LooksEdgesTest::countOfNothing);
        Checks.test("19: the least and the most of each", LooksEdgesTest::leastAndMostCounts);
        Checks.test("19: squares with tracks of two or more players", LooksEdgesTest::sharedSquares);
        Checks.test("20: IndexOutOfBounds if there is no such setting", LooksEdgesTest::noSetting);
        Checks.test("21: IndexOutOfBounds if there is no such player or square", LooksEdgesTest::awayFromNothing);
        Checks.test("21: 0 if it has it", LooksEdgesTest::awayFromItself);
        Checks.test("21: the fewest pieces, from any square of the line", LooksEdgesTest::fewestPieces);
        Checks.test("21: NONE if there is no such way", LooksEdgesTest::noWay);
        Checks.test("21: refused by the reasons 1, 3, 4 and 5 alone", LooksEdgesTest::noOtherReasons);
        Checks.test("21: long ways", LooksEdgesTest::longWays);
        Checks.test("22: IndexOutOfBounds if there is no such player or square", LooksEdgesTest::cheapestToNothing);
        Checks.test("22: 0 if it has the square", LooksEdgesTest::cheapestToItself);
        Checks.test("22: NONE if there is no such way", LooksEdgesTest::noCheapWay);
        Checks.test("22: of any length", LooksEdgesTest::cheapAndLong);
        Checks.test("22: the least sum of tolls", LooksEdgesTest::sumsOfTolls);
        Checks.test("21 to 23: with what is there now", LooksEdgesTest::waysOfNow);
        Checks.test("23: IndexOutOfBounds if there is no such player", LooksEdgesTest::bestOfNoPlayer);
        Checks.test("23: IllegalArgument if die is out of range", LooksEdgesTest::bestOutOfRange);
        Checks.test("23: NONE if it could come to no such stop", LooksEdgesTest::bestWithoutStops);
        Checks.test("23: NONE if there is no such direction", LooksEdgesTest::bestOfShutInHead);
        Checks.test("23: a piece from the head would not be refused", LooksEdgesTest::bestIsNotRefused);
        Checks.test("23: 0 if the piece comes to one", LooksEdgesTest::bestComesToStop);
        Checks.test("23: of several the least toll, of these the lowest", LooksEdgesTest::bestOfEqualOnes);
        Checks.test("23: least away, whatever the toll", LooksEdgesTest::bestIsNearest);
        Checks.test("23: the nearest of the stops", LooksEdgesTest::nearestOfStops);
        Checks.test("23: away from any square of the line", LooksEdgesTest::bestFromDepot);
        Checks.test("24: most of the stops, the most coins, the lowest", LooksEdgesTest::ahead);
        Checks.test("24: stops that belong to the own line", LooksEdgesTest::aheadByOwnStops);
        Checks.test("25: none and all of the town", LooksEdgesTest::leastAndMostShared);
        Checks.test("25: as a double", LooksEdgesTest::fractions);
        Checks.test("26: empty and full states", LooksEdgesTest::digestsOfEdges);
        Checks.test("26: the bits of shared", LooksEdgesTest::digestsOfShares);
        Checks.test("26: the buffer's codes", LooksEdgesTest::digestsOfTexts);
        Checks.end();
    }

    private static void due(String what, Object got, Object want) {
        Checks.due(what, got, want);
    }

    private static void looksChangeNothing() {
        TramTolls x = Checks.busy();
        for (int i = 0; i < 60; i++) {
            x.square(i, i % 4);
            x.stopOf(i % 12, i % 3);
            x.player(i % 4, i % 10);
            x.refusal(i % 4, i % 6 + 1, i / 6 % 4);
            x.count(i % 8);
            x.setting(i % 3);
        }
        Checks.alike("looks", x, Checks.busy());
    }

    private static void whatWouldBeChangesNothing() {
        TramTolls x = Checks.busy();
        for (int i = 0; i < 70; i++) {
            x.away(i % 4, i);
            x.cheapest(i % 4, i);
            x.best(i % 4, i % 6 + 1);
            x.ahead();
            x.shared();
            x.digest();
        }
        Checks.alike("what would be", x, Checks.busy());
    }

    // ---- promise 15

    private static void noSquare() {
        for (int square : NO_SQUARES) {
            Checks.refused(INDEX, Checks::busy, x -> x.square(square, 0), x -> x.square(square, 3));
            Checks.refused(INDEX, Checks::busy, x -> x.square(square, -1), x -> x.square(square, 4));
        }
    }

    private static void nothingOfSquare() {
        for (int what : Checks.outside(0, 3)) {
            Checks.refused(ARGUMENT, Checks::busy, x -> x.square(0, what), x -> x.square(79, what));
        }
    }

    private static void masks() {
        TramTolls x = Checks.meeting();
        due("none", x.square(22, 0), 0);
        due("one", x.square(44, 0), 1);
        x.lay(3, 3, E);
        due("the first and the last player", x.square(44, 0), 9);
        x.lay(2, 3, N);
        x.lay(1, 3, W);
        due("all", x.square(44, 0), 15);
        due("the first square", x.square(0, 0), 1);
        due("the last square", x.square(79, 0), 4);
    }

    private static void owners() {
        TramTolls x = new TramTolls();
        due("none", x.square(44, 1), -1);
        due("the first square", x.square(0, 1), 0);
        due("the last square", x.square(79, 1), 2);
        x.house(44, true);
        x.stop(45, 1);
        due("a house has none", x.square(44, 1), -1);
        due("a stop has none", x.square(45, 1), -1);
    }

    private static void housesOfSquares() {
        TramTolls x = Checks.allHouses();
        for (int square = 0; square < 80; square++) {
            due("house on " + square, x.square(square, 2), Checks.isDepot(square) ? 0 : 1);
        }
    }

    private static void lowestStops() {
        TramTolls x = new TramTolls();
        due("none", x.square(0, 3), -1);
        x.stop(44, 2);
        x.stop(0, 3);
        x.stop(44, 0);
        x.stop(79, 1);
        due("of two", x.square(44, 3), 0);
        due("on the first square", x.square(0, 3), 1);
        due("on the last square", x.square(79, 3), 3);
        x.drop(0);
        due("the other", x.square(44, 3), 2);
        x.stop(44, 1);
        due("put again", x.square(44, 3), 0);
        x.drop(0);
        x.drop(2);
        due("none again", x.square(44, 3), -1);
        TramTolls y = Checks.allStops();
        due("the last of twelve", y.square(31, 3), 11);
    }

    // ---- promise 16

    private static void noStop() {
        for (int stop : Checks.outside(0, 11)) {
            Checks.refused(INDEX, Checks::busy, x -> x.stopOf(stop, 0), x -> x.stopOf(stop, 2));
            Checks.refused(INDEX, Checks::allStops, x -> x.stopOf(stop, 3), x -> x.stopOf(stop, -1));
        }
    }

    private static void nothingOfStop() {
        for (int what : Checks.outside(0, 2)) {
            // Also of a stop that is not there.
            Checks.refused(ARGUMENT, Checks::busy, x -> x.stopOf(0, what), x -> x.stopOf(11, what));
            Checks.refused(ARGUMENT, TramTolls::new, x -> x.stopOf(0, what));
        }
    }

    private static void stopNotThere() {
        TramTolls x = Checks.allStops();
        for (int what = 0; what < 3; what++) {
            due("a new object's", new TramTolls().stopOf(0, what), -1);
        }
        due("the last one's square", x.stopOf(11, 0), 31);
        due("the last one's player", x.stopOf(11, 1), 3);
        due("the last one's line", x.stopOf(11, 2), 0);
        x.drop(11);
        for (int what = 0; what < 3; what++) {
            due("dropped", x.stopOf(11, what), -1);
            due("the one before it", x.stopOf(10, what), new int[] {30, 2, 0}[what]);
        }
    }

    private static void lineAtStop() {
        TramTolls x = new TramTolls();
        x.stop(0, 0);
        x.stop(0, 1);
        x.stop(1, 0);
        due("on its depot", x.stopOf(0, 2), 1);
        due("on the depot of another", x.stopOf(1, 2), 0);
        due("beside the line", x.stopOf(2, 2), 0);
        x.lay(0, 1, E);
        due("on the line", x.stopOf(2, 2), 1);
        x.takeUp(0);
        due("not any more", x.stopOf(2, 2), 0);
        due("still on its depot", x.stopOf(0, 2), 1);
    }

    // ---- promise 17

    private static void noPlayer() {
        for (int player : NO_PLAYERS) {
            Checks.refused(INDEX, Checks::busy, x -> x.player(player, 0), x -> x.player(player, 10));
        }
    }

    private static void nothingOfPlayer() {
        for (int what : Checks.outside(0, 9)) {
            Checks.refused(ARGUMENT, Checks::busy, x -> x.player(0, what), x -> x.player(3, what));
        }
    }

    private static void leastAndMostOfPlayer() {
        TramTolls x = Checks.everywhere(2);
        int[][] all = {{99, 80, 70, W, 77, 0, 0, 1, 0, 0}, {99, 80, 79, E, 1, 0, 0, 1, 0, 0},
            {20, 1, 79, -1, 1, 0, 0, 1, 0, 0}, {20, 1, 70, -1, 1, 0, 0, 1, 0, 0}};
        for (int player = 0; player < 4; player++) {
            for (int what = 0; what < 10; what++) {
                due("player " + player + ", " + what, x.player(player, what), all[player][what]);
            }
        }
    }

    private static void stopsOfPlayer() {
        TramTolls x = new TramTolls();
        for (int i = 0; i < 12; i++) {
            x.stop(i, 0);
        }
        due("all belong to it", x.player(0, 5), 12);
        due("it has the one on its depot", x.player(0, 6), 1);
        due("it does not join them", x.player(0, 7), 0);
        due("none belongs to another", x.player(1, 5), 0);
        due("which has none", x.player(1, 6), 0);
        due("and joins them", x.player(1, 7), 1);
        Checks.turns(x, "0:1e3e3e3e3e3e3e3e3e5s5w");
        due("all but two", x.player(0, 6), 10);
        Checks.turns(x, "0:3w3w3w3w3w3w3w");
        due("all but one", x.player(0, 6), 11);
        due("not yet", x.player(0, 7), 0);
        x.lay(0, 3, W);
        due("all", x.player(0, 6), 12);
        due("joined", x.player(0, 7), 1);
        x.drop(11);
        due("eleven", x.player(0, 5), 11);
        x.takeUp(0);
        due("one again", x.player(0, 6), 1);
    }

    // ---- promise 18

    private static void refusalOfNoPlayer() {
        for (int player : NO_PLAYERS) {
            Checks.refused(INDEX, Checks::busy, x -> x.refusal(player, 1, E), x -> x.refusal(player, 0, 4));
        }
    }

    private static void refusalOutOfRange() {
        for (int die : NO_DICE) {
            Checks.refused(ARGUMENT, Checks::busy, x -> x.refusal(0, die, E), x -> x.refusal(3, die, -1));
        }
        for (int direction : Checks.outside(0, 3)) {
            Checks.refused(ARGUMENT, Checks::busy, x -> x.refusal(0, 1, direction), x -> x.refusal(3, 6, direction));
        }
    }

    /** What refusal tells is what lay does, for each player, die and direction. */
    private static void refusalAsLay() {
        Checks.State[] states = {TramTolls::new, Checks::busy, Checks::poor, Checks::meeting, Checks::allHouses};
        for (Checks.State state : states) {
            for (int i = 0; i < 4 * 6 * 4; i++) {
                int player = i / 24;
                int die = i / 4 % 6 + 1;
                int direction = i % 4;
                TramTolls x = state.make();
                boolean isRefused = x.refusal(player, die, direction) != 0;
                Object outcome = Checks.outcome(x, y -> y.lay(player, die, direction));
                due(player + ", " + die + ", " + direction, outcome == Checks.STATE, isRefused);
            }
        }
    }

    // ---- promise 19

    private static void countOfNothing() {
        for (int what : Checks.outside(0, 7)) {
            Checks.refused(ARGUMENT, Checks::busy, x -> x.count(what));
            Checks.refused(ARGUMENT, TramTolls::new, x -> x.count(what));
        }
    }

    private static void leastAndMostCounts() {
        TramTolls x = new TramTolls();
        int[] least = {0, 0, 4, 0, 0, 0, 4, 0};
        for (int what = 0; what < 8; what++) {
            due("least " + what, x.count(what), least[what]);
        }
        due("houses", Checks.allHouses().count(0), 76);
        TramTolls y = Checks.allStops();
        due("stops", y.count(1), 12);
        due("no line joins them", y.count(6), 0);
        due("saved states", y.count(7), 6);
        TramTolls z = Checks.everywhere(2);
        due("squares with a track", z.count(2), 80);
        due("squares with two", z.count(3), 80);
        due("pieces", z.count(4), 158);
        due("no tolls", z.count(5), 0);
        due("tolls of the first player", Checks.poor().count(5), 18);
        due("tolls of the second player", Checks.busy().count(5), 2);
    }

    private static void sharedSquares() {
        TramTolls x = Checks.meeting();
        due("with a track", x.count(2), 4 + 29);
        due("none with two", x.count(3), 0);
        x.lay(1, 3, W);
        due("two tracks", x.count(3), 1);
        x.lay(2, 3, N);
        x.lay(3, 3, E);
        due("four tracks on one", x.count(3), 1);
        due("no more with a track", x.count(2), 4 + 29);
        x.takeUp(0);
        x.takeUp(1);
        due("still two", x.count(3), 1);
        x.takeUp(2);
        due("one track", x.count(3), 0);
    }

    // ---- promise 20

    private static void noSetting() {
        for (int setting : Checks.outside(0, 2)) {
            Checks.refused(INDEX, Checks::busy, x -> x.setting(setting));
        }
        TramTolls x = new TramTolls();
        due("toll", x.setting(0), 2);
        due("tracks", x.setting(1), 2);
        due("coins", x.setting(2), 1);
    }

    // ---- promise 21

    private static void awayFromNothing() {
        for (int player : NO_PLAYERS) {
            Checks.refused(INDEX, Checks::busy, x -> x.away(player, 0), x -> x.away(player, 80));
        }
        for (int square : NO_SQUARES) {
            Checks.refused(INDEX, Checks::busy, x -> x.away(0, square), x -> x.away(3, square));
        }
    }

    private static void awayFromItself() {
        TramTolls x = Checks.poor();
        x.set(1, 1);
        due("depot", x.away(0, 0), 0);
        due("line", x.away(0, 2), 0);
        due("with another's track, and full", x.away(0, 4), 0);
        due("head", x.away(0, 5), 0);
        TramTolls y = Checks.everywhere(1);
        for (int square = 0; square < 80; square++) {
            due("all squares", y.away(0, square), 0);
        }
    }

    private static void fewestPieces() {
        TramTolls x = new TramTolls();
        for (int square = 0; square < 80; square++) {
            int column = square % 10;
            int row = square / 10;
            due("from 0 to " + square, x.away(0, square), column + row);
            due("from 79 to " + square, x.away(2, square), 9 - column + 7 - row);
        }
        // The head is at the end of a line down the first column; the way goes from its middle.
        TramTolls y = Checks.played("0:1s3s3s3s3s3s");
        due("from the middle", y.away(0, 34), 4);
        due("from the head", y.away(0, 64), 4);
        due("from the depot", y.away(0, 5), 5);
    }

    private static void noWay() {
        TramTolls x = new TramTolls();
        x.house(44, true);
        due("a house", x.away(0, 44), -1);
        x.house(44, false);
        due("no house", x.away(0, 44), 8);
        for (int square : new int[] {34, 43, 45, 54}) {
            x.house(square, true);
        }
        due("houses around it", x.away(0, 44), -1);
        due("past it", x.away(0, 56), 11);
        TramTolls y = new TramTolls();
        y.set(1, 1);
        due("a full square", y.away(0, 9), -1);
        due("beside it", y.away(0, 8), 8);
        y.house(1, true);
        y.house(10, true);
        due("a line that is shut in", y.away(0, 11), -1);
        due("another line", y.away(1, 11), 9);
    }

    private static void noOtherReasons() {
        TramTolls x = Checks.poor();
        due("too dear", x.refusal(0, 3, E), 6);
        due("away all the same", x.away(0, 6), 1);
        due("across dear squares", x.away(0, 9), 4);
        TramTolls y = Checks.played("0:1s3s3s");
        due("against each die but 6", y.refusal(0, 3, E), 2);
        due("any direction", y.away(0, 31), 1);
    }

    private static void longWays() {
        TramTolls x = Checks.maze();
        due("the end of the first row", x.away(0, 9), 9);
        due("the end of the third row", x.away(0, 20), 20);
        due("the end of the fifth row", x.away(0, 49), 31);
        due("the end of the seventh row", x.away(0, 60), 42);
        due("the last", x.away(0, 70), 43);
        due("backwards", x.away(3, 0), 43);
        x.set(1, 1);
        due("through a full depot", x.away(0, 19), -1);
        due("from that depot", x.away(1, 60), 33);
        due("up to it", x.away(0, 8), 8);
    }

    // ---- promise 22

    private static void cheapestToNothing() {
        for (int player : NO_PLAYERS) {
            Checks.refused(INDEX, Checks::busy, x -> x.cheapest(player, 0), x -> x.cheapest(player, 80));
        }
        for (int square : NO_SQUARES) {
            Checks.refused(INDEX, Checks::busy, x -> x.cheapest(0, square), x -> x.cheapest(3, square));
        }
    }

    private static void cheapestToItself() {
        TramTolls x = Checks.poor();
        due("depot", x.cheapest(0, 0), 0);
        due("with another's track", x.cheapest(0, 4), 0);
        x.set(1, 1);
        due("full", x.cheapest(0, 5), 0);
    }

    private static void noCheapWay() {
        TramTolls x = wall();
        x.house(44, true);
        due("a house", x.cheapest(0, 44), -1);
        due("across", x.cheapest(0, 16), 0);
        x.house(75, true);
        due("across with a toll", x.cheapest(0, 16), 2);
        x.set(1, 1);
        due("a full square", x.cheapest(0, 25), -1);
        due("behind full squares", x.cheapest(0, 16), -1);
        x.house(75, false);
        due("round their end", x.cheapest(0, 16), 0);
    }

    /** The player 1 has a line along the row 0 and down the column 5 to the row 6. */
    private static TramTolls wall() {
        return Checks.played("1:1w3w3w3w5s3s3s3s3s3s");
    }

    private static void cheapAndLong() {
        TramTolls x = wall();
        due("the shortest way", x.away(0, 16), 7);
        due("the cheapest way", x.cheapest(0, 16), 0);
        due("to a square of the line", x.cheapest(0, 6), 2);
        x.set(1, 1);
        due("the only way", x.away(0, 16), 19);
        due("costs nothing", x.cheapest(0, 16), 0);
    }

    private static void sumsOfTolls() {
        TramTolls x = Checks.maze();
        due("a free way", x.cheapest(0, 8), 0);
        due("through one depot", x.cheapest(0, 60), 2);
        due("to another", x.cheapest(0, 70), 4);
        x.set(0, 9);
        due("dear depots", x.cheapest(0, 70), 18);
        x.set(0, 0);
        due("without a toll", x.cheapest(0, 70), 0);
        TramTolls y = Checks.meeting();
        y.lay(1, 3, W);
        y.lay(2, 3, N);
        y.set(0, 9);
        due("for each track, beyond the coins", y.cheapest(3, 44), 27);
        due("one piece", y.away(3, 44), 1);
        y.set(1, 3);
        due("full", y.cheapest(3, 44), -1);
    }

    /** No answer depends on what was asked ahead of it. */
    private static void waysOfNow() {
        TramTolls x = new TramTolls();
        x.set(1, 1);
        x.stop(44, 0);
        for (int i = 0; i < 2; i++) {
            due("full", x.away(1, 0), -1);
            due("the own depot, cheap", x.cheapest(0, 0), 0);
            due("full for the cheapest", x.cheapest(1, 0), -1);
            due("the own depot", x.away(0, 0), 0);
            due("from the own depot", x.cheapest(0, 44), 0);
            due("best", x.best(0, 1), E);
            due("from another depot", x.away(2, 44), 8);
            due("none missing", x.best(2, 1), -1);
        }
        x.drop(0);
        due("none any more", x.best(0, 1), -1);
        x.house(44, true);
        due("no way any more", x.away(2, 44), -1);
        due("no cheap way any more", x.cheapest(0, 44), -1);
        x.undo();
        due("a way again", x.away(2, 44), 8);
    }

    // ---- promise 23

    private static void bestOfNoPlayer() {
        for (int player : NO_PLAYERS) {
            Checks.refused(INDEX, Checks::busy, x -> x.best(player, 1), x -> x.best(player, 0));
        }
    }

    private static void bestOutOfRange() {
        for (int die : NO_DICE) {
            Checks.refused(ARGUMENT, Checks::busy, x -> x.best(0, die), x -> x.best(3, die));
            Checks.refused(ARGUMENT, Checks::allHouses, x -> x.best(0, die));
        }
    }

    private static void bestWithoutStops() {
        TramTolls x = Checks.played("0:1e3e3e");
        for (int die = 1; die <= 6; die++) {
            due("no stops", x.best(0, die), -1);
        }
        x.stop(44, 1);
        due("those of others", x.best(0, 1), -1);
        x.stop(2, 0);
        x.stop(0, 0);
        due("those that it has", x.best(0, 1), -1);
        for (int square : new int[] {34, 43, 45, 54}) {
            x.house(square, true);
        }
        x.stop(44, 0);
        due("one that is shut in", x.best(0, 1), -1);
        x.stop(79, 0);
        due("another one", x.best(0, 1), E);
        x.set(1, 1);
        due("on a full square", x.best(0, 1), -1);
    }

    private static void bestOfShutInHead() {
        TramTolls x = Checks.played("0:1e3e");
        x.house(3, true);
        x.house(12, true);
        x.stop(30, 0);
        due("the line could come to it", x.away(0, 30), 3);
        for (int die = 1; die <= 6; die++) {
            due("but not from its head", x.best(0, die), -1);
        }
        x.house(12, false);
        due("die 1", x.best(0, 1), S);
        due("die 3", x.best(0, 3), -1);
        due("die 5", x.best(0, 5), S);
    }

    private static void bestIsNotRefused() {
        TramTolls x = Checks.poor();
        x.stop(6, 0);
        due("too dear", x.best(0, 1), S);
        due("no other with this die", x.best(0, 3), -1);
        x.set(0, 2);
        due("just enough", x.best(0, 1), E);
        due("with this die too", x.best(0, 4), E);
        due("not with this", x.best(0, 5), S);
        x.set(1, 1);
        due("full", x.best(0, 1), -1);
        TramTolls y = new TramTolls();
        y.stop(44, 0);
        for (int die = 1; die <= 6; die++) {
            due("first piece", y.best(0, die), E);
        }
        y.house(1, true);
        due("a house", y.best(0, 3), S);
    }

    private static void bestComesToStop() {
        TramTolls x = Checks.played("0:1e3e3e3e3e3e3e3e");
        x.stop(8, 1);
        due("with a toll", x.best(1, 1), W);
        x.stop(19, 1);
        due("without one", x.best(1, 1), S);
        x.lay(1, 1, S);
        due("the other one is left", x.stopOf(0, 2), 0);
        due("none comes to it", x.best(1, 3), S);
        x.drop(0);
        due("none is missing", x.best(1, 3), -1);
    }

    private static void bestOfEqualOnes() {
        // The nearest way to the stop goes from the depot, so that all pieces are alike.
        TramTolls x = Checks.played("0:1e3e3e3e5s3s3s3s");
        x.stop(20, 0);
        due("the lowest", x.best(0, 6), E);
        due("straight on alone", x.best(0, 3), S);
        due("left or right", x.best(0, 5), E);
        Checks.turns(x, "1:1s3s3s3s5w3w3w3w");
        due("a toll on the lowest", x.best(0, 6), S);
        due("a toll on one of two", x.best(0, 5), W);
        Checks.turns(x, "2:1w3w3w3w3w5n3n");
        due("tolls on two", x.best(0, 6), W);
        Checks.turns(x, "3:1n3n3n5e3e3e");
        due("tolls on all", x.best(0, 6), E);
        x.set(0, 0);
        due("no tolls", x.best(0, 6), E);
        TramTolls y = new TramTolls();
        y.stop(77, 2);
        y.stop(59, 2);
        due("north and west are alike", y.best(2, 1), N);
    }

    private static void bestIsNearest() {
        TramTolls x = Checks.played("0:1e3e3e3e3e3e3e3e");
        x.stop(7, 1);
        due("nearer, with a toll", x.best(1, 1), W);
        x.set(0, 9);
        due("nearer, and dear", x.best(1, 1), W);
        x.house(18, true);
        x.set(1, 1);
        due("full", x.best(1, 1), -1);
        TramTolls y = Checks.played("0:1e3e3e3e3e3e3e3e");
        y.stop(17, 1);
        due("two are as near, one without a toll", y.best(1, 1), S);
        y.set(0, 0);
        due("both without a toll", y.best(1, 1), S);
        y.house(19, true);
        y.set(0, 2);
        due("with a toll", y.best(1, 1), W);
    }

    private static void nearestOfStops() {
        TramTolls x = Checks.played("0:1e3e3e3e5s3s3s3s");
        x.stop(49, 0);
        due("east", x.best(0, 1), E);
        x.stop(74, 0);
        due("south is nearer", x.best(0, 1), S);
        x.stop(42, 0);
        due("west is nearer still", x.best(0, 1), W);
        due("not with this die", x.best(0, 3), S);
        x.house(43, true);
        due("round a house", x.away(0, 42), 3);
        due("south is the nearest again", x.best(0, 1), S);
    }

    private static void bestFromDepot() {
        // From the depot it is as far as from the squares below and left of the head.
        TramTolls x = Checks.played("0:1e3e5s");
        x.stop(30, 0);
        due("away from the line", x.away(0, 30), 3);
        due("none is nearer, so the lowest", x.best(0, 1), E);
        x.house(10, true);
        due("the depot is not as near", x.best(0, 1), S);
    }

    // ---- promise 24

    private static void ahead() {
        TramTolls x = new TramTolls();
        due("all alike", x.ahead(), 0);
        x.give(3, 1);
        due("one coin", x.ahead(), 3);
        x.give(1, 1);
        due("as many, and lower", x.ahead(), 1);
        x.stop(79, 2);
        due("a stop", x.ahead(), 2);
        x.stop(70, 3);
        due("as many stops, more coins", x.ahead(), 3);
        x.give(2, 1);
        due("as many stops and coins", x.ahead(), 2);
        x.stop(60, 3);
        x.lay(3, 1, N);
        due("two stops", x.ahead(), 3);
        x.give(2, 999);
        due("coins do not count then", x.ahead(), 3);
    }

    private static void aheadByOwnStops() {
        TramTolls x = Checks.played("2:1w3w");
        x.give(1, 500);
        x.stop(78, 3);
        x.stop(77, 0);
        x.stop(44, 2);
        due("stops of others, and one that is not reached", x.ahead(), 1);
        x.stop(77, 2);
        due("an own one", x.ahead(), 2);
        x.takeUp(2);
        due("not any more", x.ahead(), 1);
    }

    // ---- promise 25

    private static void leastAndMostShared() {
        due("none", new TramTolls().shared(), 0.0);
        due("one line", Checks.meeting().shared(), 0.0);
        due("all", Checks.everywhere(2).shared(), 1.0);
        due("three depots of eighty squares", Checks.everywhere(1).shared(), 3.0 / 80);
        TramTolls x = Checks.meeting();
        x.lay(1, 3, W);
        x.lay(2, 3, N);
        due("three tracks on one", x.shared(), 1.0 / 33);
    }

    /** The line of the player 0 with some pieces to and fro, and that of 1 with others over it. */
    private static TramTolls overlay(int first, int second) {
        TramTolls x = new TramTolls();
        x.set(0, 0);
        x.set(1, 4);
        int[] pieces = {first, second};
        for (int player = 0; player < 2; player++) {
            int square = player == 0 ? 0 : 9;
            for (int i = 0; i < pieces[player]; i++) {
                int direction = Checks.snakeStep(square, player);
                x.lay(player, 6, direction);
                square = Checks.beside(square, direction);
            }
        }
        return x;
    }

    private static void fractions() {
        for (int second = 0; second <= 9; second++) {
            // The squares 1 to 8 are of one line, those of the other come from the depot 9.
            due("with " + second, overlay(8, second).shared(), second / 12.0);
        }
        due("nine of twelve, and a depot", overlay(9, 9).shared(), 10.0 / 12);
    }

    // ---- promise 26

    private static void digestsOfEdges() {
        Checks.State[] states = {TramTolls::new, Checks::allHouses, Checks::allStops, Checks::maze,
            Checks::poor, Checks::meeting, () -> Checks.everywhere(1), () -> Checks.everywhere(2)};
        for (int i = 0; i < states.length; i++) {
            due("state " + i, states[i].make().digest(), Checks.hash(states[i], ""));
        }
        due("with a text", Checks.busy().digest(), Checks.hash(Checks::busy, "2:1n;3"));
    }

    private static void digestsOfShares() {
        for (int first = 0; first <= 79; first += 6) {
            for (int second = 1; second <= 79; second += 13) {
                int a = first;
                int b = second;
                Checks.State state = () -> overlay(a, b);
                due(a + " and " + b, state.make().digest(), Checks.hash(state, ""));
            }
        }
    }

    private static void digestsOfTexts() {
        String full = "~!~!~!~!~!~!~!~!~!~!~!~!~!~!~!~!~!~!~!~!~!~!~!~!~!~!~!~!~!~!";
        due("full", Checks.written(full).digest(), Checks.hash(TramTolls::new, full));
        due("one", Checks.written("~").digest(), Checks.hash(TramTolls::new, "~"));
        TramTolls x = Checks.written("abc");
        x.clearBuffer();
        x.append('z');
        due("not what was cleared", x.digest(), Checks.hash(TramTolls::new, "z"));
    }
}
