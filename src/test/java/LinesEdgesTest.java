/** The edges of the promises 2 to 9: houses, stops, pieces, lines, coins and settings. */
public final class LinesEdgesTest {
    private static final int N = Checks.N;
    private static final int E = Checks.E;
    private static final int S = Checks.S;
    private static final int W = Checks.W;

    private static final Class<?> INDEX = Checks.INDEX;
    private static final Class<?> ARGUMENT = Checks.ARGUMENT;
    private static final Class<?> STATE = Checks.STATE;
    private static final int[] NO_SQUARES = Checks.outside(0, 79);
    private static final int[] NO_PLAYERS = Checks.outside(0, 3);
    private static final int[] NO_DIRECTIONS = Checks.outside(0, 3);

    public static void main(String[] args) {
        Checks.test("2: IndexOutOfBounds if there is no such square", LinesEdgesTest::houseOnNoSquare);
        Checks.test("2: IllegalState if the square has a track", LinesEdgesTest::houseOnTrack);
        Checks.test("2: IllegalState if the square has a stop", LinesEdgesTest::houseOnStop);
        Checks.test("2: a track or a stop that is gone does not count", LinesEdgesTest::houseBehindTrackAndStop);
        Checks.test("2: Returns 1 if there was one, otherwise 0", LinesEdgesTest::houseThatWas);
        Checks.test("2: houses everywhere", LinesEdgesTest::housesEverywhere);
        Checks.test("3: IndexOutOfBounds if there is no such square or player", LinesEdgesTest::stopNowhere);
        Checks.test("3: IllegalState if there is a house", LinesEdgesTest::stopOnHouse);
        Checks.test("3: IllegalState if there is a stop of the player", LinesEdgesTest::stopTwice);
        Checks.test("3: IllegalState if there are 12 stops", LinesEdgesTest::thirteenthStop);
        Checks.test("3: IndexOutOfBounds comes ahead of IllegalState", LinesEdgesTest::stopNowhereAndRefused);
        Checks.test("3: the lowest number that is not there", LinesEdgesTest::lowestStop);
        Checks.test("3: the first and the last square and player", LinesEdgesTest::stopsAtTheEnds);
        Checks.test("4: IndexOutOfBounds if there is no such stop", LinesEdgesTest::dropNothing);
        Checks.test("4: Returns its square", LinesEdgesTest::droppedSquares);
        Checks.test("5: IndexOutOfBounds if there is no such player", LinesEdgesTest::layOfNoPlayer);
        Checks.test("5: IllegalArgument if die or direction is out of range", LinesEdgesTest::layOutOfRange);
        Checks.test("5: IllegalArgument comes ahead of IllegalState", LinesEdgesTest::layOutOfRangeAndRefused);
        Checks.test("5: IllegalState if it is refused", LinesEdgesTest::layRefused);
        Checks.test("5: the first and the last die, direction and player", LinesEdgesTest::layAtTheEnds);
        Checks.test("6: IndexOutOfBounds if there is no such player", LinesEdgesTest::branchOfNoPlayer);
        Checks.test("6: IndexOutOfBounds if the square has not the track", LinesEdgesTest::branchFromElsewhere);
        Checks.test("6: IllegalArgument if direction is out of range", LinesEdgesTest::branchOutOfRange);
        Checks.test("6: IllegalState if it is refused", LinesEdgesTest::branchRefused);
        Checks.test("6: with the die showing 6, from a square of the line", LinesEdgesTest::branchFromAnywhere);
        Checks.test("6: Returns the toll that is paid", LinesEdgesTest::branchTolls);
        Checks.test("7: IndexOutOfBounds if there is no such player", LinesEdgesTest::takeUpOfNoPlayer);
        Checks.test("7: Returns how many tracks are taken up", LinesEdgesTest::takeUpCounts);
        Checks.test("7: but for the depot, which is the head then", LinesEdgesTest::takeUpKeepsDepot);
        Checks.test("7: as its owner the lowest other player, or none", LinesEdgesTest::nextOwners);
        Checks.test("7: other tracks stay", LinesEdgesTest::takeUpOfNoOwner);
        Checks.test("7: coins, tolls and pieces stay", LinesEdgesTest::takeUpKeepsCounts);
        Checks.test("8: IndexOutOfBounds if there is no such player", LinesEdgesTest::giveNoPlayer);
        Checks.test("8: IllegalArgument if coins is out of range", LinesEdgesTest::giveOutOfRange);
        Checks.test("8: IllegalState if it would be more than 99999", LinesEdgesTest::giveTooMany);
        Checks.test("8: by pieces and tolls it can become more", LinesEdgesTest::moreThanGiven);
        Checks.test("8: Returns what the player has then", LinesEdgesTest::given);
        Checks.test("9: IndexOutOfBounds if there is no such setting", LinesEdgesTest::setNothing);
        Checks.test("9: IllegalArgument if value is out of range", LinesEdgesTest::setOutOfRange);
        Checks.test("9: Returns the previous value", LinesEdgesTest::setEachValue);
        Checks.end();
    }

    private static void due(String what, Object got, Object want) {
        Checks.due(what, got, want);
    }

    // ---- promise 2

    private static void houseOnNoSquare() {
        for (int square : NO_SQUARES) {
            Checks.refused(INDEX, Checks::busy, x -> x.house(square, true), x -> x.house(square, false));
        }
    }

    private static void houseOnTrack() {
        // The ends of the range are depots; 1 has one track, 3 has two.
        for (int square : new int[] {0, 9, 70, 79, 1, 8}) {
            Checks.refused(STATE, Checks::busy, x -> x.house(square, true), x -> x.house(square, false));
        }
        TramTolls x = Checks.busy();
        x.drop(0);
        due("two tracks", Checks.outcome(x, y -> y.house(3, true)), STATE);
    }

    private static void houseOnStop() {
        Checks.refused(STATE, Checks::busy, x -> x.house(30, true), x -> x.house(30, false));
        Checks.refused(STATE, Checks::allStops, x -> x.house(20, true), x -> x.house(31, true));
        TramTolls x = new TramTolls();
        x.stop(44, 0);
        x.stop(44, 3);
        x.drop(0);
        due("one of two is left", Checks.outcome(x, y -> y.house(44, true)), STATE);
        x.drop(1);
        due("none is left", x.house(44, true), 0);
    }

    private static void houseBehindTrackAndStop() {
        TramTolls x = Checks.played("0:1e3e");
        due("a track", Checks.outcome(x, y -> y.house(2, true)), STATE);
        x.takeUp(0);
        due("no track", x.house(2, true), 0);
        due("none beside it", x.house(1, true), 0);
        due("the depot stays", Checks.outcome(x, y -> y.house(0, true)), STATE);
    }

    private static void houseThatWas() {
        TramTolls x = new TramTolls();
        due("none, and none", x.house(1, false), 0);
        due("none, then one", x.house(1, true), 0);
        due("one, and one", x.house(1, true), 1);
        due("there", x.square(1, 2), 1);
        due("counted once", x.count(0), 1);
        due("one, then none", x.house(1, false), 1);
        due("gone", x.square(1, 2), 0);
        due("not counted", x.count(0), 0);
        due("the last that is no depot", x.house(78, true), 0);
        due("there too", x.square(78, 2), 1);
    }

    private static void housesEverywhere() {
        TramTolls x = Checks.allHouses();
        due("houses", x.count(0), 76);
        due("nowhere to go", x.refusal(0, 1, E), 3);
        due("no way", x.away(0, 9), -1);
        due("no cheap way", x.cheapest(3, 71), -1);
        due("no stop but on depots", Checks.outcome(x, y -> y.stop(44, 0)), STATE);
        due("a stop on a depot", x.stop(9, 0), 0);
        due("no direction", x.best(0, 6), -1);
    }

    // ---- promise 3

    private static void stopNowhere() {
        for (int square : NO_SQUARES) {
            Checks.refused(INDEX, Checks::busy, x -> x.stop(square, 0));
            Checks.refused(INDEX, TramTolls::new, x -> x.stop(square, 4));
        }
        for (int player : NO_PLAYERS) {
            Checks.refused(INDEX, Checks::busy, x -> x.stop(20, player));
        }
    }

    private static void stopOnHouse() {
        for (int player = 0; player < 4; player++) {
            int of = player;
            Checks.refused(STATE, Checks::busy, x -> x.stop(44, of));
        }
        TramTolls x = Checks.busy();
        x.house(44, false);
        due("without the house", x.stop(44, 0), 3);
    }

    private static void stopTwice() {
        Checks.refused(STATE, Checks::busy, x -> x.stop(3, 0), x -> x.stop(30, 1), x -> x.stop(79, 3));
        TramTolls x = new TramTolls();
        for (int player = 0; player < 4; player++) {
            due("of each player", x.stop(44, player), player);
        }
        for (int player = 0; player < 4; player++) {
            int of = player;
            due("twice of " + player, Checks.outcome(x, y -> y.stop(44, of)), STATE);
        }
        x.drop(2);
        due("again", x.stop(44, 2), 2);
    }

    private static void thirteenthStop() {
        Checks.refused(STATE, Checks::allStops, x -> x.stop(60, 0), x -> x.stop(20, 1), x -> x.stop(79, 3));
        TramTolls x = Checks.allStops();
        due("stops", x.count(1), 12);
        x.drop(7);
        due("room for one", x.stop(60, 0), 7);
        due("and no more", Checks.outcome(x, y -> y.stop(61, 0)), STATE);
    }

    private static void stopNowhereAndRefused() {
        Checks.refused(INDEX, Checks::busy, x -> x.stop(44, 4), x -> x.stop(44, -1));
        Checks.refused(INDEX, Checks::allStops, x -> x.stop(80, 0), x -> x.stop(-1, 0), x -> x.stop(20, 4));
    }

    private static void lowestStop() {
        TramTolls x = Checks.allStops();
        for (int stop : new int[] {11, 5, 0}) {
            x.drop(stop);
        }
        for (int stop : new int[] {0, 5, 11}) {
            due("the lowest", x.stop(60, stop % 4), stop);
        }
    }

    private static void stopsAtTheEnds() {
        TramTolls x = new TramTolls();
        due("the first square", x.stop(0, 3), 0);
        due("the last square", x.stop(79, 0), 1);
        due("the square of the first", x.stopOf(0, 0), 0);
        due("the player of the first", x.stopOf(0, 1), 3);
        due("the square of the second", x.stopOf(1, 0), 79);
        due("the player of the second", x.stopOf(1, 1), 0);
    }

    // ---- promise 4

    private static void dropNothing() {
        for (int stop : Checks.outside(0, 11)) {
            Checks.refused(INDEX, Checks::busy, x -> x.drop(stop));
            Checks.refused(INDEX, Checks::allStops, x -> x.drop(stop));
        }
        Checks.refused(INDEX, Checks::busy, x -> x.drop(3), x -> x.drop(11));
        Checks.refused(INDEX, TramTolls::new, x -> x.drop(0), x -> x.drop(11));
        TramTolls y = Checks.allStops();
        y.drop(4);
        due("twice", Checks.outcome(y, z -> z.drop(4)), INDEX);
        due("the others stay", y.count(1), 11);
    }

    private static void droppedSquares() {
        TramTolls x = new TramTolls();
        x.stop(0, 1);
        x.stop(79, 1);
        due("the last square", x.drop(1), 79);
        due("the first square", x.drop(0), 0);
        due("none is left", x.count(1), 0);
        TramTolls y = Checks.allStops();
        due("the last of twelve", y.drop(11), 31);
        due("the first of twelve", y.drop(0), 20);
        due("not there any more", y.square(20, 3), -1);
    }

    // ---- promise 5

    private static void layOfNoPlayer() {
        for (int player : NO_PLAYERS) {
            Checks.refused(INDEX, Checks::busy, x -> x.lay(player, 1, E), x -> x.lay(player, 0, 4));
        }
    }

    private static void layOutOfRange() {
        for (int die : Checks.outside(1, 6)) {
            Checks.refused(ARGUMENT, Checks::busy, x -> x.lay(0, die, E), x -> x.lay(3, die, 4));
        }
        for (int direction : NO_DIRECTIONS) {
            Checks.refused(ARGUMENT, Checks::busy, x -> x.lay(0, 1, direction), x -> x.lay(2, 6, direction));
        }
    }

    private static void layOutOfRangeAndRefused() {
        Checks.refused(ARGUMENT, Checks::busy, x -> x.lay(0, 0, N), x -> x.lay(0, 7, N), x -> x.lay(0, 7, W));
        Checks.refused(ARGUMENT, Checks::allHouses, x -> x.lay(0, 1, 4), x -> x.lay(0, 0, E));
    }

    private static void layRefused() {
        // Out of the town; against the die; on the own track.
        Checks.refused(STATE, Checks::busy, x -> x.lay(0, 1, N), x -> x.lay(0, 1, W), x -> x.lay(0, 6, W));
        Checks.refused(STATE, Checks::busy, x -> x.lay(0, 3, S), x -> x.lay(0, 5, E));
        Checks.refused(STATE, Checks::allHouses, x -> x.lay(0, 1, E), x -> x.lay(2, 6, N));
        Checks.refused(STATE, Checks::poor, x -> x.lay(0, 3, E));
        Checks.refused(STATE, LinesEdgesTest::narrow, x -> x.lay(0, 3, E), x -> x.lay(0, 6, E));
    }

    /** As in poor(), but no square has room for a second track. */
    private static TramTolls narrow() {
        TramTolls x = Checks.poor();
        x.set(1, 1);
        return x;
    }

    private static void layAtTheEnds() {
        TramTolls x = new TramTolls();
        due("the first player, die 1", x.lay(0, 1, S), 0);
        due("the last player, die 6, the first direction", x.lay(3, 6, N), 0);
        due("the last direction", x.lay(1, 6, W), 0);
        due("the head of 0", x.player(0, 2), 10);
        due("the head of 3", x.player(3, 2), 60);
        due("the head of 1", x.player(1, 2), 8);
    }

    // ---- promise 6

    private static void branchOfNoPlayer() {
        for (int player : NO_PLAYERS) {
            Checks.refused(INDEX, Checks::busy, x -> x.branch(player, 0, S), x -> x.branch(player, 80, 4));
        }
    }

    private static void branchFromElsewhere() {
        for (int square : NO_SQUARES) {
            Checks.refused(INDEX, Checks::busy, x -> x.branch(0, square, S), x -> x.branch(0, square, 4));
        }
        // Without a track; with the track of another; out of the town besides; with a house.
        Checks.refused(INDEX, Checks::busy, x -> x.branch(0, 13, S), x -> x.branch(0, 4, S), x -> x.branch(0, 9, N));
        Checks.refused(INDEX, Checks::busy, x -> x.branch(1, 2, S), x -> x.branch(0, 44, S));
        Checks.refused(INDEX, Checks::busy, x -> x.branch(0, 13, 4), x -> x.branch(0, 4, -1));
        TramTolls x = Checks.busy();
        x.takeUp(0);
        due("taken up", Checks.outcome(x, y -> y.branch(0, 3, S)), INDEX);
        due("the depot", x.branch(0, 0, S), 0);
    }

    private static void branchOutOfRange() {
        for (int direction : NO_DIRECTIONS) {
            Checks.refused(ARGUMENT, Checks::busy, x -> x.branch(0, 1, direction), x -> x.branch(1, 3, direction));
            Checks.refused(ARGUMENT, Checks::allHouses, x -> x.branch(0, 0, direction));
        }
    }

    private static void branchRefused() {
        // Out of the town; on the own track.
        Checks.refused(STATE, Checks::busy, x -> x.branch(0, 2, N), x -> x.branch(0, 0, W), x -> x.branch(1, 9, E));
        Checks.refused(STATE, Checks::busy, x -> x.branch(0, 1, E), x -> x.branch(0, 3, W));
        Checks.refused(STATE, Checks::allHouses, x -> x.branch(0, 0, S), x -> x.branch(3, 70, N));
        Checks.refused(STATE, Checks::poor, x -> x.branch(0, 5, E));
        Checks.refused(STATE, LinesEdgesTest::narrow, x -> x.branch(0, 5, E));
    }

    private static void branchFromAnywhere() {
        TramTolls x = Checks.played("0:1e3e3e");
        due("from the depot", x.branch(0, 0, S), 0);
        due("head", x.player(0, 2), 10);
        due("from the other end", x.branch(0, 3, S), 0);
        due("head there", x.player(0, 2), 13);
        due("from the head", x.branch(0, 13, W), 0);
        due("last", x.player(0, 3), W);
        due("from elsewhere, to the opposite side of the last piece", x.branch(0, 3, E), 0);
        due("last again", x.player(0, 3), E);
        due("pieces", x.count(4), 7);
        due("squares", x.player(0, 1), 8);
        TramTolls y = new TramTolls();
        due("the first piece", y.branch(2, 79, W), 0);
        due("head of 2", y.player(2, 2), 78);
    }

    private static void branchTolls() {
        TramTolls x = Checks.poor();
        x.set(0, 2);
        due("all that there is", x.branch(0, 5, E), 2);
        due("coins", x.player(0, 0), 0);
        TramTolls y = Checks.meeting();
        y.lay(1, 3, W);
        y.branch(2, 64, E);
        due("from another square than the head", y.branch(2, 54, N), 4);
        due("coins of the owner", y.player(0, 0), 26);
    }

    // ---- promise 7

    private static void takeUpOfNoPlayer() {
        for (int player : NO_PLAYERS) {
            Checks.refused(INDEX, Checks::busy, x -> x.takeUp(player));
        }
    }

    private static void takeUpCounts() {
        TramTolls x = new TramTolls();
        due("a depot alone", x.takeUp(3), 0);
        x.lay(3, 1, N);
        due("one", x.takeUp(3), 1);
        due("all of the town", Checks.everywhere(1).takeUp(0), 79);
        TramTolls y = Checks.played("0:1e3e3e");
        y.branch(0, 1, S);
        due("a branch too", y.takeUp(0), 4);
        due("none is left", y.count(2), 4);
    }

    private static void takeUpKeepsDepot() {
        int[] depots = {0, 9, 79, 70};
        TramTolls x = Checks.meeting();
        for (int player = 0; player < 4; player++) {
            x.takeUp(player);
            due("squares", x.player(player, 1), 1);
            due("head", x.player(player, 2), depots[player]);
            due("last piece", x.player(player, 3), -1);
            due("track", x.square(depots[player], 0), 1 << player);
            due("owner", x.square(depots[player], 1), player);
        }
        TramTolls y = Checks.everywhere(2);
        y.takeUp(1);
        due("a depot with two tracks", y.square(9, 0), 3);
        due("stays the player's", y.square(9, 1), 1);
        due("a depot of another", y.square(70, 0), 1 | 1 << 3);
        due("stays the other's", y.square(70, 1), 3);
        due("the first square is taken up too", y.square(0, 0), 1);
        due("the last one too", y.square(79, 0), 1 | 1 << 2);
    }

    private static void nextOwners() {
        TramTolls x = Checks.meeting();
        x.lay(3, 3, E);
        x.lay(2, 3, N);
        x.lay(1, 3, W);
        int[] left = {15, 14, 12, 8};
        int[] owners = {0, 1, 2, 3};
        for (int player = 0; player < 4; player++) {
            due("tracks", x.square(44, 0), left[player]);
            due("owner", x.square(44, 1), owners[player]);
            x.takeUp(player);
        }
        due("no track", x.square(44, 0), 0);
        due("no owner", x.square(44, 1), -1);
        TramTolls y = Checks.meeting();
        y.takeUp(0);
        y.lay(2, 3, N);
        y.lay(3, 3, E);
        y.lay(1, 3, W);
        due("the first", y.square(44, 1), 2);
        y.takeUp(2);
        due("the lowest, not the next", y.square(44, 1), 1);
    }

    private static void takeUpOfNoOwner() {
        TramTolls x = Checks.meeting();
        x.lay(3, 3, E);
        x.lay(1, 3, W);
        x.takeUp(1);
        due("tracks", x.square(44, 0), 1 | 1 << 3);
        due("owner", x.square(44, 1), 0);
        due("the line of 3", x.player(3, 1), 8);
        due("the head of 3", x.player(3, 2), 44);
        due("the last piece of 3", x.player(3, 3), E);
    }

    private static void takeUpKeepsCounts() {
        TramTolls x = Checks.meeting();
        x.lay(3, 3, E);
        int pieces = x.count(4);
        x.takeUp(3);
        x.takeUp(0);
        due("pieces", x.count(4), pieces);
        due("paid", x.player(3, 8), 2);
        due("got", x.player(0, 9), 2);
        due("coins of the payer", x.player(3, 0), 18);
        due("coins of the owner", x.player(0, 0), 22);
    }

    // ---- promise 8

    private static void giveNoPlayer() {
        for (int player : NO_PLAYERS) {
            Checks.refused(INDEX, Checks::busy, x -> x.give(player, 5), x -> x.give(player, 0));
            Checks.refused(INDEX, LinesEdgesTest::rich, x -> x.give(player, 999));
        }
    }

    /** The player 2 has 99999 coins. */
    private static TramTolls rich() {
        TramTolls x = new TramTolls();
        for (int i = 0; i < 100; i++) {
            x.give(2, 999);
        }
        x.give(2, 79);
        return x;
    }

    private static void giveOutOfRange() {
        for (int coins : Checks.outside(1, 999)) {
            Checks.refused(ARGUMENT, Checks::busy, x -> x.give(0, coins));
            Checks.refused(ARGUMENT, LinesEdgesTest::rich, x -> x.give(2, coins));
        }
    }

    private static void giveTooMany() {
        due("as many as can be", rich().player(2, 0), 99999);
        Checks.refused(STATE, LinesEdgesTest::rich, x -> x.give(2, 1), x -> x.give(2, 999));
        TramTolls x = rich();
        x.undo();
        due("too many by one", Checks.outcome(x, y -> y.give(2, 80)), STATE);
        due("as many as can be again", x.give(2, 79), 99999);
        due("another player", x.give(3, 999), 1019);
    }

    private static void moreThanGiven() {
        TramTolls x = rich();
        x.lay(2, 1, W);
        due("by a piece", x.player(2, 0), 100000);
        due("no more is given", Checks.outcome(x, y -> y.give(2, 1)), STATE);
        TramTolls y = rich();
        Checks.turns(y, "2:1w;3:1e3e3e3e3e3e3e3e");
        due("by a toll", y.player(2, 0), 100002);
        due("no more is given then", Checks.outcome(y, z -> z.give(2, 1)), STATE);
        due("out of range is told first", Checks.outcome(y, z -> z.give(2, 1000)), ARGUMENT);
    }

    private static void given() {
        TramTolls x = new TramTolls();
        due("the least", x.give(0, 1), 21);
        due("the most", x.give(0, 999), 1020);
        due("the last player", x.give(3, 999), 1019);
        due("no other", x.player(1, 0), 20);
    }

    // ---- promise 9

    private static void setNothing() {
        for (int setting : Checks.outside(0, 2)) {
            Checks.refused(INDEX, Checks::busy, x -> x.set(setting, 1), x -> x.set(setting, -1));
        }
    }

    private static void setOutOfRange() {
        for (int value : Checks.outside(0, 9)) {
            Checks.refused(ARGUMENT, Checks::busy, x -> x.set(0, value), x -> x.set(2, value));
        }
        for (int value : Checks.outside(1, 4)) {
            Checks.refused(ARGUMENT, Checks::busy, x -> x.set(1, value));
        }
    }

    private static void setEachValue() {
        int[] first = {2, 2, 1};
        int[] lowest = {0, 1, 0};
        int[] highest = {9, 4, 9};
        TramTolls x = new TramTolls();
        for (int setting = 0; setting < 3; setting++) {
            int before = first[setting];
            for (int value = lowest[setting]; value <= highest[setting]; value++) {
                due("the value of " + setting, x.set(setting, value), before);
                due("the value of " + setting + " is there", x.setting(setting), value);
                before = value;
            }
            due("the same value again", x.set(setting, before), before);
        }
        due("the others stay", x.setting(0) + x.setting(1) + x.setting(2), 9 + 4 + 9);
    }
}
