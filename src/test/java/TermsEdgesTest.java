/** The edges that the document's terms name: the town, lines, pieces, settings and what is first. */
public final class TermsEdgesTest {
    private static final int N = Checks.N;
    private static final int E = Checks.E;
    private static final int S = Checks.S;
    private static final int W = Checks.W;

    private static final int[] DEPOTS = {0, 9, 79, 70};

    public static void main(String[] args) {
        Checks.test("NONE = -1", () -> due("NONE", TramTolls.NONE, -1));
        Checks.test("1: Creates a town without houses and stops, with an empty buffer", TermsEdgesTest::newTown);
        Checks.test("Town: 10 columns and 8 rows; neighbours have a side in common", TermsEdgesTest::borders);
        Checks.test("Town: a house: no track is laid there", TermsEdgesTest::noTrackOnHouse);
        Checks.test("Lines: at first that of the depot alone; the head at first the depot", TermsEdgesTest::firstLines);
        Checks.test("Lines: who laid there first is the owner", TermsEdgesTest::firstIsOwner);
        Checks.test("Lines: of a depot its player", TermsEdgesTest::depotsOwner);
        Checks.test("Lines: without stops a line joins its stops", TermsEdgesTest::joinsWithoutStops);
        Checks.test("Lines: joins if all stops are on squares with its track", TermsEdgesTest::joinsAll);
        Checks.test("Pieces: what each die allows; modulo 4", TermsEdgesTest::dice);
        Checks.test("Pieces: ahead of the first piece any direction", TermsEdgesTest::firstPieces);
        Checks.test("Pieces: the last piece may be a branch", TermsEdgesTest::diceBehindBranch);
        Checks.test("Pieces: 1 ahead of the other reasons", TermsEdgesTest::leavingComesFirst);
        Checks.test("Pieces: 2 ahead of 3, 4, 5 and 6", TermsEdgesTest::dieComesSecond);
        Checks.test("Pieces: 4 ahead of 5 and 6", TermsEdgesTest::ownTrackAheadOfToll);
        Checks.test("Pieces: 5 ahead of 6", TermsEdgesTest::fullAheadOfToll);
        Checks.test("Pieces: 5: setting 1 players or more", TermsEdgesTest::fullSquares);
        Checks.test("Pieces: 6: cannot pay the toll", TermsEdgesTest::lastCoins);
        Checks.test("Pieces: no toll without an owner", TermsEdgesTest::noTollWithoutOwner);
        Checks.test("Pieces: the toll for each track, all of it to the owner", TermsEdgesTest::tollForEachTrack);
        Checks.test("Pieces: the highest toll there can be", TermsEdgesTest::highestToll);
        Checks.test("Pieces: no toll at setting 0 of 0", TermsEdgesTest::tollOfZero);
        Checks.test("Pieces: when a piece is laid", TermsEdgesTest::laidPiece);
        Checks.test("Settings: coins for each piece, 0 to 9", TermsEdgesTest::coinsForPieces);
        Checks.test("Settings: 1 to 4 tracks on a square", TermsEdgesTest::roomForTracks);
        Checks.test("An object is used for at most 512 calls", TermsEdgesTest::lastCall);
        Checks.end();
    }

    private static void due(String what, Object got, Object want) {
        Checks.due(what, got, want);
    }

    private static void newTown() {
        TramTolls x = new TramTolls();
        int[] counts = {0, 0, 4, 0, 0, 0, 4, 0};
        for (int what = 0; what < 8; what++) {
            due("count " + what, x.count(what), counts[what]);
        }
        for (int square = 0; square < 80; square++) {
            due("house on " + square, x.square(square, 2), 0);
            due("stop on " + square, x.square(square, 3), -1);
        }
        for (int stop = 0; stop < 12; stop++) {
            due("stop " + stop, x.stopOf(stop, 0), -1);
        }
        due("first error", x.firstError(), 0);
        due("buffer", x.clearBuffer(), 0);
        due("toll", x.setting(0), 2);
        due("tracks", x.setting(1), 2);
        due("coins for a piece", x.setting(2), 1);
        due("no saved state", Checks.outcome(x, TramTolls::undo), Checks.STATE);
    }

    /** A line goes over the whole town; from each of its heads the ways out of the town are tried. */
    private static void borders() {
        TramTolls x = new TramTolls();
        x.set(0, 0);
        int square = 0;
        for (int i = 0; i < 80; i++) {
            due("head " + i, x.player(0, 2), square);
            boolean[] leaves = {square < 10, square % 10 == 9, square >= 70, square % 10 == 0};
            for (int direction = 0; direction < 4; direction++) {
                boolean isFirst = x.refusal(0, 6, direction) == 1;
                due("from " + square + " to " + direction, isFirst, leaves[direction]);
            }
            if (i < 79) {
                int step = Checks.snakeStep(square, 0);
                x.lay(0, 6, step);
                square = Checks.beside(square, step);
            }
        }
        due("squares of the line", x.player(0, 1), 80);
    }

    private static void noTrackOnHouse() {
        TramTolls x = Checks.played("0:1e3e3e3e5s3s3s3s");
        x.house(54, true);
        x.house(45, true);
        x.house(43, true);
        due("below", x.refusal(0, 3, S), 3);
        due("to the right", x.refusal(0, 5, W), 3);
        due("to the left", x.refusal(0, 5, E), 3);
        due("none is laid", Checks.turns(x, "0:3s"), 0);
        due("from another square", x.branch(0, 34, E), 0);
        due("above it", x.refusal(0, 6, S), 3);
        x.house(45, false);
        due("no more", x.refusal(0, 6, S), 0);
    }

    private static void firstLines() {
        TramTolls x = new TramTolls();
        for (int player = 0; player < 4; player++) {
            due("coins", x.player(player, 0), 20);
            due("squares", x.player(player, 1), 1);
            due("head", x.player(player, 2), DEPOTS[player]);
            due("last piece", x.player(player, 3), -1);
            due("owned", x.player(player, 4), 1);
            due("paid", x.player(player, 8), 0);
            due("got", x.player(player, 9), 0);
        }
        for (int square = 0; square < 80; square++) {
            int depotOf = -1;
            for (int player = 0; player < 4; player++) {
                depotOf = DEPOTS[player] == square ? player : depotOf;
            }
            due("tracks on " + square, x.square(square, 0), depotOf < 0 ? 0 : 1 << depotOf);
            due("owner of " + square, x.square(square, 1), depotOf);
        }
    }

    private static void firstIsOwner() {
        TramTolls x = Checks.meeting();
        due("the first", x.square(44, 1), 0);
        x.lay(3, 3, E);
        x.lay(2, 3, N);
        due("still the first", x.square(44, 1), 0);
        TramTolls y = Checks.meeting();
        y.takeUp(0);
        y.lay(3, 3, E);
        due("now another", y.square(44, 1), 3);
        y.lay(1, 3, W);
        due("not a lower player", y.square(44, 1), 3);
        due("tracks", y.square(44, 0), 1 << 3 | 1 << 1);
    }

    private static void depotsOwner() {
        TramTolls x = Checks.everywhere(2);
        for (int player = 0; player < 4; player++) {
            due("owner of " + DEPOTS[player], x.square(DEPOTS[player], 1), player);
            due("tracks on " + DEPOTS[player], x.square(DEPOTS[player], 0), 3 | 1 << player);
        }
        due("all but three depots", x.player(0, 4), 77);
        due("the depot alone", x.player(1, 4), 1);
    }

    private static void joinsWithoutStops() {
        TramTolls x = new TramTolls();
        for (int player = 0; player < 4; player++) {
            due("without stops", x.player(player, 7), 1);
        }
        x.stop(44, 2);
        due("with one", x.player(2, 7), 0);
        due("the others", x.count(6), 3);
        x.drop(0);
        due("without stops again", x.player(2, 7), 1);
    }

    private static void joinsAll() {
        TramTolls x = new TramTolls();
        x.stop(1, 0);
        x.stop(0, 0);
        x.stop(2, 0);
        due("one of three", x.player(0, 7), 0);
        x.lay(0, 1, E);
        due("two of three", x.player(0, 7), 0);
        x.lay(0, 1, E);
        due("all", x.player(0, 7), 1);
        x.stop(2, 1);
        due("the track of another does not count", x.player(1, 7), 0);
    }

    private static void dice() {
        // Lines that come to 44 northwards, eastwards, southwards and westwards.
        String[] ways = {"3:1e3e3e3e5n3n3n", "0:1s3s3s3s5e3e3e3e", "0:1e3e3e3e5s3s3s3s", "1:1s3s3s3s5w3w3w3w3w"};
        int[] players = {3, 0, 0, 1};
        // What the dice 1, 3 and 5 allow behind these; each next die but 6 is like the one before or new.
        String[][] allowed = {{"nwe", "n", "we"}, {"ens", "e", "ns"}, {"sew", "s", "ew"}, {"wsn", "w", "sn"}};
        for (int last = 0; last < 4; last++) {
            TramTolls x = Checks.played(ways[last]);
            due("head", x.player(players[last], 2), 44);
            due("last piece", x.player(players[last], 3), last);
            for (int die = 1; die <= 6; die++) {
                for (int direction = 0; direction < 4; direction++) {
                    boolean may = die == 6 || allowed[last][(die - 1) / 2].indexOf("nesw".charAt(direction)) >= 0;
                    boolean back = direction == new int[] {S, W, N, E}[last];
                    int reason = !may ? 2 : back ? 4 : 0;
                    int got = x.refusal(players[last], die, direction);
                    due("behind " + last + ", die " + die + ", direction " + direction, got, reason);
                }
            }
        }
    }

    private static void firstPieces() {
        String[] out = {"nw", "ne", "es", "sw"};
        TramTolls x = new TramTolls();
        TramTolls y = Checks.played("0:1e3e;1:1s;2:1w5n;3:1n");
        for (int player = 0; player < 4; player++) {
            y.takeUp(player);
            for (int die = 1; die <= 6; die++) {
                for (int direction = 0; direction < 4; direction++) {
                    int reason = out[player].indexOf("nesw".charAt(direction)) >= 0 ? 1 : 0;
                    String what = "player " + player + ", die " + die + ", direction " + direction;
                    due(what, x.refusal(player, die, direction), reason);
                    due("line taken up, " + what, y.refusal(player, die, direction), reason);
                }
            }
        }
    }

    private static void diceBehindBranch() {
        TramTolls x = Checks.played("0:1e3e3e");
        x.branch(0, 1, S);
        due("straight on behind the branch", x.refusal(0, 3, S), 0);
        due("not behind the piece ahead of it", x.refusal(0, 3, E), 2);
        due("to the left of it", x.refusal(0, 5, E), 0);
        due("not straight on", x.refusal(0, 5, S), 2);
    }

    private static void leavingComesFirst() {
        TramTolls x = Checks.played("0:1e");
        due("out of the town and against the die", x.refusal(0, 3, N), 1);
        due("with a die that allows it", x.refusal(0, 1, N), 1);
        due("with any die", x.refusal(0, 6, N), 1);
        TramTolls y = Checks.played("2:1n");
        due("to the east, against the die", y.refusal(2, 4, E), 1);
        TramTolls z = Checks.played("3:1n");
        due("to the west, against the die", z.refusal(3, 4, W), 1);
        TramTolls u = Checks.played("3:1e");
        due("to the south, against the die", u.refusal(3, 4, S), 1);
    }

    private static void dieComesSecond() {
        TramTolls x = Checks.played("0:1e");
        x.house(11, true);
        due("and a house", x.refusal(0, 3, S), 2);
        due("the house", x.refusal(0, 1, S), 3);
        due("and the own track", x.refusal(0, 1, W), 2);
        TramTolls y = Checks.played("0:1e;3:1n3n3n3n3n3n5e");
        y.set(1, 1);
        due("and full", y.refusal(0, 3, S), 2);
        due("full", y.refusal(0, 1, S), 5);
        TramTolls z = Checks.poor();
        z.branch(1, 6, S);
        z.lay(1, 5, W);
        due("and too dear", z.refusal(0, 3, S), 2);
        due("too dear", z.refusal(0, 1, S), 6);
    }

    private static void ownTrackAheadOfToll() {
        TramTolls x = Checks.poor();
        due("and too dear", x.refusal(0, 6, W), 4);
        x.set(1, 1);
        due("and full", x.refusal(0, 6, W), 4);
    }

    private static void fullAheadOfToll() {
        TramTolls x = Checks.poor();
        due("too dear", x.refusal(0, 3, E), 6);
        x.set(1, 1);
        due("and full", x.refusal(0, 3, E), 5);
    }

    private static void fullSquares() {
        TramTolls x = Checks.meeting();
        int[] comers = {1, 2, 3};
        for (int tracks = 1; tracks <= 3; tracks++) {
            int player = comers[tracks - 1];
            int direction = Checks.towards44(player);
            for (int room = 1; room <= 4; room++) {
                x.set(1, room);
                int reason = tracks >= room ? 5 : 0;
                due(tracks + " tracks, setting " + room, x.refusal(player, 3, direction), reason);
            }
            x.lay(player, 3, direction);
        }
        due("all tracks", x.square(44, 0), 15);
    }

    private static void lastCoins() {
        TramTolls x = Checks.poor();
        due("coins", x.player(0, 0), 2);
        x.set(0, 3);
        due("one too few", x.refusal(0, 3, E), 6);
        x.set(0, 2);
        due("just enough", x.refusal(0, 3, E), 0);
        due("toll", x.lay(0, 3, E), 2);
        due("none left", x.player(0, 0), 0);
        x.set(0, 1);
        due("one too few again", x.refusal(0, 3, E), 6);
        x.set(2, 9);
        due("the coins for the piece come behind the toll", x.refusal(0, 3, E), 6);
        x.set(0, 0);
        due("nothing to pay", x.refusal(0, 3, E), 0);
        due("nothing is paid", x.lay(0, 3, E), 0);
        due("coins for the piece", x.player(0, 0), 9);
    }

    private static void noTollWithoutOwner() {
        TramTolls x = new TramTolls();
        x.set(0, 9);
        due("toll", x.lay(0, 1, E), 0);
        due("coins", x.player(0, 0), 21);
        x.takeUp(0);
        due("where a line was", x.lay(0, 1, E), 0);
        due("paid", x.count(5), 0);
    }

    private static void tollForEachTrack() {
        TramTolls x = Checks.meeting();
        due("one track", x.lay(1, 3, W), 2);
        due("two tracks", x.lay(2, 3, N), 4);
        due("three tracks", x.lay(3, 3, E), 6);
        int[] coins = {32, 18, 16, 14};
        int[] paid = {0, 2, 4, 6};
        for (int player = 0; player < 4; player++) {
            due("coins of " + player, x.player(player, 0), coins[player]);
            due("paid by " + player, x.player(player, 8), paid[player]);
            due("got by " + player, x.player(player, 9), player == 0 ? 12 : 0);
        }
        due("paid by all", x.count(5), 12);
    }

    private static void highestToll() {
        TramTolls x = Checks.meeting();
        x.set(0, 9);
        due("one track", x.lay(1, 3, W), 9);
        due("two tracks", x.lay(2, 3, N), 18);
        due("not enough", x.refusal(3, 3, E), 6);
        x.give(3, 6);
        due("one too few", x.refusal(3, 3, E), 6);
        x.give(3, 1);
        due("three tracks", x.lay(3, 3, E), 27);
        due("none left", x.player(3, 0), 0);
        due("all to the owner", x.player(0, 0), 20 + 54);
    }

    private static void tollOfZero() {
        TramTolls x = Checks.meeting();
        x.set(0, 0);
        due("one track", x.lay(1, 3, W), 0);
        due("two tracks", x.lay(2, 3, N), 0);
        due("coins of the owner", x.player(0, 0), 20);
        due("got", x.player(0, 9), 0);
    }

    private static void laidPiece() {
        TramTolls x = Checks.meeting();
        x.lay(3, 3, E);
        due("the player's track", x.square(44, 0), 1 | 1 << 3);
        due("the head", x.player(3, 2), 44);
        due("the direction", x.player(3, 3), E);
        x.lay(3, 5, N);
        due("the next head", x.player(3, 2), 34);
        due("the next direction", x.player(3, 3), N);
        due("the squares", x.player(3, 1), 9);
    }

    private static void coinsForPieces() {
        TramTolls x = new TramTolls();
        x.set(2, 0);
        x.lay(0, 1, E);
        due("none", x.player(0, 0), 20);
        x.set(2, 9);
        x.lay(0, 1, E);
        due("nine", x.player(0, 0), 29);
        due("others", x.player(1, 0), 20);
        x.branch(0, 0, S);
        due("for a branch too", x.player(0, 0), 38);
        Checks.turns(x, "0:1s3s");
        due("for each of a text", x.player(0, 0), 56);
    }

    private static void roomForTracks() {
        TramTolls x = Checks.meeting();
        x.set(1, 1);
        due("no second track", x.refusal(1, 3, W), 5);
        x.set(1, 2);
        x.lay(1, 3, W);
        due("no third track", x.refusal(2, 3, N), 5);
        x.set(1, 3);
        x.lay(2, 3, N);
        due("no fourth track", x.refusal(3, 3, E), 5);
        x.set(1, 4);
        x.lay(3, 3, E);
        due("four tracks", x.square(44, 0), 15);
        x.set(1, 1);
        due("they stay", x.square(44, 0), 15);
    }

    private static void lastCall() {
        TramTolls x = new TramTolls();
        for (int i = 0; i < 255; i++) {
            x.give(0, 300);
            x.undo();
        }
        due("the call 511", x.give(0, 300), 320);
        due("the call 512", x.undo(), 0);
    }
}
