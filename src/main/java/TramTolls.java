import java.util.Arrays;

/** Tram lines drawn by dice on a shared town, with tolls for the tracks of others. */
public final class TramTolls {
    public static final int NONE = -1;

    private static final int COLUMNS = 10;
    private static final int ROWS = 8;
    private static final int SQUARES = COLUMNS * ROWS;
    private static final int PLAYERS = 4;
    private static final int DIRECTIONS = 4;
    private static final int STOPS = 12;
    private static final int DICE = 6;
    private static final int SETTINGS = 3;
    private static final int SAVED_STATES = 6;
    private static final int TEXT_LENGTH = 60;

    private static final int[] DEPOTS = {0, 9, 79, 70};
    private static final int FIRST_COINS = 20;
    private static final int MOST_GIVEN = 999;
    private static final int MOST_COINS_BY_GIFT = 99999;

    private static final int TOLL = 0;
    private static final int TRACKS_PER_SQUARE = 1;
    private static final int COINS_PER_PIECE = 2;
    private static final int[] FIRST_SETTINGS = {2, 2, 1};

    private static final int LEAVES_TOWN = 1;
    private static final int DIE_FORBIDS = 2;
    private static final int HOUSE = 3;
    private static final int OWN_TRACK = 4;
    private static final int FULL = 5;
    private static final int TOO_DEAR = 6;

    private static final int ANYWHERE_DIE = 6;
    private static final int DIGEST_START = 2909;
    private static final int DIGEST_SQUARE = 44;

    /** All that a saved state holds: the town, the lines, the stops, the coins and the settings. */
    private static final class Town {
        final int[] houses = new int[SQUARES];
        final int[] trackMasks = new int[SQUARES];
        final int[] owners = new int[SQUARES];
        // NONE in both rows for a stop that is not there.
        final int[] stopSquares = new int[STOPS];
        final int[] stopPlayers = new int[STOPS];
        final int[] coins = new int[PLAYERS];
        final int[] heads = DEPOTS.clone();
        final int[] lastDirections = new int[PLAYERS];
        final int[] tollsPaid = new int[PLAYERS];
        final int[] tollsGot = new int[PLAYERS];
        final int[] settings = FIRST_SETTINGS.clone();
        int piecesLaid;

        Town() {
            Arrays.fill(owners, NONE);
            Arrays.fill(stopSquares, NONE);
            Arrays.fill(stopPlayers, NONE);
            Arrays.fill(coins, FIRST_COINS);
            Arrays.fill(lastDirections, NONE);
            for (int player = 0; player < DEPOTS.length; player++) {
                int depot = DEPOTS[player];
                if (depot >= 0 && depot < SQUARES) {
                    trackMasks[depot] = 1 << player;
                    owners[depot] = player;
                }
            }
        }

        void copyFrom(Town other) {
            copyRow(other.houses, houses);
            copyRow(other.trackMasks, trackMasks);
            copyRow(other.owners, owners);
            copyRow(other.stopSquares, stopSquares);
            copyRow(other.stopPlayers, stopPlayers);
            copyRow(other.coins, coins);
            copyRow(other.heads, heads);
            copyRow(other.lastDirections, lastDirections);
            copyRow(other.tollsPaid, tollsPaid);
            copyRow(other.tollsGot, tollsGot);
            copyRow(other.settings, settings);
            piecesLaid = other.piecesLaid;
        }

        boolean hasTrack(int player, int square) {
            return (at(trackMasks, square) & 1 << player) != 0;
        }

        int tracksOn(int square) {
            return Integer.bitCount(at(trackMasks, square));
        }

        int tollOn(int square) {
            if (at(owners, square) == NONE) {
                return 0;
            }
            return at(settings, TOLL) * tracksOn(square);
        }

        /** The reason 3, 4 or 5 for which no die lets the player come to the square, or 0. */
        int obstacle(int player, int square) {
            int mask = at(trackMasks, square);
            if (at(houses, square) != 0) {
                return HOUSE;
            }
            if ((mask & 1 << player) != 0) {
                return OWN_TRACK;
            }
            return Integer.bitCount(mask) >= at(settings, TRACKS_PER_SQUARE) ? FULL : 0;
        }

        /** The reason for which a piece is refused, or 0. */
        int reason(int player, int from, int die, int direction) {
            int to = neighbour(from, direction);
            if (to == NONE) {
                return LEAVES_TOWN;
            }
            if (!dieAllows(die, at(lastDirections, player), direction)) {
                return DIE_FORBIDS;
            }
            int obstacle = obstacle(player, to);
            if (obstacle != 0) {
                return obstacle;
            }
            return tollOn(to) > at(coins, player) ? TOO_DEAR : 0;
        }

        /** Lays a piece that is not refused, and returns its toll. */
        int layPiece(int player, int from, int direction) {
            int to = neighbour(from, direction);
            int toll = tollOn(to);
            int owner = at(owners, to);
            if (owner == NONE) {
                put(owners, to, player);
            } else {
                increase(coins, owner, toll);
                increase(tollsGot, owner, toll);
            }
            increase(coins, player, at(settings, COINS_PER_PIECE) - toll);
            increase(tollsPaid, player, toll);
            put(trackMasks, to, at(trackMasks, to) | 1 << player);
            put(heads, player, to);
            put(lastDirections, player, direction);
            piecesLaid++;
            return toll;
        }

        int removeLine(int player) {
            int depot = at(DEPOTS, player);
            int removed = 0;
            for (int square = 0; square < SQUARES; square++) {
                if (square != depot && hasTrack(player, square)) {
                    removeTrack(player, square);
                    removed++;
                }
            }
            put(heads, player, depot);
            put(lastDirections, player, NONE);
            return removed;
        }

        void removeTrack(int player, int square) {
            int rest = at(trackMasks, square) & ~(1 << player);
            put(trackMasks, square, rest);
            if (at(owners, square) == player) {
                put(owners, square, rest == 0 ? NONE : Integer.numberOfTrailingZeros(rest));
            }
        }

        int lowestStopOn(int square) {
            for (int stop = 0; stop < STOPS; stop++) {
                if (at(stopSquares, stop) == square) {
                    return stop;
                }
            }
            return NONE;
        }

        int lowestFreeStop() {
            return lowestStopOn(NONE);
        }

        boolean hasStopOn(int square, int player) {
            for (int stop = 0; stop < STOPS; stop++) {
                if (at(stopSquares, stop) == square && at(stopPlayers, stop) == player) {
                    return true;
                }
            }
            return false;
        }

        boolean isThere(int stop) {
            return at(stopSquares, stop) != NONE;
        }

        boolean isReached(int stop) {
            return hasTrack(at(stopPlayers, stop), at(stopSquares, stop));
        }

        boolean isMissing(int stop, int player) {
            return at(stopPlayers, stop) == player && !hasTrack(player, at(stopSquares, stop));
        }

        int stopsOfLine(int player) {
            int stops = 0;
            for (int stop = 0; stop < STOPS; stop++) {
                if (at(stopPlayers, stop) == player) {
                    stops++;
                }
            }
            return stops;
        }

        int stopsReached(int player) {
            int reached = 0;
            for (int stop = 0; stop < STOPS; stop++) {
                if (at(stopPlayers, stop) == player && hasTrack(player, at(stopSquares, stop))) {
                    reached++;
                }
            }
            return reached;
        }

        boolean joinsStops(int player) {
            return stopsReached(player) == stopsOfLine(player);
        }

        int lineLength(int player) {
            int length = 0;
            for (int square = 0; square < SQUARES; square++) {
                if (hasTrack(player, square)) {
                    length++;
                }
            }
            return length;
        }

        int squaresOwned(int player) {
            int owned = 0;
            for (int square = 0; square < SQUARES; square++) {
                if (at(owners, square) == player) {
                    owned++;
                }
            }
            return owned;
        }

        int squaresWithTracks(int atLeast) {
            int squares = 0;
            for (int square = 0; square < SQUARES; square++) {
                if (tracksOn(square) >= atLeast) {
                    squares++;
                }
            }
            return squares;
        }

        int stopsThere() {
            int stops = 0;
            for (int stop = 0; stop < STOPS; stop++) {
                if (isThere(stop)) {
                    stops++;
                }
            }
            return stops;
        }

        int linesThatJoin() {
            int lines = 0;
            for (int player = 0; player < PLAYERS; player++) {
                if (joinsStops(player)) {
                    lines++;
                }
            }
            return lines;
        }

        int leader() {
            int leader = 0;
            for (int player = 1; player < PLAYERS; player++) {
                int more = stopsReached(player) - stopsReached(leader);
                if (more > 0 || more == 0 && at(coins, player) > at(coins, leader)) {
                    leader = player;
                }
            }
            return leader;
        }

        double share() {
            int tracked = squaresWithTracks(1);
            return tracked == 0 ? 0.0 : (double) squaresWithTracks(2) / tracked;
        }
    }

    /** Searches for ways; its rows are made once and used by every search. */
    private static final class Ways {
        final int[] lengths = new int[SQUARES];
        final int[] queue = new int[SQUARES];
        int queued;

        int fewestPieces(Town town, int player, int goal) {
            clearLengths();
            for (int square = 0; square < SQUARES; square++) {
                if (town.hasTrack(player, square)) {
                    enqueue(square, 0);
                }
            }
            flood(town, player);
            return at(lengths, goal);
        }

        int leastTolls(Town town, int player, int goal) {
            for (int square = 0; square < SQUARES; square++) {
                put(lengths, square, town.hasTrack(player, square) ? 0 : NONE);
            }
            boolean changed = true;
            for (int round = 0; round < SQUARES && changed; round++) {
                changed = false;
                for (int i = 0; i < SQUARES; i++) {
                    // The turns of order bring a cost across the town in few rounds.
                    int square = round % 2 == 0 ? i : SQUARES - 1 - i;
                    if (improveCost(town, player, square)) {
                        changed = true;
                    }
                }
            }
            return at(lengths, goal);
        }

        private boolean improveCost(Town town, int player, int square) {
            if (town.obstacle(player, square) != 0) {
                return false;
            }
            int before = NONE;
            for (int direction = 0; direction < DIRECTIONS; direction++) {
                int beside = neighbour(square, direction);
                if (beside != NONE) {
                    before = lesser(before, at(lengths, beside));
                }
            }
            if (before == NONE) {
                return false;
            }
            int cost = before + town.tollOn(square);
            int known = at(lengths, square);
            if (known != NONE && known <= cost) {
                return false;
            }
            put(lengths, square, cost);
            return true;
        }

        int bestDirection(Town town, int player, int die) {
            floodFromMissingStops(town, player);
            int lineAway = nearestOfLine(town, player);
            int head = at(town.heads, player);
            int best = NONE;
            int bestAway = 0;
            int bestToll = 0;
            for (int direction = 0; direction < DIRECTIONS; direction++) {
                if (town.reason(player, head, die, direction) != 0) {
                    continue;
                }
                int to = neighbour(head, direction);
                int away = lesser(lineAway, at(lengths, to));
                int toll = town.tollOn(to);
                if (away == NONE) {
                    continue;
                }
                if (best == NONE || away < bestAway || away == bestAway && toll < bestToll) {
                    best = direction;
                    bestAway = away;
                    bestToll = toll;
                }
            }
            return best;
        }

        /** One search backwards from the stops tells the way from every square to the nearest of them. */
        private void floodFromMissingStops(Town town, int player) {
            clearLengths();
            for (int stop = 0; stop < STOPS; stop++) {
                int square = at(town.stopSquares, stop);
                if (town.isMissing(stop, player) && town.obstacle(player, square) == 0) {
                    enqueue(square, 0);
                }
            }
            flood(town, player);
        }

        private int nearestOfLine(Town town, int player) {
            int nearest = NONE;
            for (int square = 0; square < SQUARES; square++) {
                if (town.hasTrack(player, square)) {
                    nearest = lesser(nearest, at(lengths, square));
                }
            }
            return nearest;
        }

        private void clearLengths() {
            Arrays.fill(lengths, NONE);
            queued = 0;
        }

        private void enqueue(int square, int length) {
            put(lengths, square, length);
            put(queue, queued, square);
            queued++;
        }

        private void flood(Town town, int player) {
            for (int i = 0; i < queued && i < SQUARES; i++) {
                int from = at(queue, i);
                int length = at(lengths, from) + 1;
                for (int direction = 0; direction < DIRECTIONS; direction++) {
                    int to = neighbour(from, direction);
                    if (to == NONE || at(lengths, to) != NONE) {
                        continue;
                    }
                    int obstacle = town.obstacle(player, to);
                    if (obstacle == 0) {
                        enqueue(to, length);
                    } else if (obstacle == OWN_TRACK) {
                        // Backwards a way is at its end here: it comes from the line.
                        put(lengths, to, length);
                    }
                }
            }
        }
    }

    /** The buffer, and the syntax of turns as a text. */
    private static final class Text {
        private static final int AT_PLAYER = 0;
        private static final int AT_COLON = 1;
        private static final int AT_FIRST_DIE = 2;
        private static final int AT_LETTER = 3;
        private static final int BEHIND_PIECE = 4;

        final int[] codes = new int[TEXT_LENGTH];
        int length;

        void addCode(int code) {
            put(codes, length, code);
            length++;
        }

        int errorIndex() {
            int place = AT_PLAYER;
            for (int i = 0; i < length; i++) {
                place = nextPlace(place, at(codes, i));
                if (place == NONE) {
                    return i;
                }
            }
            return length;
        }

        boolean isComplete() {
            int place = AT_PLAYER;
            for (int i = 0; i < length && place != NONE; i++) {
                place = nextPlace(place, at(codes, i));
            }
            return place == BEHIND_PIECE;
        }

        private static int nextPlace(int place, int code) {
            switch (place) {
                case AT_PLAYER:
                    return code >= '0' && code <= '3' ? AT_COLON : NONE;
                case AT_COLON:
                    return code == ':' ? AT_FIRST_DIE : NONE;
                case AT_FIRST_DIE:
                    return isDieCode(code) ? AT_LETTER : NONE;
                case AT_LETTER:
                    return directionOf(code) != NONE ? BEHIND_PIECE : NONE;
                case BEHIND_PIECE:
                    if (code == ';') {
                        return AT_PLAYER;
                    }
                    return isDieCode(code) ? AT_LETTER : NONE;
                default:
                    return NONE;
            }
        }

        private static boolean isDieCode(int code) {
            return code >= '1' && code <= '6';
        }

        private static int directionOf(int code) {
            switch (code) {
                case 'n':
                    return 0;
                case 'e':
                    return 1;
                case 's':
                    return 2;
                case 'w':
                    return 3;
                default:
                    return NONE;
            }
        }

        /** Lays the pieces of a complete text up to the first that is refused, and returns how many. */
        int layPieces(Town town) {
            int laid = 0;
            int player = 0;
            int digit = 0;
            for (int i = 0; i < length; i++) {
                int code = at(codes, i);
                int direction = directionOf(code);
                if (code == ':') {
                    player = digit;
                } else if (direction != NONE) {
                    int head = at(town.heads, player);
                    if (town.reason(player, head, digit, direction) != 0) {
                        return laid;
                    }
                    town.layPiece(player, head, direction);
                    laid++;
                } else {
                    digit = code - '0';
                }
            }
            return laid;
        }
    }

    private final Town town = new Town();
    private final Town[] saved = new Town[SAVED_STATES];
    private int savedCount;
    private final Text text = new Text();
    private final Ways ways = new Ways();

    public TramTolls() {
        for (int i = 0; i < SAVED_STATES; i++) {
            saved[i] = new Town();
        }
    }

    // ---- the town

    public int house(int square, boolean isHouse) throws IndexOutOfBoundsException, IllegalStateException {
        if (!isSquare(square)) {
            throw new IndexOutOfBoundsException("no such square");
        }
        if (town.tracksOn(square) > 0 || town.lowestStopOn(square) != NONE) {
            throw new IllegalStateException("the square has a track or a stop");
        }
        saveState();
        int before = at(town.houses, square);
        put(town.houses, square, isHouse ? 1 : 0);
        return before;
    }

    public int stop(int square, int player) throws IndexOutOfBoundsException, IllegalStateException {
        if (!isSquare(square) || !isPlayer(player)) {
            throw new IndexOutOfBoundsException("no such square or player");
        }
        if (at(town.houses, square) != 0 || town.hasStopOn(square, player)) {
            throw new IllegalStateException("there is a house or a stop of the player");
        }
        int stop = town.lowestFreeStop();
        if (stop == NONE) {
            throw new IllegalStateException("all stops are there");
        }
        saveState();
        put(town.stopSquares, stop, square);
        put(town.stopPlayers, stop, player);
        return stop;
    }

    public int drop(int stop) throws IndexOutOfBoundsException {
        if (!isStop(stop) || !town.isThere(stop)) {
            throw new IndexOutOfBoundsException("no such stop");
        }
        saveState();
        int square = at(town.stopSquares, stop);
        put(town.stopSquares, stop, NONE);
        put(town.stopPlayers, stop, NONE);
        return square;
    }

    // ---- lines

    public int lay(int player, int die, int direction)
            throws IndexOutOfBoundsException, IllegalArgumentException, IllegalStateException {
        if (!isPlayer(player)) {
            throw new IndexOutOfBoundsException("no such player");
        }
        if (!isDie(die) || !isDirection(direction)) {
            throw new IllegalArgumentException("die or direction is out of range");
        }
        int head = at(town.heads, player);
        if (town.reason(player, head, die, direction) != 0) {
            throw new IllegalStateException("the piece is refused");
        }
        saveState();
        return town.layPiece(player, head, direction);
    }

    public int branch(int player, int square, int direction)
            throws IndexOutOfBoundsException, IllegalArgumentException, IllegalStateException {
        if (!isPlayer(player) || !isSquare(square) || !town.hasTrack(player, square)) {
            throw new IndexOutOfBoundsException("no such player, or not a square of the line");
        }
        if (!isDirection(direction)) {
            throw new IllegalArgumentException("direction is out of range");
        }
        if (town.reason(player, square, ANYWHERE_DIE, direction) != 0) {
            throw new IllegalStateException("the piece is refused");
        }
        saveState();
        return town.layPiece(player, square, direction);
    }

    public int takeUp(int player) throws IndexOutOfBoundsException {
        if (!isPlayer(player)) {
            throw new IndexOutOfBoundsException("no such player");
        }
        saveState();
        return town.removeLine(player);
    }

    public int give(int player, int coins)
            throws IndexOutOfBoundsException, IllegalArgumentException, IllegalStateException {
        if (!isPlayer(player)) {
            throw new IndexOutOfBoundsException("no such player");
        }
        if (coins < 1 || coins > MOST_GIVEN) {
            throw new IllegalArgumentException("coins is out of range");
        }
        if (at(town.coins, player) + coins > MOST_COINS_BY_GIFT) {
            throw new IllegalStateException("the player would have too many coins");
        }
        saveState();
        increase(town.coins, player, coins);
        return at(town.coins, player);
    }

    public int set(int setting, int value) throws IndexOutOfBoundsException, IllegalArgumentException {
        if (!isSetting(setting)) {
            throw new IndexOutOfBoundsException("no such setting");
        }
        if (!isSettingValue(setting, value)) {
            throw new IllegalArgumentException("value is out of range");
        }
        saveState();
        int before = at(town.settings, setting);
        put(town.settings, setting, value);
        return before;
    }

    // ---- texts

    public int append(int code) throws IllegalArgumentException, IllegalStateException {
        if (code < 33 || code > 126) {
            throw new IllegalArgumentException("code is not 33 to 126");
        }
        if (text.length >= TEXT_LENGTH) {
            throw new IllegalStateException("the buffer is full");
        }
        text.addCode(code);
        return text.length;
    }

    public int clearBuffer() {
        int before = text.length;
        text.length = 0;
        return before;
    }

    public int firstError() {
        return text.errorIndex();
    }

    public int play() throws IllegalArgumentException {
        if (!text.isComplete()) {
            throw new IllegalArgumentException("the buffer is not complete turns as a text");
        }
        saveState();
        int laid = text.layPieces(town);
        text.length = 0;
        return laid;
    }

    public int undo() throws IllegalStateException {
        if (savedCount < 1 || savedCount > SAVED_STATES) {
            throw new IllegalStateException("there is no saved state");
        }
        Town latest = saved[savedCount - 1];
        if (latest != null) {
            town.copyFrom(latest);
        }
        savedCount--;
        return savedCount;
    }

    // ---- looks; nothing is changed

    public int square(int square, int what) throws IndexOutOfBoundsException, IllegalArgumentException {
        if (!isSquare(square)) {
            throw new IndexOutOfBoundsException("no such square");
        }
        if (what < 0 || what > 3) {
            throw new IllegalArgumentException("what is not 0 to 3");
        }
        return propertyOfSquare(square, what);
    }

    public int stopOf(int stop, int what) throws IndexOutOfBoundsException, IllegalArgumentException {
        if (!isStop(stop)) {
            throw new IndexOutOfBoundsException("stop is out of range");
        }
        if (what < 0 || what > 2) {
            throw new IllegalArgumentException("what is not 0 to 2");
        }
        return propertyOfStop(stop, what);
    }

    public int player(int player, int what) throws IndexOutOfBoundsException, IllegalArgumentException {
        if (!isPlayer(player)) {
            throw new IndexOutOfBoundsException("no such player");
        }
        if (what < 0 || what > 9) {
            throw new IllegalArgumentException("what is not 0 to 9");
        }
        return propertyOfPlayer(player, what);
    }

    public int refusal(int player, int die, int direction)
            throws IndexOutOfBoundsException, IllegalArgumentException {
        if (!isPlayer(player)) {
            throw new IndexOutOfBoundsException("no such player");
        }
        if (!isDie(die) || !isDirection(direction)) {
            throw new IllegalArgumentException("die or direction is out of range");
        }
        return town.reason(player, at(town.heads, player), die, direction);
    }

    public int count(int what) throws IllegalArgumentException {
        if (what < 0 || what > 7) {
            throw new IllegalArgumentException("what is not 0 to 7");
        }
        return numberOf(what);
    }

    public int setting(int setting) throws IndexOutOfBoundsException {
        if (!isSetting(setting)) {
            throw new IndexOutOfBoundsException("no such setting");
        }
        return at(town.settings, setting);
    }

    // ---- what would be; nothing is changed

    public int away(int player, int square) throws IndexOutOfBoundsException {
        if (!isPlayer(player) || !isSquare(square)) {
            throw new IndexOutOfBoundsException("no such player or square");
        }
        return ways.fewestPieces(town, player, square);
    }

    public int cheapest(int player, int square) throws IndexOutOfBoundsException {
        if (!isPlayer(player) || !isSquare(square)) {
            throw new IndexOutOfBoundsException("no such player or square");
        }
        return ways.leastTolls(town, player, square);
    }

    public int best(int player, int die) throws IndexOutOfBoundsException, IllegalArgumentException {
        if (!isPlayer(player)) {
            throw new IndexOutOfBoundsException("no such player");
        }
        if (!isDie(die)) {
            throw new IllegalArgumentException("die is out of range");
        }
        return ways.bestDirection(town, player, die);
    }

    public int ahead() {
        return town.leader();
    }

    public double shared() {
        return town.share();
    }

    public long digest() {
        long hash = DIGEST_START;
        for (int what = 0; what <= 7; what++) {
            hash = 31 * hash + numberOf(what);
        }
        for (int setting = 0; setting < SETTINGS; setting++) {
            hash = 31 * hash + at(town.settings, setting);
        }
        for (int square = 0; square < SQUARES; square++) {
            for (int what = 0; what <= 3; what++) {
                hash = 31 * hash + propertyOfSquare(square, what);
            }
        }
        for (int stop = 0; stop < STOPS; stop++) {
            for (int what = 0; what <= 2; what++) {
                hash = 31 * hash + propertyOfStop(stop, what);
            }
        }
        for (int player = 0; player < PLAYERS; player++) {
            hash = digestPlayer(hash, player);
        }
        hash = 31 * hash + town.leader();
        hash = 31 * hash + bitsOfShare(town.share());
        hash = 31 * hash + text.length;
        for (int i = 0; i < text.length; i++) {
            hash = 31 * hash + at(text.codes, i);
        }
        return hash;
    }

    private long digestPlayer(long start, int player) {
        long hash = start;
        for (int what = 0; what <= 9; what++) {
            hash = 31 * hash + propertyOfPlayer(player, what);
        }
        hash = 31 * hash + ways.fewestPieces(town, player, DIGEST_SQUARE);
        hash = 31 * hash + ways.leastTolls(town, player, DIGEST_SQUARE);
        int head = at(town.heads, player);
        for (int die = 1; die <= DICE; die++) {
            for (int direction = 0; direction < DIRECTIONS; direction++) {
                hash = 31 * hash + town.reason(player, head, die, direction);
            }
        }
        for (int die = 1; die <= DICE; die++) {
            hash = 31 * hash + ways.bestDirection(town, player, die);
        }
        return hash;
    }

    /** The bits of a double of 0 to 1, since the library's own function is not to be used. */
    private static long bitsOfShare(double share) {
        if (share <= 0.0) {
            return 0L;
        }
        double fraction = share;
        long exponent = 1023;
        for (int i = 0; i < 1022 && fraction < 1.0; i++) {
            fraction *= 2.0;
            exponent--;
        }
        return (exponent << 52) + (long) ((fraction - 1.0) * (1L << 52));
    }

    private int propertyOfSquare(int square, int what) {
        switch (what) {
            case 0:
                return at(town.trackMasks, square);
            case 1:
                return at(town.owners, square);
            case 2:
                return at(town.houses, square);
            default:
                return town.lowestStopOn(square);
        }
    }

    private int propertyOfStop(int stop, int what) {
        if (!town.isThere(stop)) {
            return NONE;
        }
        switch (what) {
            case 0:
                return at(town.stopSquares, stop);
            case 1:
                return at(town.stopPlayers, stop);
            default:
                return town.isReached(stop) ? 1 : 0;
        }
    }

    private int propertyOfPlayer(int player, int what) {
        switch (what) {
            case 0:
                return at(town.coins, player);
            case 1:
                return town.lineLength(player);
            case 2:
                return at(town.heads, player);
            case 3:
                return at(town.lastDirections, player);
            case 4:
                return town.squaresOwned(player);
            case 5:
                return town.stopsOfLine(player);
            case 6:
                return town.stopsReached(player);
            case 7:
                return town.joinsStops(player) ? 1 : 0;
            case 8:
                return at(town.tollsPaid, player);
            default:
                return at(town.tollsGot, player);
        }
    }

    private int numberOf(int what) {
        switch (what) {
            case 0:
                return sum(town.houses);
            case 1:
                return town.stopsThere();
            case 2:
                return town.squaresWithTracks(1);
            case 3:
                return town.squaresWithTracks(2);
            case 4:
                return town.piecesLaid;
            case 5:
                return sum(town.tollsPaid);
            case 6:
                return town.linesThatJoin();
            default:
                return savedCount;
        }
    }

    private void saveState() {
        if (savedCount < SAVED_STATES) {
            savedCount++;
        } else {
            dropOldestState();
        }
        int latest = savedCount - 1;
        if (latest >= 0 && latest < SAVED_STATES && saved[latest] != null) {
            saved[latest].copyFrom(town);
        }
    }

    /** The oldest state's rows become those of the latest, so that no call makes new ones. */
    private void dropOldestState() {
        Town oldest = saved[0];
        for (int i = 1; i < SAVED_STATES; i++) {
            saved[i - 1] = saved[i];
        }
        saved[SAVED_STATES - 1] = oldest;
    }

    private static boolean isSquare(int square) {
        return square >= 0 && square < SQUARES;
    }

    private static boolean isPlayer(int player) {
        return player >= 0 && player < PLAYERS;
    }

    private static boolean isStop(int stop) {
        return stop >= 0 && stop < STOPS;
    }

    private static boolean isDie(int die) {
        return die >= 1 && die <= DICE;
    }

    private static boolean isDirection(int direction) {
        return direction >= 0 && direction < DIRECTIONS;
    }

    private static boolean isSetting(int setting) {
        return setting >= 0 && setting < SETTINGS;
    }

    private static boolean isSettingValue(int setting, int value) {
        if (setting == TRACKS_PER_SQUARE) {
            return value >= 1 && value <= PLAYERS;
        }
        return value >= 0 && value <= 9;
    }

    /** The square beside a square of the town, NONE outside of it. */
    private static int neighbour(int square, int direction) {
        int column = square % COLUMNS;
        int row = square / COLUMNS;
        switch (direction) {
            case 0:
                return row > 0 ? square - COLUMNS : NONE;
            case 1:
                return column < COLUMNS - 1 ? square + 1 : NONE;
            case 2:
                return row < ROWS - 1 ? square + COLUMNS : NONE;
            case 3:
                return column > 0 ? square - 1 : NONE;
            default:
                return NONE;
        }
    }

    private static boolean dieAllows(int die, int lastDirection, int direction) {
        if (lastDirection == NONE || die == ANYWHERE_DIE) {
            return true;
        }
        boolean straight = direction == lastDirection;
        boolean back = direction == (lastDirection + 2) % DIRECTIONS;
        if (die <= 2) {
            return !back;
        }
        return die <= 4 ? straight : !straight && !back;
    }

    /** The lesser of two lengths, of which NONE is longer than any other. */
    private static int lesser(int one, int other) {
        if (one == NONE || other == NONE) {
            return one == NONE ? other : one;
        }
        return Math.min(one, other);
    }

    // No index is used untested, not even one that the callers have looked at.
    private static int at(int[] row, int index) {
        return index >= 0 && index < row.length ? row[index] : 0;
    }

    private static void put(int[] row, int index, int value) {
        if (index >= 0 && index < row.length) {
            row[index] = value;
        }
    }

    private static void increase(int[] row, int index, int amount) {
        put(row, index, at(row, index) + amount);
    }

    private static int sum(int[] row) {
        int sum = 0;
        for (int i = 0; i < row.length; i++) {
            sum += row[i];
        }
        return sum;
    }

    private static void copyRow(int[] from, int[] to) {
        System.arraycopy(from, 0, to, 0, Math.min(from.length, to.length));
    }
}
