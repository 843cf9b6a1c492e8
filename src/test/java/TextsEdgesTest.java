/** The edges of the promises 10 to 14: the buffer, its syntax, turns as a text, and undo. */
public final class TextsEdgesTest {
    private static final int N = Checks.N;
    private static final int E = Checks.E;
    private static final int S = Checks.S;
    private static final int W = Checks.W;

    private static final Class<?> ARGUMENT = Checks.ARGUMENT;
    private static final Class<?> STATE = Checks.STATE;

    /** 60 characters that are complete turns; the line goes down and up again in the columns 0 to 5. */
    private static final String FULL = "0:1s3s3s3s3s3s5e5n3n3n3n3n3n5e5s3s3s3s3s3s5e5n3n3n3n3n3n5e5s";

    public static void main(String[] args) {
        Checks.test("10: IllegalArgument if code is not 33 to 126", TextsEdgesTest::noCodes);
        Checks.test("10: IllegalState if the buffer has 60 characters", TextsEdgesTest::fullBuffer);
        Checks.test("10: IllegalArgument comes ahead of IllegalState", TextsEdgesTest::noCodeForFullBuffer);
        Checks.test("10: Returns the new length", TextsEdgesTest::lengths);
        Checks.test("10: each code of 33 to 126", TextsEdgesTest::eachCode);
        Checks.test("11: Returns the length that it had", TextsEdgesTest::clearedLengths);
        Checks.test("10 to 12: not undoable, and nothing else is changed", TextsEdgesTest::bufferIsNoState);
        Checks.test("12: the length of the buffer if there is none", TextsEdgesTest::noErrors);
        Checks.test("12: an empty buffer", TextsEdgesTest::noErrorInNothing);
        Checks.test("12: a full buffer; turns of any length", TextsEdgesTest::noErrorInFullBuffer);
        Checks.test("12: each character at each place", TextsEdgesTest::errorsByPlace);
        Checks.test("12: the first one of several", TextsEdgesTest::firstOfErrors);
        Checks.test("13: IllegalArgument if the buffer is not complete turns", TextsEdgesTest::incompleteTurns);
        Checks.test("13: an empty buffer is no turns", TextsEdgesTest::noTurns);
        Checks.test("13: a full buffer is played", TextsEdgesTest::fullTurns);
        Checks.test("13: up to the first one that is refused", TextsEdgesTest::refusedPieces);
        Checks.test("13: each reason ends it", TextsEdgesTest::eachReason);
        Checks.test("13: clears the buffer", TextsEdgesTest::playClears);
        Checks.test("13: undoable, as one call, also if none is laid", TextsEdgesTest::playIsOneCall);
        Checks.test("Input text: the pieces go from the head", TextsEdgesTest::piecesFromTheHead);
        Checks.test("14: IllegalState if there is none", TextsEdgesTest::nothingToUndo);
        Checks.test("14: Returns how many saved states are left", TextsEdgesTest::statesLeft);
        Checks.test("Undo: at most 6 states; the oldest one is dropped first", TextsEdgesTest::oldestDropped);
        Checks.test("Undo: also if it changes nothing", TextsEdgesTest::unchangedStates);
        Checks.test("Undo: each undoable method, all of it", TextsEdgesTest::eachUndoable);
        Checks.test("Undo: all of the pieces of play", TextsEdgesTest::playUndone);
        Checks.test("Undo: also what is counted so far", TextsEdgesTest::countsRestored);
        Checks.test("Undo: all but the buffer", TextsEdgesTest::bufferStays);
        Checks.test("Undo: a call that throws saves nothing", TextsEdgesTest::refusedSavesNothing);
        Checks.test("Undo: new calls behind an undo", TextsEdgesTest::callsBehindUndo);
        Checks.end();
    }

    private static void due(String what, Object got, Object want) {
        Checks.due(what, got, want);
    }

    // ---- promise 10

    private static TramTolls fullOfZeros() {
        return Checks.written("000000000000000000000000000000000000000000000000000000000000");
    }

    private static TramTolls fullOfTurns() {
        return Checks.written(FULL);
    }

    private static void noCodes() {
        for (int code : Checks.outside(33, 126)) {
            Checks.refused(ARGUMENT, Checks::busy, x -> x.append(code));
            Checks.refused(ARGUMENT, TramTolls::new, x -> x.append(code));
        }
        // Characters whose lower bits would be some of the text's.
        for (int code : new int[] {0, 10, 256 + '0', 65536 + '0', '0' - 65536, '0' - 256}) {
            Checks.refused(ARGUMENT, TramTolls::new, x -> x.append(code));
        }
    }

    private static void fullBuffer() {
        Checks.refused(STATE, TextsEdgesTest::fullOfZeros, x -> x.append('0'), x -> x.append(33), x -> x.append(126));
        Checks.refused(STATE, TextsEdgesTest::fullOfTurns, x -> x.append(';'), x -> x.append('1'));
        TramTolls x = fullOfZeros();
        due("it had", x.clearBuffer(), 60);
        due("room again", x.append('0'), 1);
    }

    private static void noCodeForFullBuffer() {
        for (int code : Checks.outside(33, 126)) {
            Checks.refused(ARGUMENT, TextsEdgesTest::fullOfZeros, x -> x.append(code));
        }
    }

    private static void lengths() {
        TramTolls x = new TramTolls();
        for (int length = 1; length <= 60; length++) {
            due("length", x.append('z'), length);
        }
    }

    private static void eachCode() {
        for (int first = 33; first <= 126; first += 60) {
            StringBuilder text = new StringBuilder();
            for (int code = first; code < first + 60 && code <= 126; code++) {
                text.append((char) code);
            }
            String all = text.toString();
            due("codes from " + first, Checks.written(all).digest(), Checks.hash(TramTolls::new, all));
        }
    }

    // ---- promise 11

    private static void clearedLengths() {
        TramTolls x = new TramTolls();
        due("empty", x.clearBuffer(), 0);
        x.append('~');
        due("one", x.clearBuffer(), 1);
        due("empty again", x.clearBuffer(), 0);
        due("full", fullOfZeros().clearBuffer(), 60);
        TramTolls y = fullOfTurns();
        y.clearBuffer();
        Checks.alike("cleared", y, new TramTolls());
    }

    private static void bufferIsNoState() {
        TramTolls x = Checks.busy();
        x.clearBuffer();
        TramTolls y = Checks.busy();
        y.clearBuffer();
        for (char c : "0:1e;".toCharArray()) {
            y.append(c);
            y.firstError();
        }
        y.clearBuffer();
        Checks.alike("written and cleared", y, x);
        due("no saved state", fullOfTurns().count(7), 0);
    }

    // ---- promise 12

    private static void noErrors() {
        String turns = "3:6w1n;0:1n2e3s4w5n6e;0:1n";
        for (int length = 0; length <= turns.length(); length++) {
            due("the first " + length, Checks.written(turns.substring(0, length)).firstError(), length);
        }
    }

    private static void noErrorInNothing() {
        TramTolls x = new TramTolls();
        due("new", x.firstError(), 0);
        x.append('x');
        due("an error", x.firstError(), 0);
        x.clearBuffer();
        due("cleared", x.firstError(), 0);
    }

    private static void noErrorInFullBuffer() {
        due("its length", FULL.length(), 60);
        due("complete", fullOfTurns().firstError(), 60);
        // Turns that would go on behind the end of the buffer.
        String longer = "0:1e;" + FULL.substring(0, 54) + ";";
        due("length", longer.length(), 60);
        due("one more part", Checks.written(longer).firstError(), 60);
        String cut = "0:1n;0:" + FULL.substring(2, 54) + "1";
        due("length of the cut", cut.length(), 60);
        due("a letter is missing", Checks.written(cut).firstError(), 60);
        due("an error at the end", Checks.written(FULL.substring(0, 59) + "x").firstError(), 59);
        due("nothing but errors", fullOfZeros().firstError(), 1);
    }

    /** Ahead of which characters a text goes on, for each of its places. */
    private static void errorsByPlace() {
        String[] texts = {"", "0", "0:", "0:1", "0:1n", "0:1n;", "0:1n;3", "0:1n;3:", "0:1n2", "0:1n2e"};
        String[] goOn = {"0123", ":", "123456", "nesw", "123456;", "0123", ":", "123456", "nesw", "123456;"};
        for (int i = 0; i < texts.length; i++) {
            TramTolls x = Checks.written(texts[i]);
            int length = texts[i].length();
            for (int code = 33; code <= 126; code++) {
                x.append(code);
                int place = goOn[i].indexOf((char) code) >= 0 ? length + 1 : length;
                due("behind " + texts[i] + " the code " + code, x.firstError(), place);
                x.clearBuffer();
                if (code % 30 == 0) {
                    x = new TramTolls();
                }
                Checks.write(x, texts[i]);
            }
        }
    }

    private static void firstOfErrors() {
        due("all of it", Checks.written("xyz").firstError(), 0);
        due("behind an error", Checks.written("0:1n:0:1n").firstError(), 4);
        due("two parts", Checks.written("0:7n;4:1n").firstError(), 2);
        due("an empty part", Checks.written("0:1n;;1:1n").firstError(), 5);
        due("a part without pieces", Checks.written("0:;1:1n").firstError(), 2);
        due("no part at first", Checks.written(";0:1n").firstError(), 0);
        due("a great letter", Checks.written("0:1N").firstError(), 3);
    }

    // ---- promise 13

    private static void incompleteTurns() {
        String[] texts = {"0", "0:", "0:1", "0:1e;", "0:1e;1", "0:1e;1:", "0:1e;1:1", "0:1e2", "x", "0:1ex",
            "4:1e", "0:7e", "0:0e", "0:1e;;1:1w", ";", "0:1e!1e", "0:1e;1:1wz"};
        for (String text : texts) {
            Checks.refused(ARGUMENT, () -> Checks.written(text), TramTolls::play);
            TramTolls x = Checks.written(text);
            Checks.outcome(x, TramTolls::play);
            due("the buffer stays", x.clearBuffer(), text.length());
        }
        Checks.refused(ARGUMENT, Checks::busy, TramTolls::play);
        Checks.refused(ARGUMENT, TextsEdgesTest::fullOfZeros, TramTolls::play);
        String cut = FULL.substring(0, 59) + ";";
        Checks.refused(ARGUMENT, () -> Checks.written(cut), TramTolls::play);
    }

    private static void noTurns() {
        Checks.refused(ARGUMENT, TramTolls::new, TramTolls::play);
        TramTolls x = Checks.played("0:1e");
        due("played twice", Checks.outcome(x, TramTolls::play), ARGUMENT);
        due("one saved state", x.count(7), 1);
    }

    private static void fullTurns() {
        TramTolls x = fullOfTurns();
        due("pieces", x.play(), 29);
        due("counted", x.count(4), 29);
        due("squares", x.player(0, 1), 30);
        due("head", x.player(0, 2), 14);
        due("one saved state", x.count(7), 1);
        due("buffer", x.clearBuffer(), 0);
        due("undone", x.undo(), 0);
        due("as new", x.digest(), new TramTolls().digest());
    }

    private static void refusedPieces() {
        // What is laid, the head of 0, and the head of 1, when the first, a middle one or the last is refused.
        String[] texts = {"0:1n3e;1:1s", "0:1e3e3s3e;1:1s", "0:1e3e3n", "0:1e;1:1n;0:3e", "0:1e3e;1:1s3w3s"};
        int[][] ends = {{0, 0, 9}, {2, 2, 9}, {2, 2, 9}, {1, 1, 9}, {3, 2, 19}};
        for (int i = 0; i < texts.length; i++) {
            TramTolls x = Checks.written(texts[i]);
            due("laid of " + texts[i], x.play(), ends[i][0]);
            due("counted of " + texts[i], x.count(4), ends[i][0]);
            due("head of 0 behind " + texts[i], x.player(0, 2), ends[i][1]);
            due("head of 1 behind " + texts[i], x.player(1, 2), ends[i][2]);
        }
    }

    private static void eachReason() {
        TramTolls x = Checks.poor();
        due("1", Checks.turns(x, "0:1n"), 0);
        due("2", Checks.turns(x, "0:4s"), 0);
        due("4", Checks.turns(x, "0:6w"), 0);
        due("6", Checks.turns(x, "0:3e"), 0);
        x.set(1, 1);
        due("5", Checks.turns(x, "0:3e"), 0);
        x.house(15, true);
        due("3", Checks.turns(x, "0:5s"), 0);
        x.house(15, false);
        due("none", Checks.turns(x, "0:5s"), 1);
    }

    private static void playClears() {
        TramTolls x = Checks.written("0:1e");
        x.play();
        due("all laid", x.clearBuffer(), 0);
        Checks.turns(x, "0:1n;0:1e");
        due("none laid", x.clearBuffer(), 0);
        due("from the start", x.append('0'), 1);
        due("nothing behind it", x.firstError(), 1);
    }

    private static void playIsOneCall() {
        TramTolls x = Checks.written("0:1e3e3e;1:1w3w");
        x.play();
        due("saved once", x.count(7), 1);
        due("none is laid", Checks.turns(x, "0:1n"), 0);
        due("saved too", x.count(7), 2);
        due("undone", x.undo(), 1);
        due("pieces", x.count(4), 5);
        due("undone as one", x.undo(), 0);
        Checks.alike("all undone", x, new TramTolls());
    }

    private static void piecesFromTheHead() {
        TramTolls x = Checks.played("0:1e3e3e;0:6s6w;0:3w");
        due("head", x.player(0, 2), 11);
        due("squares", x.player(0, 1), 7);
        due("pieces", x.count(4), 6);
    }

    // ---- promise 14

    private static void nothingToUndo() {
        Checks.refused(STATE, TramTolls::new, TramTolls::undo);
        Checks.refused(STATE, () -> Checks.written("0:1e"), TramTolls::undo);
        TramTolls x = Checks.played("0:1e");
        x.undo();
        due("undone", Checks.outcome(x, TramTolls::undo), STATE);
        due("undo is not undoable", x.count(7), 0);
    }

    private static void statesLeft() {
        TramTolls x = new TramTolls();
        for (int i = 1; i <= 8; i++) {
            x.give(0, i);
            due("saved", x.count(7), Math.min(i, 6));
        }
        for (int left = 5; left >= 0; left--) {
            due("left", x.undo(), left);
            due("counted", x.count(7), left);
        }
        due("none", Checks.outcome(x, TramTolls::undo), STATE);
    }

    private static void oldestDropped() {
        for (int calls = 5; calls <= 14; calls++) {
            TramTolls x = new TramTolls();
            for (int i = 1; i <= calls; i++) {
                x.give(0, i);
            }
            int coins = 20 + calls * (calls + 1) / 2;
            for (int i = calls; i > Math.max(0, calls - 6); i--) {
                x.undo();
                coins -= i;
                due(calls + " calls, without call " + i, x.player(0, 0), coins);
            }
            due(calls + " calls, no more", Checks.outcome(x, TramTolls::undo), STATE);
            due(calls + " calls, coins stay", x.player(0, 0), coins);
        }
    }

    private static void unchangedStates() {
        Checks.Call[] calls = {x -> x.house(44, false), x -> x.takeUp(2), x -> x.set(0, 2), x -> x.set(1, 2),
            x -> x.set(2, 1)};
        for (int i = 0; i < calls.length; i++) {
            TramTolls x = new TramTolls();
            calls[i].on(x);
            due("saved by " + i, x.count(7), 1);
            due("undone " + i, x.undo(), 0);
            Checks.alike("undone " + i, x, new TramTolls());
        }
        TramTolls x = Checks.busy();
        for (int i = 0; i < 6; i++) {
            x.takeUp(2);
        }
        int coins = x.player(2, 0);
        for (int i = 5; i >= 0; i--) {
            due("left", x.undo(), i);
        }
        due("all that was saved ahead is dropped", x.player(2, 0), coins);
    }

    private static void eachUndoable() {
        Checks.Call[] calls = {x -> x.house(45, true), x -> x.house(44, false), x -> x.stop(3, 1), x -> x.drop(1),
            x -> x.lay(0, 3, E), x -> x.branch(1, 7, S), x -> x.takeUp(0), x -> x.takeUp(1), x -> x.give(3, 999),
            x -> x.set(0, 9), x -> x.set(1, 4), x -> x.set(2, 0)};
        for (int i = 0; i < calls.length; i++) {
            TramTolls x = Checks.busy();
            x.undo();
            TramTolls twin = Checks.busy();
            twin.undo();
            calls[i].on(x);
            due("saved by " + i, x.count(7), 6);
            due("changed by " + i, x.digest() == twin.digest(), false);
            due("left behind " + i, x.undo(), 5);
            Checks.alike("undone " + i, x, twin);
        }
    }

    private static void playUndone() {
        TramTolls x = Checks.busy();
        x.clearBuffer();
        TramTolls twin = Checks.busy();
        twin.clearBuffer();
        due("laid", Checks.turns(x, "0:3e3e5s;2:1n;1:1s;3:1e"), 6);
        due("undone", x.undo(), 5);
        due("saved states", twin.count(7), 6);
        // The oldest saved state made room for that of play.
        for (int i = 5; i >= 1; i--) {
            due("digest without its count of states", withoutStates(x), withoutStates(twin));
            x.undo();
            twin.undo();
        }
        due("none is left", Checks.outcome(x, TramTolls::undo), STATE);
        due("one is left", twin.undo(), 0);
    }

    /** All looks but count(7). */
    private static String withoutStates(TramTolls x) {
        StringBuilder looks = new StringBuilder();
        for (int what = 0; what < 7; what++) {
            looks.append(x.count(what)).append(' ');
        }
        for (int player = 0; player < 4; player++) {
            for (int what = 0; what < 10; what++) {
                looks.append(x.player(player, what)).append(' ');
            }
        }
        return looks.toString();
    }

    private static void countsRestored() {
        TramTolls x = Checks.meeting();
        x.lay(1, 3, W);
        x.lay(2, 3, N);
        due("paid", x.count(5), 6);
        due("pieces", x.count(4), 31);
        x.undo();
        due("paid without the last", x.count(5), 2);
        due("paid by 2", x.player(2, 8), 0);
        due("got by 0", x.player(0, 9), 2);
        due("pieces without the last", x.count(4), 30);
        x.undo();
        due("none paid", x.count(5), 0);
        due("none got", x.player(0, 9), 0);
        due("coins of the payer", x.player(1, 0), 20);
        due("coins of the owner", x.player(0, 0), 20);
    }

    private static void bufferStays() {
        TramTolls x = Checks.written("0:1e");
        x.give(0, 5);
        x.append(';');
        x.undo();
        due("as it was ahead of undo", x.clearBuffer(), 5);
        TramTolls y = Checks.written("0:1e");
        y.play();
        y.undo();
        due("cleared by play, and not restored", y.clearBuffer(), 0);
        TramTolls z = new TramTolls();
        z.give(0, 5);
        Checks.write(z, "1:1w");
        z.undo();
        due("the text can be played", z.play(), 1);
    }

    private static void refusedSavesNothing() {
        TramTolls x = new TramTolls();
        Checks.Call[] calls = {y -> y.house(0, true), y -> y.stop(80, 0), y -> y.drop(0), y -> y.lay(0, 1, N),
            y -> y.branch(0, 0, N), y -> y.takeUp(4), y -> y.give(0, 0), y -> y.set(1, 0), TramTolls::play,
            TramTolls::undo};
        for (int i = 0; i < calls.length; i++) {
            due("thrown by " + i, Checks.outcome(x, calls[i]) instanceof Class, true);
            due("saved by " + i, x.count(7), 0);
        }
        Checks.alike("refused calls", x, new TramTolls());
    }

    private static void callsBehindUndo() {
        TramTolls x = new TramTolls();
        for (int i = 1; i <= 9; i++) {
            x.give(0, 10);
        }
        x.undo();
        x.undo();
        x.give(1, 1);
        due("saved", x.count(7), 5);
        x.give(1, 1);
        x.give(1, 1);
        due("full again", x.count(7), 6);
        int[] coins = {90, 90, 90, 80, 70, 60};
        int[] others = {22, 21, 20, 20, 20, 20};
        for (int i = 0; i < 6; i++) {
            x.undo();
            due("coins behind undo " + i, x.player(0, 0), coins[i]);
            due("coins of 1 behind undo " + i, x.player(1, 0), others[i]);
        }
        due("none", Checks.outcome(x, TramTolls::undo), STATE);
        x.give(2, 7);
        due("the only saved state is this one", x.undo(), 0);
        due("coins of 0 stay", x.player(0, 0), 60);
        due("coins of 2 are back", x.player(2, 0), 20);
    }
}
