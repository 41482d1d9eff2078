import java.util.Objects;
import java.util.function.IntSupplier;
import java.util.function.Supplier;
import java.util.function.ToIntFunction;

/**
 * Each sentence of the document that names a boundary case has a test of its own here, in the document's order. The words
 * given to sentence() are the document's, and whatever fails is told under them. No object gets more than 512 calls.
 */
public final class OrganPegsEdges {
    private static final String INDEX = "IndexOutOfBoundsException";
    private static final String ARGUMENT = "IllegalArgumentException";
    private static final String STATE = "IllegalStateException";
    private static final int LOW = Integer.MIN_VALUE;
    private static final int HIGH = Integer.MAX_VALUE;
    private static final int CALLS_MOST = 512;
    private static final String COMMANDS = "plvtc";
    private static final String DIGITS = "0123456789";
    private static final String BUSY_ROLL = "Ov003t08v001p0022p1041p5202l303v101v200t02v220t01";
    private static String words = "";
    private static int sentences = 0;
    private static int wrong = 0;

    public static void main(String[] args) {
        termsBarrel();
        termsOrders();
        termsTick();
        termsSettings();
        termsText();
        termsUndo();
        termsExceptions();
        promisesText();
        promisesWhatThereIs();
        promisesActions();
        promisesWhatWouldBe();
        promisesScripts();
        promisesSlots();
        System.out.println(wrong == 0 ? sentences + " sentences hold at their edges" : wrong + " answers are not as due");
        if (wrong != 0) {
            System.exit(1);
        }
    }

    // ---- the sentences

    private static void termsBarrel() {
        sentence("An object is used for at most 512 calls after it has been made", OrganPegsEdges::fiveHundredAndTwelveCalls);
        sentence("The barrel has 24 bars, numbered from 0", OrganPegsEdges::noOtherBars);
        sentence("behind 23 comes 0", OrganPegsEdges::behind23Comes0);
        sentence("There are 6 pipes, numbered from 0.", OrganPegsEdges::noOtherPipes);
        sentence("There are at most 30 pegs", OrganPegsEdges::thirtyPegs);
        sentence("when one is gone, those put behind it get numbers that are 1 less", OrganPegsEdges::pegsMoveUp);
        sentence("A peg is for a pipe, begins at a bar, and has a length of 1 to 6", OrganPegsEdges::noOtherLengths);
        sentence("it covers its bar and the next ones, as many as its length", OrganPegsEdges::barsOfAPeg);
        sentence("No two pegs of one pipe cover the same bar.", OrganPegsEdges::noBarTwice);
        sentence("The comb is at a bar, at first 0.", OrganPegsEdges::combAtFirst0);
        sentence("A pipe is open if a peg of it covers the bar of the comb.", OrganPegsEdges::openWhileCovered);
    }

    private static void termsOrders() {
        sentence("At most 12 orders wait", OrganPegsEdges::twelveOrders);
        sentence("when one is done or void, those behind it get numbers that are 1 less", OrganPegsEdges::ordersMoveUp);
        sentence("each one in turn, the oldest first", OrganPegsEdges::oldestFirst);
        sentence("it goes on waiting if its pipe is open", OrganPegsEdges::waitsWhileOpen);
        sentence("or if it would put a peg that covers the bar of the comb", OrganPegsEdges::waitsUnderTheComb);
        sentence("Otherwise, to put is void if any of its bars is covered by a peg of this pipe", OrganPegsEdges::voidIfCovered);
        sentence("or if there are 30 pegs", OrganPegsEdges::voidIfThirty);
        sentence("to pull is void if no peg of this pipe begins at this bar", OrganPegsEdges::voidIfNoneBegins);
        sentence("it is done, and the version (at first 0) becomes 1 more", OrganPegsEdges::versions);
    }

    private static void termsTick() {
        sentence("The time (0 at first) becomes 1 more", OrganPegsEdges::time);
        sentence("the comb comes to a bar that is farther on by setting 0; each time that it goes beyond the bar 23, a turn is"
            + " counted", OrganPegsEdges::turns);
        sentence("The wind (at first 0) becomes more by twice setting 0", OrganPegsEdges::windOfASpeed);
        sentence("but at most setting 2", OrganPegsEdges::windAtMost);
        sentence("(if it is above that already, it becomes setting 2)", OrganPegsEdges::windAboveAlready);
        sentence("3. The orders are looked at.", OrganPegsEdges::ordersBehindTheComb);
        sentence("Each pipe that is open, by numbers: if there is wind, it sounds, and the wind becomes 1 less; otherwise wind is"
            + " lacking, which is counted.", OrganPegsEdges::windForPipes);
        sentence("if setting 1 is above 0, the pipes that sounded as many ticks ago as it tells", OrganPegsEdges::echoes);
        sentence("(none did ahead of the first tick)", OrganPegsEdges::noneAheadOfTheFirstTick);
    }

    private static void termsSettings() {
        sentence("0: the speed, 0 to 3, at first 1", () -> settingEdges(0, 3, 1));
        sentence("1: the echo, 0 to 9, at first 0", () -> settingEdges(1, 9, 0));
        sentence("2: the bellows, 0 to 60, at first 20.", () -> settingEdges(2, 60, 20));
    }

    private static void termsText() {
        sentence("The object has a text buffer of at most 120 characters.", OrganPegsEdges::textOf120);
        sentence("A roll as a text is the letter O, and then any number of commands", OrganPegsEdges::anyNumberOfCommands);
        sentence("a pipe is a digit (0 to 5), a bar two digits (00 to 23): p, a pipe, a bar, and a digit for a length (1 to 6):"
            + " put()", OrganPegsEdges::putAsText);
        sentence("l, a pipe, and a bar: pull()", OrganPegsEdges::pullAsText);
        sentence("v, a digit (0 to 2), and two digits (00 to 60): set()", OrganPegsEdges::setAsText);
        sentence("t and two digits (01 to 99): ticks()", OrganPegsEdges::ticksAsText);
        sentence("c and two digits for an order (00 to 11): cancel()", OrganPegsEdges::cancelAsText);
        sentence("Commands that would throw an exception are left out.", OrganPegsEdges::leftOutCommands);
        sentence("There are no blanks.", OrganPegsEdges::noBlanks);
        sentence("The text is read from left to right.", OrganPegsEdges::leftToRight);
        sentence("The error position is the index of the first character that these rules do not allow at its place",
            OrganPegsEdges::firstWrongCharacter);
        sentence("(a digit is not allowed if no number that is allowed begins with it and those before it)",
            OrganPegsEdges::digitsThatBeginNoNumber);
        sentence("if the text ends too soon, it is the length of the text", OrganPegsEdges::endsTooSoon);
    }

    private static void termsUndo() {
        sentence("the state, which consists of everything but the text and the save slots", OrganPegsEdges::wholeState);
        sentence("Each call of one of them that does not throw an exception is an action", OrganPegsEdges::thrownIsNoAction);
        sentence("also if nothing becomes different", OrganPegsEdges::actionWithoutDifference);
        sentence("(undo is none)", OrganPegsEdges::undoIsNoAction);
        sentence("At most 14 states are remembered", OrganPegsEdges::fourteenStates);
        sentence("when one more is remembered, the oldest one is forgotten", OrganPegsEdges::oldestForgotten);
        sentence("load and restore are not actions.", OrganPegsEdges::loadAndRestoreAreNoActions);
    }

    private static void termsExceptions() {
        sentence("If several exceptions apply to a call, the one that its description names first is thrown.",
            OrganPegsEdges::firstNamedException);
        sentence("A call that throws an exception changes nothing.", OrganPegsEdges::thrownChangesNothing);
        sentence("these and all following methods up to the save slots change nothing", OrganPegsEdges::asksChangeNothing);
    }

    private static void promisesText() {
        sentence("Creates an organ without pegs.", OrganPegsEdges::newObject);
        sentence("Throws IllegalArgumentException if c is out of range", OrganPegsEdges::charactersOutOfRange);
        sentence("Throws IllegalStateException if the text already has 120 characters", OrganPegsEdges::fullText);
        sentence("Empties the text buffer. Returns the previous length of the text.", OrganPegsEdges::emptiesTheText);
        sentence("Returns the error position of the text; NONE if it is a roll.", OrganPegsEdges::errorPositionOrNone);
        sentence("Makes everything as in a new object, and then does the commands of the text.", OrganPegsEdges::loadsAsNew);
        sentence("Behind it no state is remembered, and both save slots are empty.", OrganPegsEdges::loadForgets);
        sentence("Keeps the text, also if it throws the exception.", OrganPegsEdges::loadKeepsTheText);
        sentence("Returns the number of commands that are left out.", OrganPegsEdges::numberLeftOut);
        sentence("Throws IllegalStateException if the text is not a roll", OrganPegsEdges::loadOfNoRoll);
    }

    private static void promisesWhatThereIs() {
        sentence("7: the pipes that sounded in the latest tick, as a set (bit p for the pipe p), 0 ahead of the first one",
            OrganPegsEdges::soundedSet);
        sentence("8: what was heard in it, as a set", OrganPegsEdges::heardSet);
        sentence("Throws IllegalArgumentException if what is not 0 to 11", OrganPegsEdges::aboutOutOfRange);
        sentence("3: the version that it made", OrganPegsEdges::versionOfAPeg);
        sentence("Throws IndexOutOfBoundsException if there is no such peg", OrganPegsEdges::noSuchPeg);
        sentence("Throws IllegalArgumentException if what is not 0 to 3", OrganPegsEdges::pegOfOutOfRange);
        sentence("3: the length, 0 if it is to pull; 4: the ticks for which it has waited so far", OrganPegsEdges::waitedTicks);
        sentence("Throws IndexOutOfBoundsException if there is no such order", OrganPegsEdges::noSuchOrder);
        sentence("Throws IllegalArgumentException if what is not 0 to 4", OrganPegsEdges::orderOfAndPipeOfOutOfRange);
        sentence("2: 1 if it is open now, otherwise 0", OrganPegsEdges::openNow);
        sentence("Returns the pipes with a peg that covers the bar, as a set.", OrganPegsEdges::chords);
        sentence("(the same for both ways)", OrganPegsEdges::coveredBothWays);
        sentence("Throws IllegalArgumentException if way is neither 0 nor 1", OrganPegsEdges::coveredOutOfRange);
        sentence("Returns that setting. Throws IllegalArgumentException if what is out of range", OrganPegsEdges::noSuchSetting);
    }

    private static void promisesActions() {
        sentence("(It is not looked at before the next tick.)", OrganPegsEdges::notLookedAtBeforeTheTick);
        sentence("Throws IllegalArgumentException if length is out of range", OrganPegsEdges::putLengths);
        sentence("Throws IllegalStateException if 12 orders wait", OrganPegsEdges::refusedWhenTwelveWait);
        sentence("Cancels an order. (It is neither done nor void.)", OrganPegsEdges::cancels);
        sentence("Returns the notes in them.", OrganPegsEdges::notesInTicks);
        sentence("Throws IllegalArgumentException if n is out of range", OrganPegsEdges::ticksOutOfRange);
        sentence("Returns the previous one.", OrganPegsEdges::setReturnsThePreviousOne);
        sentence("Throws IllegalArgumentException if what or v is out of range", OrganPegsEdges::setOutOfRange);
        sentence("Returns how many states are still remembered. Throws IllegalStateException if none is remembered",
            OrganPegsEdges::undoCounts);
    }

    private static void promisesWhatWouldBe() {
        sentence("Returns behind how many ticks, 1 to 100, it waits no more", OrganPegsEdges::doneBehindTicks);
        sentence("NONE if it waits all the time", OrganPegsEdges::waitsAllTheTime);
        sentence("Returns behind how many ticks, 1 to 100; NONE if it does not by then.", OrganPegsEdges::soundsBehindTicks);
        sentence("Returns the least setting 0, 0 to 3, with which no wind would be lacking in n ticks; NONE if there is none.",
            OrganPegsEdges::leastSpeeds);
        sentence("Returns the bar at which most pipes are open, of several the lowest.", OrganPegsEdges::fullestBars);
        sentence("so that it covers no bar that is covered by a peg of this pipe; NONE if there is none", OrganPegsEdges::rooms);
    }

    private static void promisesScripts() {
        sentence("n: number of commands, 1 to 3", OrganPegsEdges::scriptLengths);
        sentence("the commands, a number of at most 5 * n digits (0 or more)", OrganPegsEdges::scriptDigits);
        sentence("(with zeros before it, if it has fewer digits)", OrganPegsEdges::zerosBeforeAScript);
        sentence("commands with pipes, bars or orders that do not exist fail, and so does any other group (also one with another"
            + " digit where a 0 is written)", OrganPegsEdges::everyGroup);
        sentence("The commands 1 to 5 fail if the method would throw an exception", OrganPegsEdges::commandsThatWouldThrow);
        sentence("Returns the index, from 0, of the first command that fails; NONE if all succeed.", OrganPegsEdges::firstToFail);
        sentence("What would throw an exception is left out.", OrganPegsEdges::simulations);
        sentence("100 * (how often wind was lacking in the turns, modulo 100)", OrganPegsEdges::moreThanHundredLacks);
        sentence("Throws IllegalArgumentException if m is out of range", OrganPegsEdges::simulateOutOfRange);
    }

    private static void promisesSlots() {
        sentence("Stores the present state in a save slot.", OrganPegsEdges::saves);
        sentence("Throws IndexOutOfBoundsException if there is no such save slot", OrganPegsEdges::noSuchSlot);
        sentence("Replaces the state by the one in a save slot, and forgets all remembered states. The save slot keeps it.",
            OrganPegsEdges::restores);
        sentence("Throws IllegalStateException if nothing has been saved in it since the last load", OrganPegsEdges::emptySlots);
    }

    // ---- how a sentence is tested

    private static void sentence(String text, Runnable test) {
        words = text;
        sentences++;
        try {
            test.run();
        } catch (RuntimeException e) {
            is("the test", "an end", e.toString());
        }
    }

    private static void is(String what, Object due, Object got) {
        if (!Objects.equals(due, got)) {
            wrong++;
            System.out.println("\"" + words + "\": " + what + " answered " + got + ", due is " + due);
        }
    }

    /** What the call answers, or the name of the exception that it throws. */
    private static String answer(IntSupplier call) {
        try {
            return Integer.toString(call.getAsInt());
        } catch (RuntimeException e) {
            return e.getClass().getSimpleName();
        }
    }

    /** Tests what the call answers, and by a twin without the call that it changes nothing, not even what comes later. */
    private static void keeps(String what, Supplier<OrganPegs> make, Object due, ToIntFunction<OrganPegs> call) {
        OrganPegs x = make.get();
        is(what, due.toString(), answer(() -> call.applyAsInt(x)));
        is(what + " (all that there is behind it)", everything(make.get()), everything(x));
    }

    private static void refuses(String what, Supplier<OrganPegs> make, String exception, ToIntFunction<OrganPegs> call) {
        keeps(what, make, exception, call);
    }

    /** Some numbers of about(), with blanks between them. */
    private static String about(OrganPegs x, int... whats) {
        StringBuilder all = new StringBuilder();
        for (int what : whats) {
            all.append(all.length() == 0 ? "" : " ").append(x.about(what));
        }
        return all.toString();
    }

    private static String numbers(OrganPegs x) {
        return about(x, 0, 1, 2, 3, 4, 5, 6, 7, 8, 9, 10, 11);
    }

    private static String peg(OrganPegs x, int k) {
        return x.pegOf(k, 0) + " " + x.pegOf(k, 1) + " " + x.pegOf(k, 2) + " " + x.pegOf(k, 3);
    }

    private static String pegs(OrganPegs x) {
        StringBuilder all = new StringBuilder();
        for (int k = x.about(0) - 1; k >= 0; k--) {
            all.insert(0, (k == 0 ? "" : "/") + peg(x, k));
        }
        return all.toString();
    }

    private static String order(OrganPegs x, int k) {
        return x.orderOf(k, 0) + " " + x.orderOf(k, 1) + " " + x.orderOf(k, 2) + " " + x.orderOf(k, 3) + " " + x.orderOf(k, 4);
    }

    private static String orders(OrganPegs x) {
        StringBuilder all = new StringBuilder();
        for (int k = x.about(1) - 1; k >= 0; k--) {
            all.insert(0, (k == 0 ? "" : "/") + order(x, k));
        }
        return all.toString();
    }

    private static String picture(OrganPegs x) {
        StringBuilder all = new StringBuilder(numbers(x));
        all.append(" settings ").append(x.setting(0)).append(' ').append(x.setting(1)).append(' ').append(x.setting(2));
        all.append(" pegs ").append(pegs(x)).append(" orders ").append(orders(x)).append(" pipes");
        for (int p = 0; p < 6; p++) {
            all.append(' ').append(x.pipeOf(p, 3)).append(' ').append(x.pipeOf(p, 4));
        }
        return all.toString();
    }

    /** What would be heard in the next tick with each echo; it needs two of the fourteen states for a while. */
    private static String echoesToCome(OrganPegs x) {
        StringBuilder all = new StringBuilder();
        for (int echo = 0; echo <= 9; echo++) {
            x.set(1, echo);
            x.ticks(1);
            all.append(' ').append(x.about(8));
            x.undo();
            x.undo();
        }
        return all.toString();
    }

    /** The state, what sounded, the remembered states, the slots, and the text; the object is used up by it. */
    private static String everything(OrganPegs x) {
        StringBuilder all = new StringBuilder(picture(x)).append(" echoes").append(echoesToCome(x));
        for (int i = 0; i < 15 && !answer(x::undo).equals(STATE); i++) {
            all.append(" remembered ").append(picture(x));
        }
        for (int slot = 0; slot < 2; slot++) {
            int s = slot;
            String restored = answer(() -> x.restore(s));
            all.append(" slot ").append(restored).append(restored.equals(STATE) ? "" : picture(x));
        }
        all.append(" text ").append(x.errorPosition()).append(' ').append(answer(x::load)).append(' ').append(numbers(x));
        return all.append(" length ").append(x.clearText()).toString();
    }

    private static int undoAll(OrganPegs x) {
        int count = 0;
        while (count < 100 && !answer(x::undo).equals(STATE)) {
            count++;
        }
        return count;
    }

    private static OrganPegs typed(String text) {
        OrganPegs x = new OrganPegs();
        for (char c : text.toCharArray()) {
            x.append(c);
        }
        return x;
    }

    private static OrganPegs loaded(String roll) {
        OrganPegs x = typed(roll);
        x.load();
        return x;
    }

    /** Pegs, an order, what sounded, three remembered states, a full slot and an empty one; none of its numbers is 0. */
    private static OrganPegs busy() {
        OrganPegs x = loaded(BUSY_ROLL);
        x.save(0);
        x.pull(0, 2);
        x.put(2, 4, 2);
        x.ticks(1);
        return x;
    }

    /** Twelve orders wait at the bar 1: one for the pipe 1, ten for 2, and the last one, given by a call, for the pipe 3. */
    private static OrganPegs full() {
        OrganPegs x = loaded("Op1052t01p1082" + "p2021".repeat(10));
        x.put(3, 3, 1);
        return x;
    }

    /** The comb stands at 0; the pegs are at the bars 1, 3, 5, 7, 9, one bar long, as many as asked for. */
    private static OrganPegs withPegs(int count) {
        OrganPegs x = new OrganPegs();
        x.set(0, 0);
        for (int k = 0; k < count; k++) {
            x.put(k % 6, 1 + k / 6 * 2, 1);
            if (k % 10 == 9 || k == count - 1) {
                x.ticks(1);
            }
        }
        return x;
    }

    private static OrganPegs combAt(int bar) {
        OrganPegs x = new OrganPegs();
        if (bar > 0) {
            x.ticks(bar);
        }
        x.set(0, 0);
        return x;
    }

    private static boolean reaches(int from, int length, int bar) {
        return Math.floorMod(bar - from, 24) < length;
    }

    /** The comb stands at 0; pegs cover all other bars of the pipes, and the pegs at 23 have the length 1. */
    private static OrganPegs openButAt0(int... pipes) {
        OrganPegs x = combAt(0);
        for (int p : pipes) {
            x.put(p, 1, 6);
            x.put(p, 7, 6);
            x.put(p, 13, 6);
            x.put(p, 19, 4);
            x.put(p, 23, 1);
            x.ticks(1);
        }
        return x;
    }

    // ---- barrel, pegs

    private static void fiveHundredAndTwelveCalls() {
        OrganPegs x = new OrganPegs();
        for (int p = 0; p < 6; p++) {
            x.put(p, 3, 6);
        }
        x.set(0, 3);
        x.set(2, 60);
        int notes = 0;
        for (int calls = 8; calls < CALLS_MOST - 4; calls++) {
            notes += x.ticks(99);
        }
        is("500 * 99 ticks of speed 3", "49500 6187 12", about(x, 2, 4, 3));
        // Two of the eight bars that the comb comes to have six pipes; they are put in the first turn.
        is("call 512", 6187 * 2 * 6, x.about(9));
        is("the sum of the notes", 6187 * 2 * 6, notes);
    }

    private static void noOtherBars() {
        for (int b : new int[] {-1, 24, LOW, HIGH}) {
            refuses("chord(" + b + ")", OrganPegsEdges::busy, INDEX, x -> x.chord(b));
            refuses("put(0, " + b + ", 1)", OrganPegsEdges::busy, INDEX, x -> x.put(0, b, 1));
            refuses("pull(0, " + b + ")", OrganPegsEdges::busy, INDEX, x -> x.pull(0, b));
        }
        for (int b = 0; b < 24; b++) {
            int bar = b;
            OrganPegs x = new OrganPegs();
            is("put at " + bar, "0", answer(() -> x.put(0, bar, 1)));
            is("pull at " + bar, "1", answer(() -> x.pull(0, bar)));
            is("chord at " + bar, "0", answer(() -> x.chord(bar)));
            is("orders for " + bar, "1 0 " + bar + " 1 0/0 0 " + bar + " 0 0", orders(x));
        }
    }

    private static void behind23Comes0() {
        OrganPegs x = loaded("Op0232t23");
        is("bar, turns at the end", "23 0", about(x, 3, 4));
        is("open at 23", 1, x.pipeOf(0, 2));
        x.ticks(1);
        is("bar, turns behind it", "0 1", about(x, 3, 4));
        is("open at 0", 1, x.pipeOf(0, 2));
        x.ticks(1);
        is("bar, turns then", "1 1", about(x, 3, 4));
        is("open at 1", 0, x.pipeOf(0, 2));
        is("chords of 22, 23, 0, 1", "0 1 1 0", x.chord(22) + " " + x.chord(23) + " " + x.chord(0) + " " + x.chord(1));
        is("bars of the pipe", 2, x.pipeOf(0, 1));
    }

    private static void noOtherPipes() {
        for (int p : new int[] {-1, 6, LOW, HIGH}) {
            refuses("put(" + p + ", 1, 1)", OrganPegsEdges::busy, INDEX, x -> x.put(p, 1, 1));
            refuses("pull(" + p + ", 1)", OrganPegsEdges::busy, INDEX, x -> x.pull(p, 1));
            refuses("pipeOf(" + p + ", 0)", OrganPegsEdges::busy, INDEX, x -> x.pipeOf(p, 0));
            refuses("soundsIn(" + p + ")", OrganPegsEdges::busy, INDEX, x -> x.soundsIn(p));
            refuses("room(" + p + ", 1)", OrganPegsEdges::busy, INDEX, x -> x.room(p, 1));
        }
        OrganPegs x = new OrganPegs();
        for (int p = 0; p < 6; p++) {
            is("put for " + p, p, x.put(p, 2, 1));
        }
        x.ticks(1);
        is("all of them", 63, x.chord(2));
        for (int p = 0; p < 6; p++) {
            is("pegs of the pipe " + p, 1, x.pipeOf(p, 0));
            is("room for the pipe " + p, 3, x.room(p, 6));
            is("soundsIn of the pipe " + p, p < 4 ? 1 : 25, x.soundsIn(p));
        }
    }

    private static void thirtyPegs() {
        OrganPegs x = withPegs(29);
        x.put(0, 20, 1);
        x.put(1, 20, 1);
        x.ticks(1);
        is("pegs, version, void behind the thirtieth", "30 30 1", about(x, 0, 5, 11));
        is("the thirtieth", "0 20 1 30", peg(x, 29));
        is("one behind it", INDEX, answer(() -> x.pegOf(30, 0)));
        x.pull(0, 20);
        x.ticks(1);
        x.put(1, 20, 1);
        x.ticks(1);
        is("a place is free again", "30 32 1", about(x, 0, 5, 11));
        is("the thirtieth then", "1 20 1 32", peg(x, 29));
    }

    private static void pegsMoveUp() {
        String roll = "Op0051p1061p2071p3081t01";
        is("all four", "0 5 1 1/1 6 1 2/2 7 1 3/3 8 1 4", pegs(loaded(roll)));
        is("the first is gone", "1 6 1 2/2 7 1 3/3 8 1 4", pegs(loaded(roll + "l005t01")));
        is("one between is gone", "0 5 1 1/2 7 1 3/3 8 1 4", pegs(loaded(roll + "l106t01")));
        is("the last is gone", "0 5 1 1/1 6 1 2/2 7 1 3", pegs(loaded(roll + "l308t01")));
        is("a new one comes behind all", "0 5 1 1/2 7 1 3/3 8 1 4/0 6 1 6", pegs(loaded(roll + "l106p0061t01")));
        is("all are gone", "", pegs(loaded(roll + "l005l106l207l308t01")));
        OrganPegs x = loaded(roll + "l106t01");
        is("the number that was the last", INDEX, answer(() -> x.pegOf(3, 0)));
    }

    private static void noOtherLengths() {
        for (int length = -1; length <= 8; length++) {
            int l = length;
            OrganPegs x = new OrganPegs();
            is("put of length " + l, l < 1 || l > 6 ? ARGUMENT : "0", answer(() -> x.put(0, 9, l)));
            x.ticks(1);
            is("the pegs then", l < 1 || l > 6 ? "" : "0 9 " + l + " 1", pegs(x));
        }
    }

    private static void barsOfAPeg() {
        for (int from = 0; from < 24; from++) {
            for (int length = 1; length <= 6; length++) {
                OrganPegs x = combAt((from + 12) % 24);
                x.put(3, from, length);
                x.ticks(1);
                for (int b = 0; b < 24; b++) {
                    is("chord(" + b + ") of a peg at " + from + " of length " + length, reaches(from, length, b) ? 8 : 0, x.chord(b));
                }
                is("the bars of a peg at " + from, length, x.pipeOf(3, 1));
            }
        }
    }

    /** Against pegs in the middle and at the ends of the barrel, with the comb at a bar that is in neither peg's way. */
    private static void noBarTwice() {
        for (int first : new int[] {0, 10, 18, 22, 23}) {
            for (int firstLength : new int[] {1, 3, 6}) {
                for (int from = 0; from < 24; from++) {
                    for (int length = 1; length <= 6; length++) {
                        secondPeg(first, firstLength, from, length);
                    }
                }
            }
        }
    }

    private static void secondPeg(int first, int firstLength, int from, int length) {
        int comb = 0;
        while (reaches(first, firstLength, comb) || reaches(from, length, comb)) {
            comb++;
        }
        boolean meets = reaches(first, firstLength, from) || reaches(from, length, first);
        OrganPegs x = combAt(comb);
        x.put(0, first, firstLength);
        x.ticks(1);
        x.put(0, from, length);
        x.put(1, from, length);
        x.ticks(1);
        String what = first + "/" + firstLength + " and then " + from + "/" + length + ": ";
        is(what + "pegs, orders, void", meets ? "2 0 1" : "3 0 0", about(x, 0, 1, 11));
        is(what + "bars", firstLength + (meets ? 0 : length), x.pipeOf(0, 1));
        is(what + "bars of another pipe", length, x.pipeOf(1, 1));
    }

    private static void combAtFirst0() {
        OrganPegs x = new OrganPegs();
        is("a new object", 0, x.about(3));
        x.set(0, 0);
        x.put(0, 0, 1);
        x.put(1, 1, 1);
        x.put(2, 23, 1);
        x.ticks(1);
        is("the orders that wait under it", "1 0 0 1 1", orders(x));
        OrganPegs y = loaded("Ot05");
        y.clearText();
        y.append('O');
        y.load();
        is("a load", 0, y.about(3));
    }

    private static void openWhileCovered() {
        for (int from : new int[] {0, 10, 22}) {
            OrganPegs x = combAt((from + 12) % 24);
            x.put(2, from, 3);
            x.ticks(1);
            x.set(0, 1);
            for (int i = 0; i < 24; i++) {
                x.ticks(1);
                int bar = x.about(3);
                is("open at " + bar + " by a peg at " + from, reaches(from, 3, bar) ? 1 : 0, x.pipeOf(2, 2));
                is("another pipe at " + bar, 0, x.pipeOf(3, 2));
            }
        }
    }

    // ---- orders

    private static void twelveOrders() {
        OrganPegs x = new OrganPegs();
        for (int k = 0; k < 11; k++) {
            is("an order to put", k, x.put(k % 6, 1, 1));
        }
        is("the twelfth", 11, x.pull(0, 5));
        is("put then", STATE, answer(() -> x.put(0, 1, 1)));
        is("pull then", STATE, answer(() -> x.pull(0, 5)));
        is("orders", 12, x.about(1));
        OrganPegs cancelled = full();
        cancelled.cancel(11);
        is("one is cancelled", 11, cancelled.pull(4, 4));
        is("and then", STATE, answer(() -> cancelled.pull(4, 4)));
        OrganPegs done = full();
        done.ticks(1);
        is("two are done", "10 3 0", about(done, 1, 5, 11));
        is("a place", 10, done.put(4, 4, 1));
        is("another place", 11, done.put(4, 4, 1));
        is("no more places", STATE, answer(() -> done.put(4, 4, 1)));
        OrganPegs gone = loaded("O" + "l000".repeat(12) + "t01");
        is("all are void", "0 12", about(gone, 1, 11));
        is("a place behind void ones", 0, gone.put(4, 4, 1));
    }

    private static void ordersMoveUp() {
        OrganPegs x = new OrganPegs();
        x.put(0, 1, 1);
        x.pull(1, 5);
        x.put(1, 1, 2);
        x.put(2, 5, 1);
        x.put(3, 23, 3);
        x.ticks(1);
        is("the ones ahead of and behind a void and a done one", "1 0 1 1 1/1 1 1 2 1/1 3 23 3 1", orders(x));
        is("done, void", "2 5 1 1 1", pegs(x) + " " + x.about(11));
        is("the number of the last", INDEX, answer(() -> x.orderOf(3, 0)));
        is("a new one", 3, x.put(4, 4, 4));
        x.ticks(1);
        is("the first of them is done", "1 1 1 2 2", order(x, 0));
        is("three of four wait no more", 1, x.about(1));
    }

    private static void oldestFirst() {
        is("put, put of the same bars", "0 5 2 1/0 4 1 2 v1", pegsAndVoid("Op0052p0062p0041t01"));
        is("pull, then put", "0 6 1 3 v0", pegsAndVoid("Op0052t01l005p0061t01"));
        is("put, then pull", " v1", pegsAndVoid("Op0052t01p0061l005t01"));
        is("pull, pull", " v1", pegsAndVoid("Op0052t01l005l005t01"));
        is("put, then pull it", " v0", pegsAndVoid("Op0091l009t01"));
        is("pull it ahead of put", "0 9 1 1 v1", pegsAndVoid("Ol009p0091t01"));
        is("put, pull, put, put", "0 9 2 3 v1", pegsAndVoid("Op0091l009p0092p0101t01"));
    }

    private static String pegsAndVoid(String roll) {
        OrganPegs x = loaded(roll);
        return pegs(x) + " v" + x.about(11);
    }

    private static void waitsWhileOpen() {
        for (int bar = 1; bar <= 5; bar++) {
            OrganPegs x = loaded("Op0023t0" + bar + "v000");
            x.put(0, 10, 1);
            x.pull(0, 2);
            x.pull(0, 9);
            x.put(0, 3, 1);
            x.put(1, 10, 1);
            x.pull(1, 9);
            x.ticks(1);
            boolean open = bar >= 2 && bar <= 4;
            is("at " + bar + ": orders", open ? "1 0 10 1 1/0 0 2 0 1/0 0 9 0 1/1 0 3 1 1" : "", orders(x));
            is("at " + bar + ": pegs", open ? "0 2 3 1/1 10 1 2" : "0 10 1 2/0 3 1 4/1 10 1 5", pegs(x));
            is("at " + bar + ": void", open ? 1 : 2, x.about(11));
            x.ticks(99);
            is("at " + bar + ": for long", open ? 4 : 0, x.about(1));
        }
    }

    private static void waitsUnderTheComb() {
        for (int comb : new int[] {0, 10, 23}) {
            for (int from = 0; from < 24; from++) {
                for (int length = 1; length <= 6; length++) {
                    OrganPegs x = combAt(comb);
                    x.put(0, from, length);
                    x.ticks(1);
                    is("orders, pegs with the comb at " + comb + ", put at " + from + " of length " + length,
                        reaches(from, length, comb) ? "1 0" : "0 1", about(x, 1, 0));
                }
            }
            OrganPegs x = combAt(comb);
            x.pull(0, comb);
            x.ticks(1);
            is("orders, void: to pull waits for its pipe alone", "0 1", about(x, 1, 11));
        }
        OrganPegs y = combAt(10);
        y.put(0, 12, 1);
        y.ticks(1);
        y.put(0, 9, 4);
        y.ticks(1);
        is("orders, void: it waits also if it would be void", "1 0", about(y, 1, 11));
    }

    private static void voidIfCovered() {
        String[] voids = {"p0126", "p0056", "p0111", "p0095", "p0101", "p0121"};
        for (String put : voids) {
            is("pegs, void behind " + put, "1 1", about(loaded("Ov000p0103t01" + put + "t01"), 0, 11));
        }
        String[] dones = {"p0131", "p0091", "p0136", "p0046", "p1111", "p5126"};
        for (String put : dones) {
            is("pegs, void behind " + put, "2 0", about(loaded("Ov000p0103t01" + put + "t01"), 0, 11));
        }
        String[] voidOverTheEnd = {"p1001", "p1186", "p1231", "p1224", "p1006"};
        for (String put : voidOverTheEnd) {
            is("pegs, void behind " + put, "1 1", about(loaded("Ot12v000p1232t01" + put + "t01"), 0, 11));
        }
        String[] doneBesideTheEnd = {"p1011", "p1221", "p1176", "p1016", "p0232"};
        for (String put : doneBesideTheEnd) {
            is("pegs, void behind " + put, "2 0", about(loaded("Ot12v000p1232t01" + put + "t01"), 0, 11));
        }
    }

    private static void voidIfThirty() {
        OrganPegs x = withPegs(29);
        x.put(0, 20, 1);
        x.ticks(1);
        is("with 29 pegs", "30 30 0", about(x, 0, 5, 11));
        x.put(1, 20, 1);
        x.put(0, 0, 1);
        x.ticks(1);
        is("with 30 pegs", "30 30 1", about(x, 0, 5, 11));
        is("it waits under the comb", "1 0 0 1 1", orders(x));
        x.pull(0, 1);
        x.put(0, 1, 2);
        x.ticks(1);
        is("pull, then put", "30 32 1", about(x, 0, 5, 11));
        x.put(5, 20, 1);
        x.pull(0, 20);
        x.ticks(1);
        is("put, then pull", "29 33 2", about(x, 0, 5, 11));
    }

    private static void voidIfNoneBegins() {
        String[] voids = {"l009", "l011", "l012", "l013", "l110", "l210", "l510"};
        for (String pull : voids) {
            OrganPegs x = loaded("Ov000p0103p1091t01" + pull + "t01");
            is("pegs, version, void behind " + pull, "2 2 1", about(x, 0, 5, 11));
        }
        is("the one that begins", "1 3 0", about(loaded("Ov000p0103p1091t01l010t01"), 0, 5, 11));
        is("it is gone", "1 3 1", about(loaded("Ov000p0103p1091t01l010t01l010t01"), 0, 5, 11));
        is("covered from behind 23", "1 1 1", about(loaded("Op0232t12v000l000t01"), 0, 5, 11));
        is("begins at 23", "0 2 0", about(loaded("Op0232t12v000l023t01"), 0, 5, 11));
        is("without pegs", "0 0 1", about(loaded("Ol000t01"), 0, 5, 11));
        is("its bars are free then", 0, loaded("Op0232t12v000l023t01").covered(0));
    }

    private static void versions() {
        OrganPegs x = new OrganPegs();
        is("at first", 0, x.about(5));
        x.put(0, 5, 1);
        is("an order", 0, x.about(5));
        x.ticks(1);
        is("one to put is done", 1, x.about(5));
        x.pull(1, 1);
        x.ticks(1);
        is("one is void", 1, x.about(5));
        x.put(1, 3, 1);
        x.ticks(1);
        is("one waits", 1, x.about(5));
        x.cancel(0);
        x.ticks(1);
        is("one is cancelled", 1, x.about(5));
        x.pull(0, 5);
        x.ticks(2);
        is("one to pull is done", 2, x.about(5));
        x.put(2, 1, 1);
        x.put(3, 1, 1);
        x.pull(2, 1);
        x.ticks(1);
        is("three are done in a tick", 5, x.about(5));
    }

    // ---- a tick

    private static void time() {
        OrganPegs x = new OrganPegs();
        is("at first", 0, x.about(2));
        x.ticks(1);
        is("a tick", 1, x.about(2));
        x.set(0, 0);
        x.ticks(99);
        is("with the speed 0", 100, x.about(2));
        x.set(0, 3);
        x.ticks(99);
        is("with the speed 3", 199, x.about(2));
    }

    private static void turns() {
        for (int bar = 0; bar < 24; bar++) {
            for (int speed = 0; speed <= 3; speed++) {
                OrganPegs x = combAt(bar);
                x.set(0, speed);
                x.ticks(1);
                boolean turn = bar + speed > 23;
                is("from " + bar + " with the speed " + speed, (turn ? bar + speed - 24 : bar + speed) + (turn ? " 1" : " 0"),
                    about(x, 3, 4));
            }
        }
        OrganPegs y = loaded("Ov003t99");
        is("many turns", "9 12", about(y, 3, 4));
        OrganPegs z = loaded("Ot24v000t99");
        is("no turn while the comb stands at 0", "0 1", about(z, 3, 4));
    }

    private static void windOfASpeed() {
        is("at first", 0, new OrganPegs().about(6));
        for (int speed = 0; speed <= 3; speed++) {
            OrganPegs x = loaded("Ov00" + speed + "t01");
            is("a tick with the speed " + speed, 2 * speed, x.about(6));
            x.ticks(2);
            is("three ticks with the speed " + speed, 6 * speed, x.about(6));
        }
    }

    private static void windAtMost() {
        for (int bellows = 0; bellows <= 14; bellows++) {
            OrganPegs x = loaded("Ov003v2" + bellows / 10 + bellows % 10 + "t01");
            is("a tick with the bellows " + bellows, Math.min(6, bellows), x.about(6));
            x.ticks(1);
            is("two ticks with the bellows " + bellows, Math.min(12, bellows), x.about(6));
        }
        is("nine ticks in a new object", 18, loaded("Ot09").about(6));
        is("ten ticks in a new object", 20, loaded("Ot10").about(6));
        is("eleven ticks in a new object", 20, loaded("Ot11").about(6));
        is("29 ticks with the bellows 60", 58, loaded("Ov260t29").about(6));
        is("30 ticks with the bellows 60", 60, loaded("Ov260t30").about(6));
        is("31 ticks with the bellows 60", 60, loaded("Ov260t31").about(6));
    }

    private static void windAboveAlready() {
        OrganPegs x = loaded("Ot10v000v219");
        is("ahead of the tick", 20, x.about(6));
        x.ticks(1);
        is("1 above, with the speed 0", 19, x.about(6));
        x.set(0, 3);
        x.set(2, 7);
        x.ticks(1);
        is("far above, with the speed 3", 7, x.about(6));
        x.set(2, 0);
        x.ticks(1);
        is("no bellows", 0, x.about(6));
        OrganPegs y = loaded("Op0026p1026t01v201");
        is("it becomes less ahead of the pipes", 1, y.ticks(1));
    }

    private static void ordersBehindTheComb() {
        OrganPegs x = new OrganPegs();
        x.put(0, 0, 1);
        x.put(1, 1, 1);
        x.ticks(1);
        is("the bar that the comb leaves", "0 0 1 1", pegs(x));
        is("the bar that it comes to", "1 1 1 1 1", orders(x));
        OrganPegs y = loaded("Op0021t02");
        y.put(0, 5, 1);
        y.ticks(1);
        is("its pipe was open", "0 2", about(y, 1, 5));
        OrganPegs z = loaded("Op0021t01");
        z.put(0, 5, 1);
        z.ticks(1);
        is("its pipe becomes open", "1 1", about(z, 1, 5));
    }

    private static void windForPipes() {
        for (int wind = 0; wind <= 8; wind++) {
            OrganPegs x = loaded("Op0061p1061p2061p3061p4061p5061v003t01");
            x.set(2, wind);
            int notes = Math.min(wind, 6);
            is("notes for the wind " + wind, notes, x.ticks(1));
            is("wind, sounded, notes, lacking", (wind - notes) + " " + ((1 << notes) - 1) + " " + notes + " " + (6 - notes),
                about(x, 6, 7, 9, 10));
            for (int p = 0; p < 6; p++) {
                is("notes and lacks of the pipe " + p + " for the wind " + wind, p < wind ? "1 0" : "0 1",
                    x.pipeOf(p, 3) + " " + x.pipeOf(p, 4));
            }
        }
        OrganPegs y = loaded("Op1021p4021v200t02t24");
        is("only open pipes lack wind", "0 2 0 0 2 0", y.pipeOf(0, 4) + " " + y.pipeOf(1, 4) + " " + y.pipeOf(2, 4) + " "
            + y.pipeOf(3, 4) + " " + y.pipeOf(4, 4) + " " + y.pipeOf(5, 4));
        is("notes, lacking", "0 4", about(y, 9, 10));
    }

    private static void echoes() {
        for (int echo = 0; echo <= 9; echo++) {
            OrganPegs x = loaded("Op0021t02v10" + echo);
            is("sounded and heard with the old echo", "1 1", about(x, 7, 8));
            for (int tick = 3; tick <= 22; tick++) {
                x.ticks(1);
                is("with the echo " + echo + " in the tick " + tick, echo > 0 && tick == 2 + echo ? "0 1" : "0 0", about(x, 7, 8));
            }
        }
        is("sound and echo", "2 3", about(loaded("Op0021p1031v101t03"), 7, 8));
        is("the same pipe in both", "1 1", about(loaded("Op0022v101t03"), 7, 8));
        is("what lacked wind has no echo", "0 0", about(loaded("Op0021v200t02v220v101t01"), 7, 8));
        is("an echo is no note", "1 0", about(loaded("Op0021v101t03"), 9, 10));
        is("an echo of ticks with the same bar", "0 1", about(loaded("Op0021t02v000v200v105t05"), 7, 8));
    }

    private static void noneAheadOfTheFirstTick() {
        for (int echo = 1; echo <= 9; echo++) {
            OrganPegs x = loaded("Op0021p1031p2041p3051p4061p5071v10" + echo);
            for (int tick = 1; tick <= 12; tick++) {
                x.ticks(1);
                int now = tick >= 2 && tick <= 7 ? 1 << (tick - 2) : 0;
                int ago = tick - echo >= 2 && tick - echo <= 7 ? 1 << (tick - echo - 2) : 0;
                is("in the tick " + tick + " with the echo " + echo, now + " " + (now | ago), about(x, 7, 8));
            }
            silent("behind a load", loadedBehindSounds(echo), echo);
            silent("behind an undo", undoneBehindSounds(echo), echo);
            silent("behind a restore", restoredBehindSounds(echo), echo);
        }
    }

    private static void silent(String what, OrganPegs x, int echo) {
        is(what + ": time, sounded, heard", "0 0 0", about(x, 2, 7, 8));
        for (int tick = 1; tick <= 10; tick++) {
            x.ticks(1);
            is(what + ": in the tick " + tick + " with the echo " + echo, "0 0", about(x, 7, 8));
        }
    }

    private static OrganPegs loadedBehindSounds(int echo) {
        OrganPegs x = loaded("Op0026t07");
        x.clearText();
        for (char c : ("Ov10" + echo).toCharArray()) {
            x.append(c);
        }
        x.load();
        return x;
    }

    private static OrganPegs undoneBehindSounds(int echo) {
        OrganPegs x = new OrganPegs();
        x.set(1, echo);
        x.put(0, 2, 6);
        x.ticks(7);
        x.undo();
        x.undo();
        return x;
    }

    private static OrganPegs restoredBehindSounds(int echo) {
        OrganPegs x = new OrganPegs();
        x.set(1, echo);
        x.save(1);
        x.put(0, 2, 6);
        x.ticks(7);
        x.restore(1);
        return x;
    }

    private static void settingEdges(int what, int most, int first) {
        OrganPegs x = new OrganPegs();
        is("at first", first, x.setting(what));
        for (int v = 0; v <= most; v++) {
            int value = v;
            is("set to " + v, Integer.toString(v == 0 ? first : v - 1), answer(() -> x.set(what, value)));
            is("the setting then", v, x.setting(what));
        }
        for (int v : new int[] {-1, most + 1, LOW, HIGH}) {
            refuses("set to " + v, OrganPegsEdges::busy, ARGUMENT, y -> y.set(what, v));
        }
        x.append('O');
        x.load();
        is("behind a load", first, x.setting(what));
    }

    // ---- text

    /** Tests each of the 256 characters behind a text that has no error ahead of its end. */
    private static void allows(String text, String allowed, boolean isRoll) {
        is("errorPosition of " + text, isRoll ? -1 : text.length(), typed(text).errorPosition());
        for (int c = 0; c < 256; c++) {
            OrganPegs x = typed(text + (char) c);
            int position = x.errorPosition();
            if (allowed.indexOf(c) >= 0) {
                is("character " + c + " behind " + text + " is allowed", true, position == -1 || position == text.length() + 1);
            } else {
                is("errorPosition with the character " + c + " behind " + text, text.length(), position);
            }
            is("load is refused for the character " + c + " behind " + text, position != -1, answer(x::load).equals(STATE));
        }
    }

    private static void textOf120() {
        OrganPegs x = new OrganPegs();
        for (int i = 1; i <= 120; i++) {
            is("append", i, x.append('O'));
        }
        is("one more", STATE, answer(() -> x.append('O')));
        is("the length", 120, x.clearText());
    }

    private static void anyNumberOfCommands() {
        allows("", "O", false);
        allows("O", COMMANDS, true);
        is("no command", 0, typed("O").load());
        OrganPegs x = typed("Op0001" + "t01".repeat(38));
        is("a roll of 120 characters", -1, x.errorPosition());
        is("its load", 0, x.load());
        is("all of its commands are done", "38 1", about(x, 2, 0));
        is("39 commands of three characters", -1, typed("O" + "c00".repeat(39)).errorPosition());
    }

    private static void barsAsText(String pipe, String behind, boolean isRoll) {
        allows(pipe, "012", false);
        allows(pipe + "0", DIGITS, false);
        allows(pipe + "1", DIGITS, false);
        allows(pipe + "2", "0123", false);
        for (String bar : new String[] {"00", "09", "10", "19", "20", "23"}) {
            allows(pipe + bar, behind, isRoll);
        }
    }

    private static void putAsText() {
        allows("Op", "012345", false);
        barsAsText("Op0", "123456", false);
        barsAsText("Op5", "123456", false);
        allows("Op0001", COMMANDS, true);
        allows("Op5236", COMMANDS, true);
        is("put()", "1 0 0 1 0/1 5 23 6 0/1 3 19 4 0", orders(loaded("Op0001p5236p3194")));
    }

    private static void pullAsText() {
        allows("Ol", "012345", false);
        barsAsText("Ol0", COMMANDS, true);
        barsAsText("Ol5", COMMANDS, true);
        is("pull()", "0 0 0 0 0/0 5 23 0 0/0 3 19 0 0", orders(loaded("Ol000l523l319")));
    }

    private static void setAsText() {
        allows("Ov", "012", false);
        for (String what : new String[] {"Ov0", "Ov1", "Ov2"}) {
            allows(what, "0123456", false);
            allows(what + "0", DIGITS, false);
            allows(what + "5", DIGITS, false);
            allows(what + "6", "0", false);
            allows(what + "00", COMMANDS, true);
            allows(what + "59", COMMANDS, true);
            allows(what + "60", COMMANDS, true);
        }
        OrganPegs x = loaded("Ov003v109v260");
        is("set() at the top", "3 9 60", x.setting(0) + " " + x.setting(1) + " " + x.setting(2));
        OrganPegs y = loaded("Ov000v100v200");
        is("set() at 0", "0 0 0", y.setting(0) + " " + y.setting(1) + " " + y.setting(2));
    }

    private static void ticksAsText() {
        allows("Ot", DIGITS, false);
        allows("Ot0", "123456789", false);
        allows("Ot1", DIGITS, false);
        allows("Ot9", DIGITS, false);
        for (String n : new String[] {"01", "09", "10", "99"}) {
            allows("Ot" + n, COMMANDS, true);
            is("ticks() of " + n, Integer.parseInt(n), loaded("Ot" + n).about(2));
        }
    }

    private static void cancelAsText() {
        allows("Oc", "01", false);
        allows("Oc0", DIGITS, false);
        allows("Oc1", "01", false);
        for (String k : new String[] {"00", "09", "10", "11"}) {
            allows("Oc" + k, COMMANDS, true);
            String roll = "O" + "p0001".repeat(Integer.parseInt(k)) + "p5236" + "p0001".repeat(11 - Integer.parseInt(k)) + "c" + k;
            is("cancel() of " + k, "1 0 0 1 0/".repeat(10) + "1 0 0 1 0", orders(loaded(roll)));
        }
    }

    private static void leftOutCommands() {
        String twelve = "O" + "l000".repeat(12);
        is("the thirteenth order", "0 0 0 0 0/".repeat(11) + "0 0 0 0 0", orders(loaded(twelve + "p0011l523")));
        is("the speed 4", 1, loaded("Ov004").setting(0));
        is("the speed 60", 1, loaded("Ov060").setting(0));
        is("the echo 10", 0, loaded("Ov110").setting(1));
        is("the orders that do not exist", "1 2 3 4 0", orders(loaded("Op1023c00c00p2034c01")));
        is("those behind it are done", "3 5 1", about(loaded("Ov004c00v003t01c05v001t02v110"), 2, 3) + " "
            + loaded("Ov004c00v003t01c05v001t02v110").setting(0));
    }

    private static void noBlanks() {
        Object[][] texts = {{" O", 0}, {"O ", 1}, {"O p0001", 1}, {"Op 0001", 2}, {"Op0 001", 3}, {"Op00 01", 4}, {"Op000 1", 5},
            {"Op0001 ", 6}, {"Ot01 t01", 4}, {"Ot 1", 2}, {"Ot0 1", 3}, {"Ot01\n", 4}, {"Ot01\t", 4}, {"Ov0 60", 3}, {" ", 0}};
        for (Object[] text : texts) {
            OrganPegs x = typed((String) text[0]);
            is("errorPosition of '" + text[0] + "'", text[1], x.errorPosition());
            is("load of '" + text[0] + "'", STATE, answer(x::load));
        }
    }

    private static void leftToRight() {
        is("ticks of speed 3, and then of 0", "2 3", about(loaded("Ov003t01v000t01"), 2, 3));
        is("ticks of speed 0, and then the speed 3", "1 0", about(loaded("Ov000t01v003"), 2, 3));
        is("cancel of the one ahead", "1 0 1 1 0", orders(loaded("Op1021c00p0011")));
        is("cancel of the one that is the first by then", "1 0 1 1 0", orders(loaded("Op1021p0011c00")));
        is("put ahead of pull", "", pegs(loaded("Op0051l005t01")));
        is("pull ahead of put", "0 5 1 1", pegs(loaded("Ol005p0051t01")));
    }

    private static void firstWrongCharacter() {
        Object[][] texts = {{"xx", 0}, {"xO", 0}, {"Oxp9", 1}, {"Op9x", 2}, {"Op03x", 3}, {"Op024t", 4}, {"Op0000x", 5},
            {"Op0001xO", 6}, {"Ot01p6001v9", 5}, {"Ot01v061v061", 7}, {"OO", 1}, {"Ot01O", 4}, {"OP0001", 1}, {"\0", 0},
            {"O\u00ff", 1}, {"O" + "x".repeat(119), 1}, {"O".repeat(120), 1}, {"O" + "t01".repeat(39) + "tx", 119},
            {"O" + "t01".repeat(39) + "x0", 118}};
        for (Object[] text : texts) {
            is("errorPosition of '" + text[0] + "'", text[1], typed((String) text[0]).errorPosition());
        }
    }

    private static void digitsThatBeginNoNumber() {
        Object[][] texts = {{"Op6", 2}, {"Op03", 3}, {"Op09", 3}, {"Op024", 4}, {"Op0290", 4}, {"Op0000", 5}, {"Op0007", 5},
            {"Op5237", 5}, {"Ol6", 2}, {"Ol03", 3}, {"Ol024", 4}, {"Ol529", 4}, {"Ov3", 2}, {"Ov07", 3}, {"Ov061", 4}, {"Ov269", 4},
            {"Ov199", 3}, {"Ot00", 3}, {"Ot001", 3}, {"Oc2", 2}, {"Oc12", 3}, {"Oc19", 3}, {"Oc9", 2}, {"Ot011", 4}, {"Oc000", 4}};
        for (Object[] text : texts) {
            is("errorPosition of " + text[0], text[1], typed((String) text[0]).errorPosition());
        }
        // A digit that begins some allowed number is allowed, though what comes behind it may be wrong.
        is("0 behind t", 3, typed("Ot0x").errorPosition());
        is("2 behind a pipe", 4, typed("Op02x").errorPosition());
        is("6 behind v2", 4, typed("Ov26x").errorPosition());
        is("1 behind c", 3, typed("Oc1x").errorPosition());
    }

    private static void endsTooSoon() {
        is("no text", 0, new OrganPegs().errorPosition());
        for (String roll : new String[] {"Op0001", "Op5236", "Ol000", "Ol523", "Ov000", "Ov260", "Ot01", "Ot99", "Oc00", "Oc11"}) {
            for (int length = 2; length < roll.length(); length++) {
                is("errorPosition of " + roll.substring(0, length), length, typed(roll.substring(0, length)).errorPosition());
                String longer = "Ot01c11" + roll.substring(1, length);
                is("errorPosition of " + longer, longer.length(), typed(longer).errorPosition());
            }
        }
        is("a text of 120 characters", 120, typed("O" + "t01".repeat(39) + "c0").errorPosition());
        OrganPegs x = typed("Op0001");
        x.clearText();
        x.append('O');
        x.append('p');
        is("what was there ahead of clearText is gone", 2, x.errorPosition());
    }

    // ---- actions and undo

    private static void wholeState() {
        undone("put", x -> x.put(3, 9, 2));
        undone("pull", x -> x.pull(5, 20));
        undone("cancel", x -> x.cancel(0));
        undone("ticks", x -> x.ticks(99));
        undone("a tick", x -> x.ticks(1));
        undone("set of the speed", x -> x.set(0, 3));
        undone("set of the echo", x -> x.set(1, 9));
        undone("set of the bellows", x -> x.set(2, 0));
        OrganPegs x = busy();
        x.set(0, 2);
        x.put(0, 7, 6);
        x.ticks(9);
        x.set(1, 5);
        x.pull(5, 20);
        x.ticks(50);
        x.put(0, 9, 1);
        x.cancel(0);
        x.set(2, 0);
        x.ticks(12);
        is("all is as before", false, picture(busy()).equals(picture(x)));
        for (int left = 12; left >= 3; left--) {
            is("undo", left, x.undo());
        }
        is("all that there was", everything(busy()), everything(x));
        OrganPegs y = busy();
        y.set(2, 9);
        y.append('x');
        y.save(1);
        y.undo();
        is("the text is no part of it", BUSY_ROLL.length(), y.errorPosition());
        y.restore(1);
        is("a save slot is no part of it", 9, y.setting(2));
    }

    private static void undone(String what, ToIntFunction<OrganPegs> action) {
        OrganPegs x = busy();
        action.applyAsInt(x);
        is("undo of " + what, 3, x.undo());
        is("all that there is behind an undo of " + what, everything(busy()), everything(x));
    }

    private static void thrownIsNoAction() {
        OrganPegs x = busy();
        answer(() -> x.put(6, 0, 1));
        answer(() -> x.put(0, 24, 1));
        answer(() -> x.put(0, 0, 7));
        answer(() -> x.pull(-1, 0));
        answer(() -> x.pull(0, -1));
        answer(() -> x.cancel(1));
        answer(() -> x.ticks(0));
        answer(() -> x.ticks(100));
        answer(() -> x.set(3, 0));
        answer(() -> x.set(0, 4));
        is("states of a busy object", 3, undoAll(x));
        is("undo without a state", STATE, answer(x::undo));
        OrganPegs y = full();
        answer(() -> y.put(0, 0, 1));
        answer(() -> y.pull(0, 0));
        is("states of an object with 12 orders", 1, undoAll(y));
    }

    private static void actionWithoutDifference() {
        OrganPegs x = new OrganPegs();
        x.set(0, 1);
        x.set(1, 0);
        x.set(2, 20);
        is("undo", "2 1 0", x.undo() + " " + x.undo() + " " + x.undo());
        is("undo then", STATE, answer(x::undo));
    }

    private static void undoIsNoAction() {
        OrganPegs x = new OrganPegs();
        x.set(2, 1);
        x.set(2, 2);
        x.set(2, 3);
        is("states left", 2, x.undo());
        is("the setting", 2, x.setting(2));
        is("states left by another undo", 1, x.undo());
        is("the setting ahead of that", 1, x.setting(2));
        is("states left at the end", 0, x.undo());
        is("undo of nothing", STATE, answer(x::undo));
        is("the first setting", 20, x.setting(2));
    }

    private static void fourteenStates() {
        for (int actions = 0; actions <= 45; actions++) {
            OrganPegs x = new OrganPegs();
            for (int v = 1; v <= actions; v++) {
                x.set(2, v);
            }
            is("states behind " + actions + " actions", Math.min(actions, 14), undoAll(x));
        }
    }

    private static void oldestForgotten() {
        for (int actions = 13; actions <= 45; actions++) {
            OrganPegs x = new OrganPegs();
            for (int v = 1; v <= actions; v++) {
                x.set(2, v);
            }
            undoAll(x);
            is("the oldest state behind " + actions + " actions", actions <= 14 ? 20 : actions - 14, x.setting(2));
        }
        OrganPegs y = new OrganPegs();
        for (int v = 1; v <= 14; v++) {
            y.set(2, v);
        }
        for (int left = 13; left >= 9; left--) {
            is("undo", left, y.undo());
        }
        for (int v = 31; v <= 38; v++) {
            y.set(2, v);
        }
        is("states behind 14 actions, 5 undos, 8 actions", 14, undoAll(y));
        is("the oldest one then", 3, y.setting(2));
    }

    private static void loadAndRestoreAreNoActions() {
        OrganPegs x = loaded("Ov003t05p0011");
        is("undo behind a load", STATE, answer(x::undo));
        x.save(0);
        is("undo behind save", STATE, answer(x::undo));
        x.set(2, 5);
        x.restore(0);
        is("undo behind a restore", STATE, answer(x::undo));
        x.set(2, 5);
        x.load();
        is("undo behind another load", STATE, answer(x::undo));
        x.set(2, 5);
        x.append('t');
        x.errorPosition();
        x.clearText();
        x.save(1);
        x.simulate(3L, 9);
        x.runScript(1, 30001L);
        is("other calls are none either", 1, undoAll(x));
    }

    // ---- exceptions

    private static void firstNamedException() {
        refuses("append to a full text", () -> typed("O".repeat(120)), ARGUMENT, x -> x.append(256));
        refuses("append to a full text of -1", () -> typed("O".repeat(120)), ARGUMENT, x -> x.append(-1));
        refuses("pegOf", OrganPegsEdges::busy, INDEX, x -> x.pegOf(2, 4));
        refuses("orderOf", OrganPegsEdges::busy, INDEX, x -> x.orderOf(1, 5));
        refuses("pipeOf", OrganPegsEdges::busy, INDEX, x -> x.pipeOf(6, 5));
        refuses("put, no such pipe, no such length", OrganPegsEdges::busy, INDEX, x -> x.put(6, 0, 0));
        refuses("put, no such bar, no such length", OrganPegsEdges::busy, INDEX, x -> x.put(0, 24, 7));
        refuses("put, no such pipe, 12 orders", OrganPegsEdges::full, INDEX, x -> x.put(-1, 0, 1));
        refuses("put, no such bar, 12 orders", OrganPegsEdges::full, INDEX, x -> x.put(0, -1, 1));
        refuses("put, all three", OrganPegsEdges::full, INDEX, x -> x.put(6, 24, 0));
        refuses("put, no such length, 12 orders", OrganPegsEdges::full, ARGUMENT, x -> x.put(0, 0, 0));
        refuses("put, too long, 12 orders", OrganPegsEdges::full, ARGUMENT, x -> x.put(0, 0, 7));
        refuses("pull, no such pipe, 12 orders", OrganPegsEdges::full, INDEX, x -> x.pull(6, 0));
        refuses("pull, no such bar, 12 orders", OrganPegsEdges::full, INDEX, x -> x.pull(0, 24));
        refuses("room", OrganPegsEdges::busy, INDEX, x -> x.room(6, 7));
        refuses("restore", OrganPegs::new, INDEX, x -> x.restore(2));
        refuses("restore(-1)", OrganPegs::new, INDEX, x -> x.restore(-1));
    }

    private static void thrownChangesNothing() {
        refuses("append", OrganPegsEdges::busy, ARGUMENT, x -> x.append(256));
        refuses("append to 120", () -> typed("O" + "t01".repeat(39) + "t0"), STATE, x -> x.append('1'));
        refuses("load", OrganPegsEdges::busyWithoutRoll, STATE, OrganPegs::load);
        refuses("about", OrganPegsEdges::busy, ARGUMENT, x -> x.about(12));
        refuses("pegOf a peg", OrganPegsEdges::busy, INDEX, x -> x.pegOf(2, 0));
        refuses("pegOf", OrganPegsEdges::busy, ARGUMENT, x -> x.pegOf(0, 4));
        refuses("orderOf an order", OrganPegsEdges::busy, INDEX, x -> x.orderOf(1, 0));
        refuses("orderOf", OrganPegsEdges::busy, ARGUMENT, x -> x.orderOf(0, 5));
        refuses("pipeOf a pipe", OrganPegsEdges::busy, INDEX, x -> x.pipeOf(6, 0));
        refuses("pipeOf", OrganPegsEdges::busy, ARGUMENT, x -> x.pipeOf(0, 5));
        refuses("chord", OrganPegsEdges::busy, INDEX, x -> x.chord(24));
        refuses("covered", OrganPegsEdges::busy, ARGUMENT, x -> x.covered(2));
        refuses("setting", OrganPegsEdges::busy, ARGUMENT, x -> x.setting(3));
        refuses("put for a pipe", OrganPegsEdges::busy, INDEX, x -> x.put(6, 0, 1));
        refuses("put at a bar", OrganPegsEdges::busy, INDEX, x -> x.put(0, 24, 1));
        refuses("put of a length", OrganPegsEdges::busy, ARGUMENT, x -> x.put(0, 0, 7));
        refuses("put", OrganPegsEdges::full, STATE, x -> x.put(0, 0, 1));
        refuses("pull for a pipe", OrganPegsEdges::busy, INDEX, x -> x.pull(6, 0));
        refuses("pull at a bar", OrganPegsEdges::busy, INDEX, x -> x.pull(0, 24));
        refuses("pull", OrganPegsEdges::full, STATE, x -> x.pull(0, 0));
        refuses("cancel", OrganPegsEdges::busy, INDEX, x -> x.cancel(1));
        refuses("ticks", OrganPegsEdges::busy, ARGUMENT, x -> x.ticks(100));
        refuses("set", OrganPegsEdges::busy, ARGUMENT, x -> x.set(3, 0));
        refuses("set of a value", OrganPegsEdges::busy, ARGUMENT, x -> x.set(0, 4));
        refuses("undo", () -> loaded(BUSY_ROLL), STATE, OrganPegs::undo);
        refuses("doneIn", OrganPegsEdges::busy, INDEX, x -> x.doneIn(1));
        refuses("soundsIn", OrganPegsEdges::busy, INDEX, x -> x.soundsIn(6));
        refuses("leastSpeed", OrganPegsEdges::busy, ARGUMENT, x -> x.leastSpeed(100));
        refuses("room for a pipe", OrganPegsEdges::busy, INDEX, x -> x.room(6, 1));
        refuses("room of a length", OrganPegsEdges::busy, ARGUMENT, x -> x.room(0, 7));
        refuses("runScript", OrganPegsEdges::busy, ARGUMENT, x -> x.runScript(4, 30001L));
        refuses("runScript of a script", OrganPegsEdges::busy, ARGUMENT, x -> x.runScript(1, 100000L));
        refuses("simulate", OrganPegsEdges::busy, ARGUMENT, x -> x.simulate(1L, 61));
        refuses("save", OrganPegsEdges::busy, INDEX, x -> x.save(2));
        refuses("restore", OrganPegsEdges::busy, INDEX, x -> x.restore(2));
        refuses("restore of an empty slot", OrganPegsEdges::busy, STATE, x -> x.restore(1));
    }

    private static OrganPegs busyWithoutRoll() {
        OrganPegs x = busy();
        x.append('x');
        return x;
    }

    private static void asksChangeNothing() {
        keeps("doneIn", OrganPegsEdges::busy, 2, x -> x.doneIn(0));
        keeps("soundsIn", OrganPegsEdges::busy, 16, x -> x.soundsIn(5));
        keeps("soundsIn of a pipe that never does", OrganPegsEdges::busy, -1, x -> x.soundsIn(3));
        keeps("leastSpeed", OrganPegsEdges::busy, 1, x -> x.leastSpeed(99));
        keeps("fullest", OrganPegsEdges::busy, 4, OrganPegs::fullest);
        keeps("room", OrganPegsEdges::busy, 5, x -> x.room(1, 6));
        keeps("runScript", OrganPegsEdges::busy, -1, x -> x.runScript(3, 50000_30099_42000L));
        keeps("runScript that fails", OrganPegsEdges::busy, 2, x -> x.runScript(3, 15081_30099_70099L));
        keeps("simulate", OrganPegsEdges::busy, simulated(busy(), 5L, 60), x -> x.simulate(5L, 60));
        keeps("about", OrganPegsEdges::busy, 3, x -> x.about(8));
        keeps("pegOf", OrganPegsEdges::busy, 3, x -> x.pegOf(1, 3));
        keeps("orderOf", OrganPegsEdges::busy, 1, x -> x.orderOf(0, 4));
        keeps("pipeOf", OrganPegsEdges::busy, 1, x -> x.pipeOf(0, 3));
        keeps("chord", OrganPegsEdges::busy, 32, x -> x.chord(20));
        keeps("covered", OrganPegsEdges::busy, 3, x -> x.covered(1));
        keeps("setting", OrganPegsEdges::busy, 1, x -> x.setting(1));
        keeps("errorPosition", OrganPegsEdges::busy, -1, OrganPegs::errorPosition);
        keeps("errorPosition of no roll", OrganPegsEdges::busyWithoutRoll, BUSY_ROLL.length(), OrganPegs::errorPosition);
    }

    // ---- promises 1 to 5

    private static void newObject() {
        OrganPegs x = new OrganPegs();
        is("its numbers", "0 0 0 0 0 0 0 0 0 0 0 0", numbers(x));
        is("its settings", "1 0 20", x.setting(0) + " " + x.setting(1) + " " + x.setting(2));
        for (int p = 0; p < 6; p++) {
            is("the pipe " + p, "0 0 0 0 0", x.pipeOf(p, 0) + " " + x.pipeOf(p, 1) + " " + x.pipeOf(p, 2) + " " + x.pipeOf(p, 3)
                + " " + x.pipeOf(p, 4));
        }
        is("bars that are covered", "0 0", x.covered(0) + " " + x.covered(1));
        is("pegOf", INDEX, answer(() -> x.pegOf(0, 0)));
        is("orderOf", INDEX, answer(() -> x.orderOf(0, 0)));
        is("cancel", INDEX, answer(() -> x.cancel(0)));
        is("doneIn", INDEX, answer(() -> x.doneIn(0)));
        is("undo", STATE, answer(x::undo));
        is("restore(0)", STATE, answer(() -> x.restore(0)));
        is("restore(1)", STATE, answer(() -> x.restore(1)));
        is("load", STATE, answer(x::load));
        is("clearText", 0, x.clearText());
        is("NONE", -1, OrganPegs.NONE);
        OrganPegs other = new OrganPegs();
        busy();
        is("an object does not see what others do", everything(new OrganPegs()), everything(other));
    }

    private static void charactersOutOfRange() {
        for (int c : new int[] {-1, 256, LOW, HIGH, 65536 + 'O'}) {
            refuses("append(" + c + ")", OrganPegsEdges::busy, ARGUMENT, x -> x.append(c));
        }
        OrganPegs x = new OrganPegs();
        is("append(0)", 1, x.append(0));
        is("append(255)", 2, x.append(255));
        is("append(127)", 3, x.append(127));
        is("append(128)", 4, x.append(128));
    }

    private static void fullText() {
        Supplier<OrganPegs> make = () -> typed("O" + "t01".repeat(39) + "t0");
        refuses("append('1') to 120", make, STATE, x -> x.append('1'));
        refuses("append(0) to 120", make, STATE, x -> x.append(0));
        refuses("append(255) to 120", make, STATE, x -> x.append(255));
        is("append to 119", 120, typed("O" + "t01".repeat(39) + "t").append('0'));
    }

    private static void emptiesTheText() {
        is("of an empty text", 0, new OrganPegs().clearText());
        is("of one character", 1, typed("x").clearText());
        OrganPegs x = typed("O".repeat(120));
        is("of a full text", 120, x.clearText());
        is("once more", 0, x.clearText());
        is("errorPosition then", 0, x.errorPosition());
        is("append then", 1, x.append('O'));
        is("the old ones are gone", -1, x.errorPosition());
        OrganPegs y = busy();
        y.clearText();
        is("the state stays", picture(busy()), picture(y));
    }

    private static void errorPositionOrNone() {
        is("the shortest roll", -1, typed("O").errorPosition());
        is("a roll", -1, typed(BUSY_ROLL).errorPosition());
        is("a roll with a command that is left out", -1, typed("Ov160").errorPosition());
        is("no text", 0, new OrganPegs().errorPosition());
        is("a text that is wrong at its start", 0, typed("p0001").errorPosition());
        OrganPegs x = typed("Op00");
        is("too short", 4, x.errorPosition());
        is("told again", 4, x.errorPosition());
        x.append('0');
        x.append('1');
        is("and then complete", -1, x.errorPosition());
    }

    private static void loadsAsNew() {
        OrganPegs x = busy();
        x.set(0, 3);
        x.set(1, 9);
        x.set(2, 60);
        x.ticks(99);
        is("load", 0, x.load());
        is("all that there is", everything(loaded(BUSY_ROLL)), everything(x));
        OrganPegs y = busy();
        y.clearText();
        y.append('O');
        is("load of a roll without commands", 0, y.load());
        y.clearText();
        is("all that there is in a new object", everything(new OrganPegs()), everything(y));
    }

    private static void loadForgets() {
        OrganPegs x = busy();
        x.save(1);
        is("load", 0, x.load());
        is("undo", STATE, answer(x::undo));
        is("restore(0)", STATE, answer(() -> x.restore(0)));
        is("restore(1)", STATE, answer(() -> x.restore(1)));
        is("the commands of a roll are not remembered", STATE, answer(loaded("Ov003v109t09p0011c00")::undo));
    }

    private static void loadKeepsTheText() {
        OrganPegs x = typed(BUSY_ROLL);
        x.load();
        is("errorPosition behind it", -1, x.errorPosition());
        is("another load", 0, x.load());
        is("the length", BUSY_ROLL.length(), x.clearText());
        OrganPegs y = typed("Op0x");
        is("load of no roll", STATE, answer(y::load));
        is("errorPosition then", 3, y.errorPosition());
        is("the length then", 4, y.clearText());
    }

    private static void numberLeftOut() {
        is("no command", 0, typed("O").load());
        is("none of five", 0, typed("Op0011l000v100t01c00").load());
        is("all of 39", 39, typed("O" + "c00".repeat(39)).load());
        is("the speed beyond 3", 2, typed("Ov003v004v060").load());
        is("the echo beyond 9", 2, typed("Ov109v110v160").load());
        is("no bellows are beyond 60", 0, typed("Ov200v259v260").load());
        is("the thirteenth order to put", 1, typed("O" + "p0001".repeat(13)).load());
        is("the thirteenth order to pull", 1, typed("O" + "l000".repeat(13)).load());
        is("a thirteenth order behind one that is void", 0, typed("O" + "l000".repeat(12) + "t01l000").load());
        is("cancel of the last", 0, typed("O" + "l000".repeat(12) + "c11").load());
        is("cancel of one behind it", 1, typed("O" + "l000".repeat(11) + "c11").load());
        is("an order that is void is not left out", 0, typed("Ol000t01").load());
    }

    private static void loadOfNoRoll() {
        for (String text : new String[] {"x", "OO", "Op", "Op0000", "Op024", "Ol6", "Ov061", "Ot00", "Oc12", "O ", "Ot0"}) {
            OrganPegs x = typed(text);
            is("load of " + text, STATE, answer(x::load));
            is("the text behind it", text.length(), x.clearText());
        }
        refuses("load behind a wrong character", OrganPegsEdges::busyWithoutRoll, STATE, OrganPegs::load);
        refuses("load without a text", OrganPegsEdges::busyWithoutText, STATE, OrganPegs::load);
    }

    private static OrganPegs busyWithoutText() {
        OrganPegs x = busy();
        x.clearText();
        return x;
    }

    // ---- promises 6 to 12

    private static void soundedSet() {
        OrganPegs x = new OrganPegs();
        is("ahead of the first tick", 0, x.about(7));
        x.put(0, 2, 1);
        x.put(5, 2, 2);
        x.put(3, 4, 1);
        x.ticks(1);
        is("nothing is open", 0, x.about(7));
        x.ticks(1);
        is("the first and the last pipe", 33, x.about(7));
        x.ticks(1);
        is("the last pipe", 32, x.about(7));
        x.set(2, 0);
        x.ticks(1);
        is("a pipe that lacks wind", "0 1", about(x, 7, 10));
        x.undo();
        is("behind an undo", 32, x.about(7));
    }

    private static void heardSet() {
        OrganPegs x = new OrganPegs();
        is("ahead of the first tick", 0, x.about(8));
        x.put(1, 2, 1);
        x.put(4, 3, 1);
        x.ticks(3);
        is("without an echo", 16, x.about(8));
        x.set(1, 1);
        is("the echo set behind the tick", 16, x.about(8));
        x.ticks(1);
        is("the echo of the tick ahead", 16, x.about(8));
        x.undo();
        x.set(1, 2);
        x.ticks(1);
        is("the echo of two ticks ago", 2, x.about(8));
        x.set(1, 0);
        is("no echo, set behind the tick", 2, x.about(8));
    }

    private static void aboutOutOfRange() {
        for (int what : new int[] {-1, 12, LOW, HIGH}) {
            refuses("about(" + what + ")", OrganPegsEdges::busy, ARGUMENT, x -> x.about(what));
        }
        is("about(0) to about(11)", "2 1 12 4 1 4 2 2 3 2 1 1", numbers(busy()));
    }

    private static void versionOfAPeg() {
        is("puts and a pull", "1 6 1 2/2 7 1 4", pegs(loaded("Op0051p1061l005t01p2071t01")));
        is("a void order makes none", "0 5 1 1/2 7 1 2", pegs(loaded("Op0051l105t01p2071t01")));
        is("the same peg again", "0 5 1 3", pegs(loaded("Op0051t01l005p0051t01")));
    }

    private static void noSuchPeg() {
        for (int k : new int[] {-1, 2, 29, 30, LOW, HIGH}) {
            refuses("pegOf(" + k + ", 0)", OrganPegsEdges::busy, INDEX, x -> x.pegOf(k, 0));
        }
        refuses("pegOf(0, 0) without pegs", OrganPegs::new, INDEX, x -> x.pegOf(0, 0));
        is("the last one", "5 20 2 3", peg(busy(), 1));
        OrganPegs x = withPegs(30);
        is("the thirtieth", "5 9 1 30", peg(x, 29));
        is("one behind it", INDEX, answer(() -> x.pegOf(30, 0)));
        is("one ahead of the first", INDEX, answer(() -> x.pegOf(-1, 0)));
    }

    private static void pegOfOutOfRange() {
        for (int what : new int[] {-1, 4, LOW, HIGH}) {
            refuses("pegOf(0, " + what + ")", OrganPegsEdges::busy, ARGUMENT, x -> x.pegOf(0, what));
            refuses("pegOf(1, " + what + ")", OrganPegsEdges::busy, ARGUMENT, x -> x.pegOf(1, what));
        }
    }

    private static void waitedTicks() {
        OrganPegs x = new OrganPegs();
        x.set(0, 0);
        x.put(0, 23, 2);
        is("ahead of a tick", "1 0 23 2 0", orders(x));
        x.ticks(1);
        is("behind a tick", "1 0 23 2 1", orders(x));
        x.put(5, 19, 6);
        x.ticks(99);
        is("behind 99 more", "1 0 23 2 100/1 5 19 6 99", orders(x));
        is("one to pull", "0 0 2 0 3", orders(loaded("Op0022t02v000l002t03")));
        is("one in the place of one that is gone", "1 1 0 1 0", orders(loaded("Ov000p0001t05c00p1001")));
    }

    private static void noSuchOrder() {
        for (int k : new int[] {-1, 1, 11, 12, LOW, HIGH}) {
            refuses("orderOf(" + k + ", 0)", OrganPegsEdges::busy, INDEX, x -> x.orderOf(k, 0));
            refuses("cancel(" + k + ")", OrganPegsEdges::busy, INDEX, x -> x.cancel(k));
            refuses("doneIn(" + k + ")", OrganPegsEdges::busy, INDEX, x -> x.doneIn(k));
        }
        refuses("orderOf without orders", OrganPegs::new, INDEX, x -> x.orderOf(0, 0));
        refuses("cancel without orders", OrganPegs::new, INDEX, x -> x.cancel(0));
        refuses("doneIn without orders", OrganPegs::new, INDEX, x -> x.doneIn(0));
        refuses("orderOf(12, 0) with 12 orders", OrganPegsEdges::full, INDEX, x -> x.orderOf(12, 0));
        refuses("cancel(12) with 12 orders", OrganPegsEdges::full, INDEX, x -> x.cancel(12));
        refuses("doneIn(12) with 12 orders", OrganPegsEdges::full, INDEX, x -> x.doneIn(12));
        is("the twelfth", "1 3 3 1 0", order(full(), 11));
        is("when it is done", 1, full().doneIn(11));
    }

    private static void orderOfAndPipeOfOutOfRange() {
        for (int what : new int[] {-1, 5, LOW, HIGH}) {
            refuses("orderOf(0, " + what + ")", OrganPegsEdges::busy, ARGUMENT, x -> x.orderOf(0, what));
            refuses("pipeOf(0, " + what + ")", OrganPegsEdges::busy, ARGUMENT, x -> x.pipeOf(0, what));
            refuses("pipeOf(5, " + what + ")", OrganPegsEdges::busy, ARGUMENT, x -> x.pipeOf(5, what));
        }
    }

    private static void openNow() {
        OrganPegs x = busy();
        is("the pipe 1 at its bar", 1, x.pipeOf(1, 2));
        is("the pipe 2, whose order waits", 0, x.pipeOf(2, 2));
        is("the pipe 5 at another bar", 0, x.pipeOf(5, 2));
        x.set(2, 0);
        x.set(0, 0);
        x.ticks(1);
        is("a pipe that lacks wind is open", "1 1", x.pipeOf(1, 2) + " " + x.pipeOf(1, 4));
        is("a pipe in a new object", 0, new OrganPegs().pipeOf(0, 2));
    }

    private static void chords() {
        OrganPegs x = loaded("Op0223p5231p3221p2021t01");
        int[] due = new int[24];
        due[22] = 1 + 8;
        due[23] = 1 + 32;
        due[0] = 1;
        due[2] = 4;
        for (int b = 0; b < 24; b++) {
            is("chord(" + b + ")", due[b], x.chord(b));
        }
        is("all six", 63, loaded("Op0091p1091p2091p3091p4091p5091t01").chord(9));
        is("none", 0, new OrganPegs().chord(0));
    }

    private static void coveredBothWays() {
        coveredIs("a new object", 0, new OrganPegs());
        coveredIs("30 pegs", 30, withPegs(30));
        coveredIs("all but a bar of each pipe", 6 * 23, openButAt0(0, 1, 2, 3, 4, 5));
        coveredIs("behind 23", 8, loaded("Op0223p5231p3224t03"));
        coveredIs("behind a pull", 5, loaded("Op0223p5231p3224t03l022t01"));
        coveredIs("behind orders that wait or are void", 4, loaded("Op0223t03p0232p1051l006t01p1026t01"));
    }

    private static void coveredIs(String what, int due, OrganPegs x) {
        is(what + ", bar by bar", due, x.covered(0));
        is(what + ", by lengths", due, x.covered(1));
    }

    private static void coveredOutOfRange() {
        for (int way : new int[] {-1, 2, LOW, HIGH}) {
            refuses("covered(" + way + ")", OrganPegsEdges::busy, ARGUMENT, x -> x.covered(way));
        }
    }

    private static void noSuchSetting() {
        for (int what : new int[] {-1, 3, LOW, HIGH}) {
            refuses("setting(" + what + ")", OrganPegsEdges::busy, ARGUMENT, x -> x.setting(what));
        }
        OrganPegs x = loaded("Ov002v107v233");
        is("setting(0) to setting(2)", "2 7 33", x.setting(0) + " " + x.setting(1) + " " + x.setting(2));
    }

    // ---- promises 13 to 18

    private static void notLookedAtBeforeTheTick() {
        OrganPegs x = new OrganPegs();
        is("put", 0, x.put(0, 9, 1));
        is("pull of no peg", 1, x.pull(1, 9));
        x.set(0, 3);
        x.save(0);
        is("pegs, orders, version, void", "0 2 0 0", about(x, 0, 1, 5, 11));
        is("the orders", "1 0 9 1 0/0 1 9 0 0", orders(x));
        x.ticks(1);
        is("behind a tick", "1 0 1 1", about(x, 0, 1, 5, 11));
        OrganPegs y = loaded("Op0091t01");
        y.pull(0, 9);
        is("an order to pull", "1 1 1", about(y, 0, 1, 5));
        y.ticks(1);
        is("behind a tick", "0 0 2", about(y, 0, 1, 5));
    }

    private static void putLengths() {
        for (int length : new int[] {0, 7, -1, LOW, HIGH}) {
            refuses("put(0, 9, " + length + ")", OrganPegsEdges::busy, ARGUMENT, x -> x.put(0, 9, length));
        }
        is("put(0, 9, 1)", 1, busy().put(0, 9, 1));
        is("put(0, 9, 6)", 1, busy().put(0, 9, 6));
    }

    private static void refusedWhenTwelveWait() {
        refuses("put", OrganPegsEdges::full, STATE, x -> x.put(0, 9, 1));
        refuses("pull", OrganPegsEdges::full, STATE, x -> x.pull(0, 9));
        OrganPegs put = full();
        put.cancel(3);
        is("put when 11 wait", 11, put.put(0, 9, 1));
        OrganPegs pull = full();
        pull.cancel(3);
        is("pull when 11 wait", 11, pull.pull(0, 9));
        pull.undo();
        pull.undo();
        is("when 12 wait again behind undo", STATE, answer(() -> pull.pull(0, 9)));
    }

    private static void cancels() {
        String roll = "Op0051p1061l207p3081";
        cancelled("the first", roll, 0, "1 1 6 1 0/0 2 7 0 0/1 3 8 1 0");
        cancelled("one between", roll, 1, "1 0 5 1 0/0 2 7 0 0/1 3 8 1 0");
        cancelled("one to pull", roll, 2, "1 0 5 1 0/1 1 6 1 0/1 3 8 1 0");
        cancelled("the last", roll, 3, "1 0 5 1 0/1 1 6 1 0/0 2 7 0 0");
        OrganPegs x = loaded("Op0051");
        is("the only one", 0, x.cancel(0));
        is("and then", INDEX, answer(() -> x.cancel(0)));
        x.ticks(1);
        is("it is neither done nor void", "0 0 0 0", about(x, 0, 1, 5, 11));
        is("one of twelve", 11, full().cancel(11));
    }

    private static void cancelled(String what, String roll, int k, String due) {
        OrganPegs x = loaded(roll);
        is(what, 3, x.cancel(k));
        is(what + ": those that are left", due, orders(x));
        is(what + ": version, void", "0 0", about(x, 5, 11));
        is(what + ": it is an action", 0, x.undo());
        is(what + ": and is taken back", 4, x.about(1));
    }

    private static void notesInTicks() {
        OrganPegs x = loaded("Op0026t01");
        is("99 ticks", 27, x.ticks(99));
        is("all notes", 27, x.about(9));
        is("one tick", 1, x.ticks(1));
        is("all notes then", 28, x.about(9));
        x.ticks(2);
        is("a tick without a note", 0, x.ticks(1));
        is("ticks of six pipes with wind for some", 4, loaded("Op0021p1021p2021p3021p4021p5021t01").ticks(5));
    }

    private static void ticksOutOfRange() {
        for (int n : new int[] {0, 100, -1, LOW, HIGH}) {
            refuses("ticks(" + n + ")", OrganPegsEdges::busy, ARGUMENT, x -> x.ticks(n));
            refuses("leastSpeed(" + n + ")", OrganPegsEdges::busy, ARGUMENT, x -> x.leastSpeed(n));
        }
        OrganPegs x = new OrganPegs();
        is("ticks(1)", 0, x.ticks(1));
        is("ticks(99)", 0, x.ticks(99));
        is("the time", 100, x.about(2));
        is("leastSpeed(1), leastSpeed(99)", "0 0", x.leastSpeed(1) + " " + x.leastSpeed(99));
    }

    private static void setReturnsThePreviousOne() {
        OrganPegs x = new OrganPegs();
        is("speed", "1 3 0", x.set(0, 3) + " " + x.set(0, 0) + " " + x.set(0, 2));
        is("echo", "0 9 0", x.set(1, 9) + " " + x.set(1, 0) + " " + x.set(1, 4));
        is("bellows", "20 60 0", x.set(2, 60) + " " + x.set(2, 0) + " " + x.set(2, 33));
        is("the same value", "2 4 33", x.set(0, 2) + " " + x.set(1, 4) + " " + x.set(2, 33));
        is("the settings", "2 4 33", x.setting(0) + " " + x.setting(1) + " " + x.setting(2));
    }

    private static void setOutOfRange() {
        int[][] calls = {{-1, 0}, {3, 0}, {LOW, 0}, {HIGH, 0}, {0, -1}, {0, 4}, {1, -1}, {1, 10}, {2, -1}, {2, 61}, {0, LOW}, {1, HIGH},
            {2, HIGH}, {3, 61}, {-1, -1}};
        for (int[] call : calls) {
            refuses("set(" + call[0] + ", " + call[1] + ")", OrganPegsEdges::busy, ARGUMENT, x -> x.set(call[0], call[1]));
        }
    }

    private static void undoCounts() {
        refuses("undo in a new object", OrganPegs::new, STATE, OrganPegs::undo);
        OrganPegs x = busy();
        is("undo", "2 1 0", x.undo() + " " + x.undo() + " " + x.undo());
        is("undo of none", STATE, answer(x::undo));
        is("what is there then", picture(loaded(BUSY_ROLL)), picture(x));
        OrganPegs y = new OrganPegs();
        for (int v = 0; v < 20; v++) {
            y.set(2, v);
        }
        for (int left = 13; left >= 0; left--) {
            is("undo of one of 14", left, y.undo());
        }
        is("undo of the fifteenth", STATE, answer(y::undo));
    }

    // ---- promises 19 to 23

    private static void doneBehindTicks() {
        OrganPegs x = openButAt0(0);
        x.set(0, 1);
        x.pull(0, 23);
        x.put(0, 0, 1);
        x.put(0, 0, 2);
        x.put(0, 20, 1);
        x.pull(1, 1);
        x.put(1, 0, 1);
        x.put(1, 23, 6);
        is("when the pipe is silent again", 24, x.doneIn(0));
        is("when another order has made it silent elsewhere", 47, x.doneIn(1));
        is("void behind that one", 47, x.doneIn(2));
        is("void at the silent bar", 24, x.doneIn(3));
        is("void in the next tick", 1, x.doneIn(4));
        is("done in the next tick", 1, x.doneIn(5));
        is("done when the comb is behind it", 5, x.doneIn(6));
        x.ticks(46);
        is("a tick ahead of it", "2 1", x.about(1) + " " + x.doneIn(0));
        x.ticks(1);
        is("then", 0, x.about(1));
    }

    private static void waitsAllTheTime() {
        OrganPegs x = combAt(5);
        x.put(0, 0, 6);
        x.put(1, 9, 1);
        is("under a comb that stands", -1, x.doneIn(0));
        is("beside it", 1, x.doneIn(1));
        x.set(0, 1);
        is("under a comb that goes on", 1, x.doneIn(0));
        OrganPegs y = loaded("Ot01v000p0026p0086p0146p0205t01v001t01v002");
        y.pull(0, 2);
        is("at each bar that the comb comes to the pipe is open", -1, y.doneIn(0));
        y.set(0, 1);
        is("the comb comes to each bar", 23, y.doneIn(0));
        y.set(0, 3);
        is("in steps of three", -1, y.doneIn(0));
        y.set(0, 1);
        y.ticks(2);
        y.set(0, 3);
        is("in steps of three from another bar", 7, y.doneIn(0));
    }

    private static void soundsBehindTicks() {
        OrganPegs x = loaded("Op0021p1011t02");
        is("the comb is at its bar", 24, x.soundsIn(0));
        is("the comb is a bar behind it", 23, x.soundsIn(1));
        is("a pipe without pegs", -1, x.soundsIn(2));
        x.set(0, 2);
        is("in steps of two", 12, x.soundsIn(0));
        is("never in steps of two", -1, x.soundsIn(1));
        x.set(0, 0);
        is("while the comb stands", 1, x.soundsIn(0));
        is("never while the comb stands", -1, x.soundsIn(1));
        x.set(2, 0);
        is("without wind", -1, x.soundsIn(0));
        OrganPegs y = loaded("Op0031t01");
        y.set(0, 2);
        is("the next tick", 1, y.soundsIn(0));
        OrganPegs late = openButAt0(0, 1);
        late.put(5, 22, 1);
        late.ticks(1);
        late.set(0, 1);
        late.put(2, 0, 1);
        late.put(3, 0, 1);
        late.ticks(24);
        is("the comb, the wind", "0 0", about(late, 3, 6));
        is("others use all of the wind", -1, late.soundsIn(5));
        late.pull(0, 23);
        is("when a peg is gone, and the wind is kept for most of a turn", 70, late.soundsIn(5));
        is("the order for that", 24, late.doneIn(0));
        late.ticks(69);
        is("a tick ahead of it", "0 1", late.pipeOf(5, 3) + " " + late.soundsIn(5));
        late.ticks(1);
        is("then", 1, late.pipeOf(5, 3));
    }

    private static void leastSpeeds() {
        OrganPegs x = loaded("Op0021p0051t01v200t01");
        is("wind has been lacking already", 1, x.about(10));
        is("one tick", 1, x.leastSpeed(1));
        is("two ticks", 1, x.leastSpeed(2));
        is("the speed 1 lacks wind in the third tick", 2, x.leastSpeed(3));
        is("eleven ticks", 2, x.leastSpeed(11));
        is("the speed 2 lacks wind in the twelfth tick, the speed 3 in the first", -1, x.leastSpeed(12));
        OrganPegs y = loaded("Op0023t01v200t01");
        is("only the speed 3 leaves the peg behind", 3, y.leastSpeed(1));
        is("seven ticks", 3, y.leastSpeed(7));
        is("eight ticks, a turn of the speed 3", -1, y.leastSpeed(8));
        is("the speed stays", 1, y.setting(0));
        is("nothing is open", 0, loaded("Op0023t01v200").leastSpeed(99));
        is("wind for one tick", 0, loaded("Op0021t02").leastSpeed(1));
        is("wind for three ticks", 0, loaded("Op0021t02").leastSpeed(3));
        is("wind for no fourth tick", 1, loaded("Op0021t02").leastSpeed(4));
        is("a new object", 0, new OrganPegs().leastSpeed(99));
    }

    private static void fullestBars() {
        is("a new object", 0, new OrganPegs().fullest());
        is("the only bar", 9, loaded("Op0091t01").fullest());
        for (int b = 0; b < 24; b++) {
            OrganPegs x = combAt((b + 12) % 24);
            x.put(2, b, 1);
            x.put(4, b, 1);
            x.put(3, (b + 1) % 24, 6);
            x.put(5, (b + 17) % 24, 6);
            x.ticks(1);
            is("two pipes at the bar " + b + ", one at those beside it", b, x.fullest());
        }
        is("the lowest of a peg", 5, loaded("Op0056t01").fullest());
        is("the lowest of a peg is behind 23", 0, loaded("Op0223t01").fullest());
        is("of two bars the lower", 6, loaded("Op0201p1201p2061p3061t01").fullest());
        is("one pipe more at a higher bar", 20, loaded("Op0201p1201p4201p2061p3061t01").fullest());
        is("where pegs meet", 8, loaded("Op0046p1086t01").fullest());
        is("orders do not count", 0, loaded("Op0056").fullest());
    }

    private static void rooms() {
        is("a new object", "0 0", new OrganPegs().room(0, 1) + " " + new OrganPegs().room(5, 6));
        OrganPegs x = openButAt0(0);
        is("one bar", "0 -1 -1", x.room(0, 1) + " " + x.room(0, 2) + " " + x.room(0, 6));
        is("another pipe", 0, x.room(1, 6));
        OrganPegs y = loaded("Op0026p0086p0146p0202t01");
        is("four bars over the end", "0 0 22 22 -1 -1", y.room(0, 1) + " " + y.room(0, 2) + " " + y.room(0, 3) + " " + y.room(0, 4)
            + " " + y.room(0, 5) + " " + y.room(0, 6));
        OrganPegs z = loaded("Ot10v000p0006p0116p0176t01");
        is("a gap of five, and the bar 23", "6 6 6 -1", z.room(0, 1) + " " + z.room(0, 2) + " " + z.room(0, 5) + " " + z.room(0, 6));
        OrganPegs last = loaded("Ot23v000p0006p0066p0126p0185t01");
        is("only the bar 23", "23 -1", last.room(0, 1) + " " + last.room(0, 2));
        OrganPegs waiting = loaded("Op0006");
        is("orders do not count", 0, waiting.room(0, 6));
        is("nor does the limit of 30 pegs", 10, withPegs(30).room(0, 6));
        for (int length : new int[] {0, 7, -1, LOW, HIGH}) {
            refuses("room(0, " + length + ")", OrganPegsEdges::busy, ARGUMENT, o -> o.room(0, length));
        }
    }

    // ---- promises 24 and 25

    private static void scriptLengths() {
        for (int n : new int[] {0, 4, -1, LOW, HIGH}) {
            refuses("runScript(" + n + ", 30001)", OrganPegsEdges::busy, ARGUMENT, x -> x.runScript(n, 30001L));
            refuses("runScript(" + n + ", 0)", OrganPegsEdges::busy, ARGUMENT, x -> x.runScript(n, 0L));
        }
        is("one", -1, busy().runScript(1, 30001L));
        is("two", -1, busy().runScript(2, 30001_30002L));
        is("three", -1, busy().runScript(3, 30001_30002_30003L));
    }

    private static void scriptDigits() {
        long[][] tooLong = {{1, 100000L}, {2, 10000000000L}, {3, 1000000000000000L}, {1, Long.MAX_VALUE}, {3, Long.MAX_VALUE},
            {1, 30001_30001L}, {1, 1L << 32}, {2, 1L << 40}, {3, 1L << 60}};
        for (long[] call : tooLong) {
            refuses("runScript(" + call[0] + ", " + call[1] + ")", OrganPegsEdges::busy, ARGUMENT,
                x -> x.runScript((int) call[0], call[1]));
        }
        for (int length = 1; length <= 3; length++) {
            int n = length;
            for (long script : new long[] {-1L, -30001L, Long.MIN_VALUE}) {
                refuses("runScript(" + n + ", " + script + ")", OrganPegsEdges::busy, ARGUMENT, x -> x.runScript(n, script));
            }
            is("runScript(" + n + ", 0)", 0, busy().runScript(n, 0L));
        }
        is("five nines", 0, busy().runScript(1, 99999L));
        is("ten nines", 0, busy().runScript(2, 9999999999L));
        is("fifteen nines", 0, busy().runScript(3, 999999999999999L));
        is("five digits", -1, busy().runScript(1, 90002L));
        is("ten digits", -1, busy().runScript(2, 90002_90002L));
        is("fifteen digits", -1, busy().runScript(3, 90002_90002_90002L));
    }

    private static void zerosBeforeAScript() {
        is("one group of two", 0, busy().runScript(2, 30001L));
        is("two groups of three", 0, busy().runScript(3, 30001_30001L));
        is("fourteen digits of fifteen", 0, busy().runScript(3, 3001_30001_30001L));
        is("zeros inside do not matter", 1, busy().runScript(3, 30001_00000_30001L));
    }

    /** All 100000 groups, some hundreds for an object, in a state with an order that waits and in one with twelve of them. */
    private static void everyGroup() {
        for (int first = 0; first < 100000; first += 250) {
            groups(busy(), first, 1, 4, 2);
            groups(full(), first, 12, 1, 0);
        }
    }

    private static void groups(OrganPegs x, int first, int orders, int version, int sounded) {
        int[] chords = new int[24];
        for (int b = 0; b < 24; b++) {
            chords[b] = x.chord(b);
        }
        for (int group = first; group < first + 250; group++) {
            boolean succeeds = succeeds(group, chords, orders, version, sounded);
            is("the group " + group + " with " + orders + " orders", succeeds ? -1 : 0, x.runScript(1, group));
        }
    }

    private static boolean succeeds(int group, int[] chords, int orders, int version, int sounded) {
        String d = String.format("%05d", group);
        int one = d.charAt(1) - '0';
        int bar = Integer.parseInt(d.substring(2, 4));
        int end = Integer.parseInt(d.substring(3));
        int last = d.charAt(4) - '0';
        boolean there = one <= 5 && bar <= 23;
        switch (d.charAt(0)) {
            case '1':
                return there && last >= 1 && last <= 6 && orders < 12;
            case '2':
                return there && last == 0 && orders < 12;
            case '3':
                return d.startsWith("300") && end >= 1;
            case '4':
                return d.charAt(2) == '0' && (one == 0 && end <= 3 || one == 1 && end <= 9 || one == 2 && end <= 60);
            case '5':
                return one == 0 && last == 0 && bar < orders;
            case '6':
                return there && last == 0 && (chords[bar] >> one & 1) == 1;
            case '7':
                return d.startsWith("700") && end <= version;
            case '8':
                return d.startsWith("8000") && orders <= last;
            case '9':
                return d.startsWith("900") && end == sounded;
            default:
                return false;
        }
    }

    private static void commandsThatWouldThrow() {
        is("put with 12 orders", 0, full().runScript(1, 10001L));
        is("pull with 12 orders", 0, full().runScript(1, 20000L));
        is("put of a length 0", 0, busy().runScript(1, 10090L));
        is("put of a length 7", 0, busy().runScript(1, 10097L));
        is("no ticks", 0, busy().runScript(1, 30000L));
        is("the speed 4", 0, busy().runScript(1, 40004L));
        is("the echo 10", 0, busy().runScript(1, 41010L));
        is("the bellows 61", 0, busy().runScript(1, 42061L));
        is("the setting 3", 0, busy().runScript(1, 43000L));
        is("an order that is not there", 0, busy().runScript(1, 50010L));
        is("an order that is gone", 1, busy().runScript(2, 50000_50000L));
        is("a place behind a cancel, and no other", 2, full().runScript(3, 50110_10091_20090L));
        is("99 ticks", -1, busy().runScript(1, 30099L));
    }

    private static void firstToFail() {
        is("none", -1, busy().runScript(3, 50000_80000_30099L));
        is("the first", 0, busy().runScript(3, 80000_50000_30099L));
        is("the second", 1, busy().runScript(3, 80001_80000_50000L));
        is("the third", 2, busy().runScript(3, 80001_50000_70005L));
        is("all of them: the first", 0, busy().runScript(3, 0L));
        is("two of them: the first", 1, busy().runScript(3, 30001_60000_60000L));
        is("a peg that is put", -1, busy().runScript(3, 10061_30001_60060L));
        is("a peg that is not put yet", 1, busy().runScript(3, 10061_60060_30001L));
        is("a peg that is pulled", 2, busy().runScript(3, 25200_30001_65200L));
        is("the version behind a tick", -1, busy().runScript(3, 30001_30001_70005L));
        is("what sounds behind ticks", -1, busy().runScript(2, 30016_90032L));
        is("what sounded ahead of them", 1, busy().runScript(2, 30016_90002L));
    }

    /** The turns of a simulation, done by calls. */
    private static int simulated(OrganPegs x, long seed, int m) {
        int notes = x.about(9);
        int lacks = x.about(10);
        long s = seed;
        for (int i = 0; i < m; i++) {
            s = s * 6364136223846793005L + 1442695040888963407L;
            int r = (int) (s >>> 33);
            answer(() -> turn(x, r % 8, r / 8));
        }
        return 10000 * ((x.about(9) - notes) % 10000) + 100 * ((x.about(10) - lacks) % 100) + x.about(0);
    }

    private static int turn(OrganPegs x, int kind, int q) {
        switch (kind) {
            case 0:
            case 1:
            case 2:
                return x.put(q % 6, q / 8 % 24, 1 + q / 256 % 6);
            case 3:
                return x.pull(q % 6, q / 8 % 24);
            case 4:
                return q / 4 % 2 == 0 ? x.set(0, q % 4) : x.set(1, q / 8 % 10);
            case 5:
                return q / 16 % 4 == 0 ? x.cancel(q % 12) : x.set(2, q / 64 % 61);
            default:
                return x.ticks(1 + q % 12);
        }
    }

    private static void simulations() {
        for (long seed : new long[] {0L, 1L, -1L, Long.MIN_VALUE, Long.MAX_VALUE, 1L << 33, 123456789012345L}) {
            for (int m : new int[] {1, 2, 3, 59, 60}) {
                is("simulate(" + seed + ", " + m + ") of a new object", simulated(new OrganPegs(), seed, m),
                    new OrganPegs().simulate(seed, m));
                is("simulate(" + seed + ", " + m + ") of a busy one", simulated(busy(), seed, m), busy().simulate(seed, m));
                is("simulate(" + seed + ", " + m + ") with 12 orders", simulated(full(), seed, m), full().simulate(seed, m));
            }
        }
        for (long seed = 2; seed < 1500; seed++) {
            is("simulate(" + seed + ", 60)", simulated(full(), seed, 60), full().simulate(seed, 60));
        }
        is("told again", busy().simulate(77L, 60), busy().simulate(77L, 60));
    }

    private static void moreThanHundredLacks() {
        int found = 0;
        for (long seed = 0; seed < 200; seed++) {
            OrganPegs due = lacking();
            int lacks = due.about(10);
            int answer = simulated(due, seed, 60);
            found += due.about(10) - lacks > 100 ? 1 : 0;
            is("simulate(" + seed + ", 60)", answer, lacking().simulate(seed, 60));
        }
        is("some turns lack wind more than a hundred times", true, found > 0);
    }

    /** All pipes are open at all bars but 0, wind has been lacking, and there is little of it. */
    private static OrganPegs lacking() {
        OrganPegs x = openButAt0(0, 1, 2, 3, 4, 5);
        x.set(2, 1);
        x.set(0, 1);
        x.ticks(30);
        return x;
    }

    private static void simulateOutOfRange() {
        for (int m : new int[] {0, 61, -1, LOW, HIGH}) {
            refuses("simulate(5, " + m + ")", OrganPegsEdges::busy, ARGUMENT, x -> x.simulate(5L, m));
        }
    }

    // ---- promises 26 and 27

    private static void saves() {
        OrganPegs x = new OrganPegs();
        is("save(0) in a new object", 0, x.save(0));
        x.put(0, 9, 1);
        x.ticks(1);
        is("save(1)", 1, x.save(1));
        x.pull(0, 9);
        x.ticks(1);
        is("restore(0)", 0, x.restore(0));
        is("the time of it", 0, x.about(2));
        is("restore(1)", 1, x.restore(1));
        is("the time of it", 1, x.about(2));
        x.ticks(5);
        is("save(1) in the place of another state", 1, x.save(1));
        x.ticks(5);
        x.restore(1);
        is("the time of the new one", 6, x.about(2));
        x.set(2, 3);
        x.save(0);
        is("undo behind save", 0, x.undo());
        is("what was there ahead", 20, x.setting(2));
        x.restore(0);
        is("the slot is not taken back", 3, x.setting(2));
    }

    private static void noSuchSlot() {
        for (int slot : new int[] {-1, 2, LOW, HIGH}) {
            refuses("save(" + slot + ")", OrganPegsEdges::busy, INDEX, x -> x.save(slot));
            refuses("restore(" + slot + ")", OrganPegsEdges::busy, INDEX, x -> x.restore(slot));
        }
    }

    private static void restores() {
        OrganPegs x = busy();
        x.save(1);
        is("restore", 4, x.restore(1));
        is("undo", STATE, answer(x::undo));
        is("the state", picture(busy()), picture(x));
        x.set(0, 3);
        x.set(1, 9);
        x.set(2, 60);
        x.put(0, 9, 6);
        x.pull(1, 4);
        x.ticks(70);
        x.cancel(x.put(0, 9, 6));
        is("all is as before", false, picture(busy()).equals(picture(x)));
        is("restore again", 4, x.restore(1));
        is("the state again", picture(busy()), picture(x));
        is("what is heard of it", echoesToCome(busy()), echoesToCome(x));
        is("undo then", STATE, answer(x::undo));
        is("the text stays", BUSY_ROLL.length(), x.clearText());
        is("the other slot", 3, x.restore(0));
        is("the state of the other slot", picture(loaded(BUSY_ROLL)), picture(x));
        is("the slots stay", "4 3 4", x.restore(1) + " " + x.restore(0) + " " + x.restore(1));
    }

    private static void emptySlots() {
        refuses("restore(0) in a new object", OrganPegs::new, STATE, x -> x.restore(0));
        refuses("restore(1) in a new object", OrganPegs::new, STATE, x -> x.restore(1));
        refuses("restore(1) when 0 is full", OrganPegsEdges::busy, STATE, x -> x.restore(1));
        OrganPegs x = busy();
        x.load();
        is("restore(0) behind a load", STATE, answer(() -> x.restore(0)));
        is("save behind a load", 3, x.save(1));
        is("restore(1) then", 3, x.restore(1));
        is("restore(0) then", STATE, answer(() -> x.restore(0)));
        OrganPegs y = busyWithoutRoll();
        is("a load that is refused", STATE, answer(y::load));
        is("restore(0) behind it", 3, y.restore(0));
    }
}
