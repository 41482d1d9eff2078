import java.util.Objects;
import java.util.function.IntSupplier;

/**
 * For each promise of the document: ordinary inputs, edges, and wrong inputs. No object gets more than 512 calls; that the
 * calls that are refused, and those that only ask, change nothing is tested by OrganPegsEdges.
 */
public final class OrganPegsPromises {
    private static final String INDEX = "IndexOutOfBoundsException";
    private static final String ARGUMENT = "IllegalArgumentException";
    private static final String STATE = "IllegalStateException";
    private static final int LOW = Integer.MIN_VALUE;
    private static final int HIGH = Integer.MAX_VALUE;
    private static int wrong = 0;

    public static void main(String[] args) {
        promise1NewObject();
        promise2Append();
        promise3ClearText();
        promise4ErrorPosition();
        promise5Load();
        promise5LoadLeavesOut();
        promise6About();
        promise6Echo();
        promise7PegOf();
        promise8OrderOf();
        promise9PipeOf();
        promise10Chord();
        promise11Covered();
        promise12Setting();
        promise13Put();
        promise14Pull();
        promise15Cancel();
        promise16Ticks();
        promise16OrdersInATick();
        promise16ThirtyPegs();
        promise16Wind();
        promise17Set();
        promise18Undo();
        promise18And27WholeState();
        promise19DoneIn();
        promise20SoundsIn();
        promise21LeastSpeed();
        promise22Fullest();
        promise23Room();
        promise24RunScript();
        promise24Groups();
        promise25Simulate();
        promise26And27SaveAndRestore();
        System.out.println(wrong == 0 ? "the promises hold" : wrong + " answers are not as due");
        if (wrong != 0) {
            System.exit(1);
        }
    }

    private static void is(String what, Object due, Object got) {
        if (!Objects.equals(due, got)) {
            wrong++;
            System.out.println(what + " answered " + got + ", due is " + due);
        }
    }

    private static String answer(IntSupplier call) {
        try {
            return Integer.toString(call.getAsInt());
        } catch (RuntimeException e) {
            return e.getClass().getSimpleName();
        }
    }

    private static void refuses(String what, String exception, IntSupplier call) {
        is(what, exception, answer(call));
    }

    private static void asks(String what, int due, IntSupplier call) {
        is(what, Integer.toString(due), answer(call));
    }

    private static String picture(OrganPegs x) {
        StringBuilder all = new StringBuilder("text " + x.errorPosition());
        for (int what = 0; what < 12; what++) {
            all.append(' ').append(x.about(what));
        }
        for (int what = 0; what < 3; what++) {
            all.append(" setting ").append(x.setting(what));
        }
        for (int k = 0; k < x.about(0); k++) {
            all.append(" peg ").append(peg(x, k));
        }
        for (int k = 0; k < x.about(1); k++) {
            all.append(" order ").append(order(x, k));
        }
        for (int p = 0; p < 6; p++) {
            all.append(" pipe ").append(pipe(x, p));
        }
        return all.toString();
    }

    private static String peg(OrganPegs x, int k) {
        return x.pegOf(k, 0) + " " + x.pegOf(k, 1) + " " + x.pegOf(k, 2) + " " + x.pegOf(k, 3);
    }

    private static String order(OrganPegs x, int k) {
        return x.orderOf(k, 0) + " " + x.orderOf(k, 1) + " " + x.orderOf(k, 2) + " " + x.orderOf(k, 3) + " " + x.orderOf(k, 4);
    }

    private static String pipe(OrganPegs x, int p) {
        return x.pipeOf(p, 0) + " " + x.pipeOf(p, 1) + " " + x.pipeOf(p, 2) + " " + x.pipeOf(p, 3) + " " + x.pipeOf(p, 4);
    }

    private static void type(OrganPegs x, String text) {
        for (char c : text.toCharArray()) {
            x.append(c);
        }
    }

    private static OrganPegs loaded(String roll) {
        OrganPegs x = new OrganPegs();
        type(x, roll);
        x.load();
        return x;
    }

    /** How many states are remembered; takes them all back. */
    private static int undoAll(OrganPegs x) {
        int count = 0;
        while (count < 100 && !answer(x::undo).equals(STATE)) {
            count++;
        }
        return count;
    }

    private static void promise1NewObject() {
        OrganPegs x = new OrganPegs();
        is("1: NONE", -1, OrganPegs.NONE);
        is("1: all of a new object", "text 0 0 0 0 0 0 0 0 0 0 0 0 0 setting 1 setting 0 setting 20"
            + " pipe 0 0 0 0 0 pipe 0 0 0 0 0 pipe 0 0 0 0 0 pipe 0 0 0 0 0 pipe 0 0 0 0 0 pipe 0 0 0 0 0", picture(x));
        is("1: text", 0, x.clearText());
        refuses("1: undo", STATE, x::undo);
        refuses("1: restore(0)", STATE, () -> x.restore(0));
        refuses("1: restore(1)", STATE, () -> x.restore(1));
        OrganPegs other = new OrganPegs();
        x.put(0, 1, 1);
        type(x, "O");
        is("1: another object", 0, other.about(1) + other.clearText());
    }

    private static void promise2Append() {
        OrganPegs x = new OrganPegs();
        is("2: append(0)", 1, x.append(0));
        is("2: append(255)", 2, x.append(255));
        for (int c : new int[] {-1, 256, LOW, HIGH}) {
            refuses("2: append(" + c + ")", ARGUMENT, () -> x.append(c));
        }
        is("2: length", 2, x.clearText());
        for (int i = 1; i <= 120; i++) {
            is("2: append " + i, i, x.append('O'));
        }
        refuses("2: a full text", STATE, () -> x.append('O'));
        refuses("2: a full text, and c out of range", ARGUMENT, () -> x.append(256));
        is("2: length of a full text", 120, x.clearText());
        is("2: append behind clearText", 1, x.append('O'));
    }

    private static void promise3ClearText() {
        OrganPegs x = new OrganPegs();
        is("3: empty", 0, x.clearText());
        type(x, "Ot05");
        is("3: of four", 4, x.clearText());
        is("3: again", 0, x.clearText());
        is("3: nothing is left of it", 0, x.errorPosition());
        type(x, "O");
        is("3: a new text", -1, x.errorPosition());
        is("3: no action", STATE, answer(x::undo));
    }

    private static void promise4ErrorPosition() {
        String[] rolls = {"O", "Op0001", "Op5236", "Ol000", "Ol523", "Ov000", "Ov260", "Ov059", "Ot01", "Ot10", "Ot99", "Oc00",
            "Oc09", "Oc10", "Oc11", "Op1102l309v120t45c07", "Ot01t01t01"};
        for (String roll : rolls) {
            type(roll, -1);
        }
        Object[][] others = {
            {"", 0}, {"o", 0}, {"0", 0}, {" O", 0}, {"O ", 1}, {"OO", 1}, {"Ox", 1}, {"OP", 1}, {"O0", 1},
            {"Op", 2}, {"Op0", 3}, {"Op00", 4}, {"Op000", 5}, {"Op6", 2}, {"Op-", 2}, {"Op03", 3}, {"Op024", 4}, {"Op02x", 4},
            {"Op0290", 4}, {"Op0230", 5}, {"Op0007", 5}, {"Op0000", 5}, {"Op000p", 5}, {"Op00011", 6},
            {"Ol", 2}, {"Ol6", 2}, {"Ol53", 3}, {"Ol524", 4}, {"Ol5", 3}, {"Ol52", 4}, {"Ol5230", 5},
            {"Ov", 2}, {"Ov3", 2}, {"Ov07", 3}, {"Ov061", 4}, {"Ov069", 4}, {"Ov0", 3}, {"Ov06", 4}, {"Ov05t", 4},
            {"Ot", 2}, {"Ot0", 3}, {"Ot00", 3}, {"Otx", 2}, {"Ot9", 3}, {"Ot9 ", 3}, {"Ot123", 4}, {"Ot/1", 2}, {"Ot:1", 2},
            {"Oc", 2}, {"Oc2", 2}, {"Oc12", 3}, {"Oc19", 3}, {"Oc1", 3}, {"Oc0", 3}, {"Oc111", 4}, {"Oc0/", 3}, {"Oc0:", 3},
            {"Ot01 t01", 4}, {"Ot01p", 5}, {"O\0", 1}, {"Ot\0", 2}, {"O\u00ff", 1}, {"Ot01Ot01", 4}};
        for (Object[] other : others) {
            type((String) other[0], (Integer) other[1]);
        }
        OrganPegs x = new OrganPegs();
        type(x, "O" + "t01".repeat(39) + "c0");
        is("4: a full text that ends too soon", 120, x.errorPosition());
        OrganPegs y = new OrganPegs();
        type(y, "Op0001p1");
        y.clearText();
        type(y, "Op");
        is("4: nothing behind the end is read", 2, y.errorPosition());
        is("4: the text stays", 2, y.clearText());
    }

    private static void type(String text, int due) {
        OrganPegs x = new OrganPegs();
        type(x, text);
        asks("4: errorPosition of " + text, due, x::errorPosition);
        is("4: load of " + text, due == -1, !answer(x::load).equals(STATE));
    }

    private static void promise5Load() {
        OrganPegs x = new OrganPegs();
        x.put(3, 3, 3);
        x.ticks(7);
        x.save(0);
        x.save(1);
        type(x, "Op0022p1011v103t03l002v203Op");
        refuses("5: not a roll", STATE, x::load);
        is("5: keeps the text that is refused", 28, x.clearText());
        is("5: slots behind a refusal", 1, x.restore(1));
        x.set(1, 2);
        refuses("5: an empty text", STATE, x::load);
        is("5: states behind a refusal", 0, x.undo());
        x.set(1, 2);
        type(x, "Op0022p1091v103v203t03l002");
        is("5: load", 0, x.load());
        is("5: keeps the text", -1, x.errorPosition());
        is("5: pegs", "0 2 2 1/1 9 1 2", peg(x, 0) + "/" + peg(x, 1));
        is("5: order", "0 0 2 0 0", order(x, 0));
        is("5: numbers", "2 1 3 3 0 2 2 1 1 2 0 0", numbers(x));
        is("5: settings", "1 3 3", x.setting(0) + " " + x.setting(1) + " " + x.setting(2));
        refuses("5: no state is remembered", STATE, x::undo);
        refuses("5: slot 0 is empty", STATE, () -> x.restore(0));
        refuses("5: slot 1 is empty", STATE, () -> x.restore(1));
        x.ticks(9);
        is("5: load again", 0, x.load());
        is("5: the same numbers again", "2 1 3 3 0 2 2 1 1 2 0 0", numbers(x));
        is("5: length", 26, x.clearText());
        type(x, "O");
        is("5: an empty roll", 0, x.load());
        OrganPegs fresh = new OrganPegs();
        type(fresh, "O");
        is("5: all as in a new object", picture(fresh), picture(x));
    }

    private static void promise5LoadLeavesOut() {
        is("5: c00 without an order", 1, leftOut("Oc00"));
        is("5: v beyond a range", 3, leftOut("Ov004v110v260v003v109v160"));
        is("5: thirteen orders", 2, leftOut("O" + "p0011".repeat(12) + "p0021l000"));
        is("5: a void order is not left out", 0, leftOut("Ol000t01"));
        OrganPegs x = loaded("O" + "l000".repeat(13) + "c11c11t01c00p0021");
        is("5: goes on behind what is left out", "1 0 2 1 0", order(x, 0));
        is("5: voids", 11, x.about(11));
    }

    private static int leftOut(String roll) {
        OrganPegs x = new OrganPegs();
        type(x, roll);
        return x.load();
    }

    private static String numbers(OrganPegs x) {
        StringBuilder all = new StringBuilder();
        for (int what = 0; what < 12; what++) {
            all.append(what == 0 ? "" : " ").append(x.about(what));
        }
        return all.toString();
    }

    private static void promise6About() {
        OrganPegs x = new OrganPegs();
        x.put(0, 2, 2);
        x.put(1, 3, 1);
        x.pull(4, 9);
        is("6: orders wait", "0 3 0 0 0 0 0 0 0 0 0 0", numbers(x));
        x.ticks(1);
        is("6: tick 1", "2 0 1 1 0 2 2 0 0 0 0 1", numbers(x));
        x.ticks(1);
        is("6: tick 2", "2 0 2 2 0 2 3 1 1 1 0 1", numbers(x));
        x.set(2, 1);
        x.ticks(1);
        is("6: tick 3, the bellows too small for two pipes", "2 0 3 3 0 2 0 1 1 2 1 1", numbers(x));
        x.ticks(1);
        is("6: tick 4", "2 0 4 4 0 2 1 0 0 2 1 1", numbers(x));
        x.ticks(19);
        is("6: the last bar", "2 0 23 23 0 2 1 0 0 2 1 1", numbers(x));
        x.ticks(1);
        is("6: a turn", "2 0 24 0 1 2 1 0 0 2 1 1", numbers(x));
        x.ticks(27);
        is("6: another turn", "2 0 51 3 2 2 0 1 1 6 3 1", numbers(x));
        for (int what : new int[] {-1, 12, LOW, HIGH}) {
            refuses("6: about(" + what + ")", ARGUMENT, () -> x.about(what));
        }
        asks("6: changes nothing", 51, () -> x.about(2));
    }

    private static void promise6Echo() {
        OrganPegs x = loaded("Op0011p1021p2031t01v109");
        x.set(0, 1);
        x.ticks(1);
        is("6: sounds at the bar 2", "2 2", x.about(7) + " " + x.about(8));
        x.ticks(1);
        is("6: sounds at the bar 3", "4 4", x.about(7) + " " + x.about(8));
        x.set(1, 1);
        is("6: the echo set, but not heard before the tick", "4 4", x.about(7) + " " + x.about(8));
        x.ticks(1);
        is("6: echo of one tick ago", "0 4", x.about(7) + " " + x.about(8));
        x.set(1, 3);
        x.ticks(1);
        is("6: echo of three ticks ago", "0 2", x.about(7) + " " + x.about(8));
        x.ticks(1);
        is("6: echo of the next one", "0 4", x.about(7) + " " + x.about(8));
        x.set(1, 9);
        x.ticks(4);
        is("6: nothing nine ticks ago", "0 0", x.about(7) + " " + x.about(8));
        x.ticks(1);
        is("6: echo of nine ticks ago", "0 2", x.about(7) + " " + x.about(8));
        x.ticks(1);
        is("6: the last of them", "0 4", x.about(7) + " " + x.about(8));
        x.ticks(1);
        is("6: an echo has no echo", "0 0", x.about(7) + " " + x.about(8));
        OrganPegs y = loaded("Op0022p1041v102t01");
        y.ticks(1);
        y.ticks(1);
        is("6: none sounded ahead of the first tick", "1 1", y.about(7) + " " + y.about(8));
        y.ticks(1);
        is("6: sound and echo", "2 3", y.about(7) + " " + y.about(8));
        is("6: an echo is no note", 3, y.about(9));
    }

    private static void promise7PegOf() {
        OrganPegs x = loaded("Op3226p0051p0061l005t01p4101t03");
        is("7: three pegs", 3, x.about(0));
        is("7: the first one waited for its turn", "0 6 1 2", peg(x, 0));
        is("7: the second", "4 10 1 4", peg(x, 1));
        is("7: the third", "3 22 6 5", peg(x, 2));
        for (int k : new int[] {-1, 3, 29, 30, LOW, HIGH}) {
            refuses("7: pegOf(" + k + ", 0)", INDEX, () -> x.pegOf(k, 0));
            refuses("7: pegOf(" + k + ", 9)", INDEX, () -> x.pegOf(k, 9));
        }
        for (int what : new int[] {-1, 4, LOW, HIGH}) {
            refuses("7: pegOf(2, " + what + ")", ARGUMENT, () -> x.pegOf(2, what));
        }
        asks("7: changes nothing", 22, () -> x.pegOf(2, 1));
    }

    private static void promise8OrderOf() {
        OrganPegs x = new OrganPegs();
        x.put(5, 1, 6);
        x.pull(4, 23);
        x.put(2, 23, 4);
        is("8: to put", "1 5 1 6 0", order(x, 0));
        is("8: to pull", "0 4 23 0 0", order(x, 1));
        x.ticks(1);
        is("8: the first has waited", "1 5 1 6 1", order(x, 0));
        is("8: so has the one behind the void one", "1 2 23 4 1", order(x, 1));
        x.put(0, 2, 2);
        x.ticks(2);
        is("8: the first goes on waiting", "1 5 1 6 3", order(x, 0));
        is("8: the second was done, the third waited for less", "1 0 2 2 2", order(x, 1));
        x.cancel(0);
        is("8: numbers become less", "1 0 2 2 2", order(x, 0));
        for (int k : new int[] {-1, 1, 11, 12, LOW, HIGH}) {
            refuses("8: orderOf(" + k + ", 0)", INDEX, () -> x.orderOf(k, 0));
            refuses("8: orderOf(" + k + ", -1)", INDEX, () -> x.orderOf(k, -1));
        }
        for (int what : new int[] {-1, 5, LOW, HIGH}) {
            refuses("8: orderOf(0, " + what + ")", ARGUMENT, () -> x.orderOf(0, what));
        }
        asks("8: changes nothing", 2, () -> x.orderOf(0, 2));
    }

    private static void promise9PipeOf() {
        OrganPegs x = loaded("Op0022p0053p1021p5214t02");
        is("9: pipe 0", "2 5 1 1 0", pipe(x, 0));
        is("9: pipe 1", "1 1 1 1 0", pipe(x, 1));
        is("9: pipe 2", "0 0 0 0 0", pipe(x, 2));
        is("9: pipe 5", "1 4 0 0 0", pipe(x, 5));
        x.set(0, 0);
        x.set(2, 1);
        x.ticks(4);
        is("9: pipe 0 took the wind, and lacks it then", "2 5 1 2 3", pipe(x, 0));
        is("9: pipe 1 comes behind it", "1 1 1 1 4", pipe(x, 1));
        for (int p : new int[] {-1, 6, LOW, HIGH}) {
            refuses("9: pipeOf(" + p + ", 0)", INDEX, () -> x.pipeOf(p, 0));
            refuses("9: pipeOf(" + p + ", 5)", INDEX, () -> x.pipeOf(p, 5));
        }
        for (int what : new int[] {-1, 5, LOW, HIGH}) {
            refuses("9: pipeOf(5, " + what + ")", ARGUMENT, () -> x.pipeOf(5, what));
        }
        asks("9: changes nothing", 5, () -> x.pipeOf(0, 1));
    }

    private static void promise10Chord() {
        OrganPegs x = loaded("Op0223p5231p3221p2021t01");
        is("10: bar 22", 1 + 8, x.chord(22));
        is("10: bar 23", 1 + 32, x.chord(23));
        is("10: bar 0, behind 23", 1, x.chord(0));
        is("10: bar 1", 0, x.chord(1));
        is("10: bar 2", 4, x.chord(2));
        for (int b : new int[] {-1, 24, LOW, HIGH}) {
            refuses("10: chord(" + b + ")", INDEX, () -> x.chord(b));
        }
        asks("10: changes nothing", 33, () -> x.chord(23));
    }

    private static void promise11Covered() {
        OrganPegs x = loaded("Op0223p5231p3206p3021t03");
        for (int way = 0; way < 2; way++) {
            int w = way;
            asks("11: covered(" + w + ")", 11, () -> x.covered(w));
        }
        x.pull(3, 20);
        x.ticks(1);
        is("11: behind a pull, bar by bar", 5, x.covered(0));
        is("11: behind a pull, by lengths", 5, x.covered(1));
        for (int way : new int[] {-1, 2, LOW, HIGH}) {
            refuses("11: covered(" + way + ")", ARGUMENT, () -> x.covered(way));
        }
    }

    private static void promise12Setting() {
        OrganPegs x = loaded("Ov002v107v233");
        is("12: speed", 2, x.setting(0));
        is("12: echo", 7, x.setting(1));
        asks("12: bellows", 33, () -> x.setting(2));
        for (int what : new int[] {-1, 3, LOW, HIGH}) {
            refuses("12: setting(" + what + ")", ARGUMENT, () -> x.setting(what));
        }
    }

    private static void promise13Put() {
        OrganPegs x = new OrganPegs();
        is("13: the first order", 0, x.put(0, 0, 1));
        is("13: the second order", 1, x.put(5, 23, 6));
        is("13: it waits", "1 5 23 6 0", order(x, 1));
        is("13: it is not looked at", "0 2 0 0 0 0 0 0 0 0 0 0", numbers(x));
        int[][] places = {{-1, 0}, {6, 0}, {0, -1}, {0, 24}, {LOW, HIGH}, {HIGH, LOW}};
        for (int[] place : places) {
            refuses("13: put(" + place[0] + ", " + place[1] + ", 1)", INDEX, () -> x.put(place[0], place[1], 1));
            refuses("13: so also with length 0", INDEX, () -> x.put(place[0], place[1], 0));
        }
        for (int length : new int[] {0, 7, -1, LOW, HIGH}) {
            refuses("13: put(0, 0, " + length + ")", ARGUMENT, () -> x.put(0, 0, length));
        }
        is("13: no refused call is an action", 2, undoAll(x));
        for (int i = 0; i < 12; i++) {
            is("13: order " + i, i, x.put(2, 3, 4));
        }
        refuses("13: 12 orders wait", STATE, () -> x.put(2, 3, 4));
        refuses("13: and length out of range", ARGUMENT, () -> x.put(2, 3, 7));
        refuses("13: and no such bar", INDEX, () -> x.put(2, 24, 7));
        is("13: actions", 12, undoAll(x));
    }

    private static void promise14Pull() {
        OrganPegs x = new OrganPegs();
        is("14: the first order", 0, x.pull(0, 0));
        is("14: the second order", 1, x.pull(5, 23));
        is("14: it waits", "0 5 23 0 0", order(x, 1));
        is("14: it is not looked at", "0 2 0 0 0 0 0 0 0 0 0 0", numbers(x));
        int[][] places = {{-1, 0}, {6, 0}, {0, -1}, {0, 24}, {LOW, HIGH}, {HIGH, LOW}};
        for (int[] place : places) {
            refuses("14: pull(" + place[0] + ", " + place[1] + ")", INDEX, () -> x.pull(place[0], place[1]));
        }
        is("14: no refused call is an action", 2, undoAll(x));
        for (int i = 0; i < 12; i++) {
            is("14: order " + i, i, x.pull(2, 3));
        }
        refuses("14: 12 orders wait", STATE, () -> x.pull(2, 3));
        refuses("14: and no such bar", INDEX, () -> x.pull(2, 24));
        is("14: actions", 12, undoAll(x));
    }

    private static void promise15Cancel() {
        OrganPegs x = new OrganPegs();
        x.put(0, 5, 1);
        x.put(1, 6, 1);
        x.put(2, 7, 1);
        is("15: cancel(1)", 2, x.cancel(1));
        is("15: the ones that are left", "1 0 5 1 0/1 2 7 1 0", order(x, 0) + "/" + order(x, 1));
        is("15: neither done nor void", "0 2 0 0 0 0 0 0 0 0 0 0", numbers(x));
        for (int k : new int[] {-1, 2, 12, LOW, HIGH}) {
            refuses("15: cancel(" + k + ")", INDEX, () -> x.cancel(k));
        }
        is("15: cancel(0)", 1, x.cancel(0));
        is("15: cancel(0) again", 0, x.cancel(0));
        refuses("15: no order waits", INDEX, () -> x.cancel(0));
        is("15: undo of a cancel", 5, x.undo());
        is("15: the order waits again", "1 2 7 1 0", order(x, 0));
        is("15: actions", 5, undoAll(x));
    }

    private static void promise16Ticks() {
        OrganPegs x = loaded("Op0026p1121p2221t01");
        is("16: one note", 1, x.ticks(1));
        is("16: notes of one pipe", 6, x.ticks(11));
        is("16: 99 ticks", 32, x.ticks(99));
        is("16: the bar and the turns", "112 16 4", x.about(2) + " " + x.about(3) + " " + x.about(4));
        for (int n : new int[] {0, -1, 100, LOW, HIGH}) {
            refuses("16: ticks(" + n + ")", ARGUMENT, () -> x.ticks(n));
        }
        is("16: each call is one action", 3, undoAll(x));
        OrganPegs y = loaded("Ov003t08");
        is("16: the speed 3 comes beyond the bar 23", "0 1", y.about(3) + " " + y.about(4));
        y.set(0, 2);
        y.ticks(11);
        is("16: the speed 2", "22 1", y.about(3) + " " + y.about(4));
        y.set(0, 3);
        y.ticks(1);
        is("16: from the bar 22 to the bar 1", "1 2", y.about(3) + " " + y.about(4));
        y.set(0, 0);
        y.ticks(50);
        is("16: the speed 0", "70 1 2", y.about(2) + " " + y.about(3) + " " + y.about(4));
    }

    private static void promise16OrdersInATick() {
        OrganPegs x = new OrganPegs();
        x.put(0, 4, 3);
        x.put(0, 6, 1);
        x.put(1, 1, 2);
        x.pull(0, 5);
        x.pull(0, 4);
        x.put(0, 6, 1);
        x.put(2, 22, 4);
        x.ticks(1);
        is("16: done, void, waiting, void, done, done, waiting", "1 2 1 1 0 3 2 0 0 0 0 2", numbers(x));
        is("16: the peg that is left", "0 6 1 3", peg(x, 0));
        is("16: the orders that are left", "1 1 1 2 1/1 2 22 4 1", order(x, 0) + "/" + order(x, 1));
        x.ticks(1);
        is("16: a peg that ends at 1 does not wait at 2", "2 22 4 4", peg(x, 1));
        x.ticks(4);
        x.pull(0, 6);
        x.put(0, 10, 1);
        x.set(0, 0);
        x.ticks(3);
        is("16: orders wait while their pipe is open", "0 0 6 0 3/1 0 10 1 3", order(x, 0) + "/" + order(x, 1));
        x.set(0, 1);
        x.ticks(1);
        is("16: and are done when it is silent", "0 0", x.about(1) + " " + x.pipeOf(0, 2));
        is("16: the pegs then, by age", "2 22 4 4/1 1 2 5/0 10 1 7", peg(x, 0) + "/" + peg(x, 1) + "/" + peg(x, 2));
        OrganPegs y = loaded("Op3226t04");
        y.put(3, 3, 1);
        y.put(3, 9, 1);
        y.ticks(1);
        is("16: the bar 3 is covered from behind 23", "2 0 1", y.about(0) + " " + y.about(1) + " " + y.about(11));
        is("16: the bar 9 is not", "3 9 1 2", peg(y, 1));
        y.put(3, 2, 1);
        y.put(3, 21, 2);
        y.put(3, 21, 1);
        y.ticks(1);
        is("16: void if any bar is covered", "3 0 3", y.about(0) + " " + y.about(1) + " " + y.about(11));
    }

    private static void promise16ThirtyPegs() {
        OrganPegs x = new OrganPegs();
        for (int k = 0; k < 30; k++) {
            x.put(k % 6, 5 + k / 6, 1);
            x.set(0, 0);
            x.ticks(1);
        }
        is("16: 30 pegs", "30 30 0", x.about(0) + " " + x.about(5) + " " + x.about(11));
        is("16: the youngest", "5 9 1 30", peg(x, 29));
        x.put(0, 20, 1);
        x.ticks(1);
        is("16: one more is void", "30 30 1", x.about(0) + " " + x.about(5) + " " + x.about(11));
        x.put(0, 0, 1);
        x.pull(1, 5);
        x.put(1, 20, 1);
        x.ticks(1);
        is("16: but it waits if it covers the bar of the comb", "1 0 0 1 1", order(x, 0));
        is("16: a place that is free again", "30 32 1", x.about(0) + " " + x.about(5) + " " + x.about(11));
        is("16: the numbers become less", "2 5 1 3/1 20 1 32", peg(x, 1) + "/" + peg(x, 29));
        x.pull(5, 9);
        x.ticks(1);
        refuses("16: the thirtieth is gone", INDEX, () -> x.pegOf(29, 0));
    }

    private static void promise16Wind() {
        OrganPegs x = new OrganPegs();
        x.ticks(9);
        is("16: twice the speed a tick", 18, x.about(6));
        x.ticks(1);
        is("16: the bellows are full", 20, x.about(6));
        x.ticks(1);
        is("16: and stay so", 20, x.about(6));
        x.set(2, 60);
        x.set(0, 3);
        x.ticks(6);
        is("16: six a tick", 56, x.about(6));
        x.ticks(1);
        is("16: at most 60", 60, x.about(6));
        x.set(2, 7);
        is("16: smaller bellows, ahead of the tick", 60, x.about(6));
        x.set(0, 0);
        x.ticks(1);
        is("16: smaller bellows", 7, x.about(6));
        x.set(2, 0);
        x.ticks(1);
        is("16: no bellows", 0, x.about(6));
        OrganPegs y = loaded("O" + "p0021p1021p2021p3021p4021p5021" + "t01");
        is("16: four notes for four of wind", 4, y.ticks(1));
        is("16: by the numbers of the pipes", "15 2 0", y.about(7) + " " + y.about(10) + " " + y.about(6));
        is("16: the pipe 3 sounded", "1 1 1 1 0", pipe(y, 3));
        is("16: the pipe 4 did not", "1 1 1 0 1", pipe(y, 4));
    }

    private static void promise17Set() {
        OrganPegs x = new OrganPegs();
        is("17: set(0, 3)", 1, x.set(0, 3));
        is("17: set(0, 0)", 3, x.set(0, 0));
        is("17: set(1, 9)", 0, x.set(1, 9));
        is("17: set(1, 0)", 9, x.set(1, 0));
        is("17: set(2, 60)", 20, x.set(2, 60));
        is("17: set(2, 0)", 60, x.set(2, 0));
        is("17: the same value", 0, x.set(2, 0));
        is("17: settings", "0 0 0", x.setting(0) + " " + x.setting(1) + " " + x.setting(2));
        int[][] others = {{0, 4}, {1, 10}, {2, 61}, {0, -1}, {1, -1}, {2, -1}, {-1, 0}, {3, 0}, {LOW, 0}, {HIGH, 0}, {0, LOW},
            {2, HIGH}};
        for (int[] other : others) {
            refuses("17: set(" + other[0] + ", " + other[1] + ")", ARGUMENT, () -> x.set(other[0], other[1]));
        }
        is("17: also an action if nothing becomes different", 7, undoAll(x));
        is("17: settings taken back", "1 0 20", x.setting(0) + " " + x.setting(1) + " " + x.setting(2));
    }

    private static void promise18Undo() {
        OrganPegs x = loaded("Op0022p1031v103t01p2061");
        String first = picture(x);
        x.ticks(4);
        String second = picture(x);
        x.pull(0, 2);
        x.cancel(0);
        String third = picture(x);
        x.set(2, 5);
        x.ticks(30);
        is("18: undo of ticks", 4, x.undo());
        is("18: undo of set", 3, x.undo());
        is("18: behind cancel", third, picture(x));
        is("18: undo of cancel", 2, x.undo());
        is("18: undo of pull", 1, x.undo());
        is("18: behind the first ticks", second, picture(x));
        is("18: undo of the first ticks", 0, x.undo());
        is("18: behind load", first, picture(x));
        refuses("18: none is remembered", STATE, x::undo);
        for (int v = 0; v <= 16; v++) {
            x.set(2, 40 + v);
        }
        for (int left = 13; left >= 0; left--) {
            is("18: states that are left", left, x.undo());
        }
        refuses("18: the oldest are forgotten", STATE, x::undo);
        is("18: the oldest that is remembered", 42, x.setting(2));
        type(x, "t");
        x.set(2, 1);
        x.undo();
        is("18: the text is no part of the state", 24, x.errorPosition());
        x.set(2, 9);
        x.save(0);
        x.undo();
        x.restore(0);
        is("18: nor is a save slot", 9, x.setting(2));
    }

    /** Everything that a state has becomes different, and comes back. */
    private static void promise18And27WholeState() {
        OrganPegs x = loaded("Op0022p1101l500t02v103v207p4022");
        String before = picture(x);
        int sounds = x.simulate(9, 60);
        x.save(0);
        x.pull(5, 1);
        x.pull(0, 2);
        x.set(0, 2);
        x.set(1, 5);
        x.set(2, 0);
        x.ticks(40);
        is("18: all different", false, before.equals(picture(x)));
        for (int left = 5; left >= 0; left--) {
            x.undo();
        }
        is("18: the whole state comes back", before, picture(x));
        is("18: with all that is to come", sounds, x.simulate(9, 60));
        is("18: with what sounded", "1 1", x.about(7) + " " + x.about(8));
        x.ticks(3);
        is("18: which is heard as an echo", 1, x.about(8));
        x.set(2, 0);
        x.pull(5, 1);
        x.ticks(55);
        x.restore(0);
        is("27: the whole state comes back", before, picture(x));
        x.ticks(3);
        is("27: with what sounded", 1, x.about(8));
    }

    private static void promise19DoneIn() {
        OrganPegs x = new OrganPegs();
        x.put(0, 1, 3);
        x.pull(1, 1);
        x.put(2, 23, 6);
        x.put(0, 9, 1);
        asks("19: waits till the comb is behind it", 4, () -> x.doneIn(0));
        asks("19: void at once", 1, () -> x.doneIn(1));
        asks("19: behind two others that go", 5, () -> x.doneIn(2));
        asks("19: the youngest", 1, () -> x.doneIn(3));
        for (int k : new int[] {-1, 4, 12, LOW, HIGH}) {
            refuses("19: doneIn(" + k + ")", INDEX, () -> x.doneIn(k));
        }
        x.set(0, 0);
        asks("19: the comb stands beside it", 1, () -> x.doneIn(0));
        x.put(4, 0, 1);
        asks("19: the comb stands in it", -1, () -> x.doneIn(4));
        asks("19: the state stays", 0, () -> x.about(2));
        OrganPegs y = loaded("Op0016p0071p0086p0146p0204t01t06v000");
        y.pull(0, 1);
        asks("19: the pipe is open all the time", -1, () -> y.doneIn(0));
        y.set(0, 1);
        asks("19: it is silent at a bar", 17, () -> y.doneIn(0));
        x.cancel(1);
        x.set(0, 3);
        asks("19: with the speed 3", 2, () -> x.doneIn(0));
    }

    private static void promise20SoundsIn() {
        OrganPegs x = loaded("Op0022p1031p5236t01");
        asks("20: the next bar", 1, () -> x.soundsIn(0));
        asks("20: the bar behind it", 2, () -> x.soundsIn(1));
        asks("20: a pipe without pegs", -1, () -> x.soundsIn(2));
        asks("20: put when the comb is behind it", 22, () -> x.soundsIn(5));
        for (int p : new int[] {-1, 6, LOW, HIGH}) {
            refuses("20: soundsIn(" + p + ")", INDEX, () -> x.soundsIn(p));
        }
        x.ticks(1);
        asks("20: it sounds now, and next", 1, () -> x.soundsIn(0));
        x.set(2, 1);
        asks("20: the wind is used by a lower pipe", -1, () -> x.soundsIn(1));
        x.set(0, 0);
        asks("20: the comb stands at an open bar", 1, () -> x.soundsIn(0));
        x.ticks(1);
        asks("20: no wind is left", -1, () -> x.soundsIn(0));
        OrganPegs y = loaded("Op0021t23v000");
        is("20: the bar of the comb", 23, y.about(3));
        asks("20: the comb stands", -1, () -> y.soundsIn(0));
        y.set(0, 1);
        asks("20: behind a turn", 3, () -> y.soundsIn(0));
    }

    private static void promise21LeastSpeed() {
        OrganPegs x = loaded("Op0016p1016p2016p3016t07v200");
        asks("21: nothing is open where the comb stands", 0, () -> x.leastSpeed(99));
        x.set(0, 3);
        x.ticks(6);
        is("21: the bar", 1, x.about(3));
        asks("21: no wind with any speed", -1, () -> x.leastSpeed(1));
        x.set(2, 60);
        int lacks = x.about(10);
        asks("21: speed 2 makes four in one tick", 2, () -> x.leastSpeed(1));
        asks("21: speed 2 makes eight, and needs eight", 2, () -> x.leastSpeed(2));
        asks("21: for long", 2, () -> x.leastSpeed(99));
        is("21: the lacks before do not count", lacks, x.about(10));
        is("21: the speed stays", 3, x.setting(0));
        x.set(2, 3);
        asks("21: the bellows are too small for a chord", -1, () -> x.leastSpeed(99));
        for (int n : new int[] {0, -1, 100, LOW, HIGH}) {
            refuses("21: leastSpeed(" + n + ")", ARGUMENT, () -> x.leastSpeed(n));
        }
        OrganPegs y = loaded("Op0022p1022t01");
        asks("21: two pipes, one tick, the comb stands beside", 0, () -> y.leastSpeed(1));
        y.ticks(1);
        y.set(2, 2);
        asks("21: wind for one more tick", 0, () -> y.leastSpeed(1));
        asks("21: the speed 1 leaves the chord behind", 1, () -> y.leastSpeed(2));
        OrganPegs z = loaded("Op0016p1016p2016p3016p4016p5016t07v200v003t06v260");
        is("21: six pipes are open", 63, z.chord(z.about(3)));
        asks("21: the speed 3 makes wind for six", 3, () -> z.leastSpeed(99));
    }

    private static void promise22Fullest() {
        OrganPegs x = new OrganPegs();
        asks("22: without pegs", 0, x::fullest);
        OrganPegs z = loaded("Op0011t02");
        asks("22: the bar 1", 1, z::fullest);
        OrganPegs y = loaded("Op0223p1231p2061p3061t01");
        asks("22: of several the lowest", 6, y::fullest);
        y.put(4, 23, 2);
        y.ticks(1);
        asks("22: the last bar", 23, y::fullest);
        y.put(5, 21, 6);
        y.put(2, 0, 1);
        y.put(3, 0, 1);
        y.ticks(3);
        asks("22: the bar 0, behind 23", 0, y::fullest);
    }

    private static void promise23Room() {
        OrganPegs x = loaded("Op0226p0062p0111t01t04");
        asks("23: behind the one that covers 0 to 3", 4, () -> x.room(0, 1));
        asks("23: between two", 4, () -> x.room(0, 2));
        asks("23: between the next two", 8, () -> x.room(0, 3));
        asks("23: behind all", 12, () -> x.room(0, 4));
        asks("23: the longest", 12, () -> x.room(0, 6));
        asks("23: another pipe", 0, () -> x.room(1, 6));
        for (int p : new int[] {-1, 6, LOW, HIGH}) {
            refuses("23: room(" + p + ", 1)", INDEX, () -> x.room(p, 1));
            refuses("23: room(" + p + ", 0)", INDEX, () -> x.room(p, 0));
        }
        for (int length : new int[] {0, 7, -1, LOW, HIGH}) {
            refuses("23: room(5, " + length + ")", ARGUMENT, () -> x.room(5, length));
        }
        OrganPegs y = loaded("Op2026p2086p2146p2201t01t07");
        asks("23: over the end of the barrel", 21, () -> y.room(2, 5));
        asks("23: too long for any place", -1, () -> y.room(2, 6));
        asks("23: a place of one", 0, () -> y.room(2, 2));
        asks("23: the longest that begins at 0", 21, () -> y.room(2, 3));
        y.put(2, 21, 5);
        asks("23: room does not look at orders", 21, () -> y.room(2, 5));
    }

    private static void promise24RunScript() {
        OrganPegs x = loaded("Op0023p1101t01t01");
        is("24: the state", "2 0 2 2 0 2 3 1 1 1 0 0", numbers(x));
        script(x, -1, 1, 10036);
        script(x, -1, 3, 12236_20020_70002L);
        script(x, 2, 3, 12236_20020_70003L);
        script(x, -1, 3, 20020_30003_70003L);
        script(x, -1, 3, 20020_60030_30001L);
        script(x, 2, 3, 20020_30003_60030L);
        script(x, 0, 3, 60010_60010_60010L);
        script(x, 0, 3, 30001L);
        script(x, 1, 2, 60020_00000L);
        script(x, -1, 2, 30001_90001L);
        script(x, 1, 2, 30003_90001L);
        script(x, -1, 2, 12236_80001L);
        script(x, 1, 2, 12236_80000L);
        script(x, -1, 3, 12236_50000_80000L);
        script(x, 2, 3, 12236_50000_50000L);
        script(x, -1, 3, 40002_30001_60040L);
        script(x, 0, 3, 0L);
        script(x, 0, 1, 0L);
        script(x, 0, 1, 99999L);
        script(x, 0, 3, 999999999999999L);
        for (int n : new int[] {0, -1, 4, LOW, HIGH}) {
            refuses("24: runScript(" + n + ", 30001)", ARGUMENT, () -> x.runScript(n, 30001));
        }
        long[][] others = {{1, -1}, {1, 100000}, {2, 10000000000L}, {3, 1000000000000000L}, {3, Long.MAX_VALUE}, {1, Long.MIN_VALUE},
            {3, Long.MIN_VALUE}, {3, -30001}, {1, 1L << 32}};
        for (long[] other : others) {
            refuses("24: runScript(" + other[0] + ", " + other[1] + ")", ARGUMENT, () -> x.runScript((int) other[0], other[1]));
        }
        is("24: no action", 0, undoAll(x));
    }

    private static void script(OrganPegs x, int due, int n, long script) {
        asks("24: runScript(" + n + ", " + script + ")", due, () -> x.runScript(n, script));
    }

    /** Each kind of group, with what it does and with each digit that makes it fail. */
    private static void promise24Groups() {
        OrganPegs x = loaded("Op0023p1101t01t01p5153l510");
        is("24: the state for groups", "2 2 2 2 0 2 3 1 1 1 0 0", numbers(x));
        long[] succeed = {10001, 15236, 20000, 25230, 30001, 30099, 40000, 40003, 41009, 42060, 50000, 50010, 60020, 60040, 61100,
            70000, 70002, 80002, 80009, 90001};
        for (long group : succeed) {
            script(x, -1, 1, group);
        }
        long[] fail = {16001, 10241, 10000, 10007, 10009, 26000, 20240, 20001, 20009, 30000, 31001, 30101, 39901, 40004, 41010, 42061,
            43000, 40100, 41900, 50020, 50120, 50990, 51000, 50001, 60010, 60050, 61090, 66020, 69020, 60240, 60990, 60021, 60029,
            70003, 71000, 70100, 80001, 80000, 81002, 80102, 80012, 90000, 90002, 90099, 91001, 90101, 1, 9999, 10};
        for (long group : fail) {
            script(x, 0, 1, group);
        }
        OrganPegs y = loaded("O" + "l000".repeat(12));
        script(y, 0, 1, 10001);
        script(y, 0, 1, 20000);
        script(y, -1, 3, 50110_50000_20000L);
        script(y, -1, 3, 50110_10051_50110L);
        script(y, 0, 1, 80009);
        script(y, -1, 2, 30001_80000L);
    }

    private static void promise25Simulate() {
        String roll = "Op0022p1101p2115v103t05p3061";
        OrganPegs x = loaded(roll);
        for (int m : new int[] {0, -1, 61, LOW, HIGH}) {
            refuses("25: simulate(5, " + m + ")", ARGUMENT, () -> x.simulate(5L, m));
        }
        long[] seeds = {0, 1, -1, 5, 77, Long.MIN_VALUE, Long.MAX_VALUE, 123456789012345L};
        for (long seed : seeds) {
            for (int m : new int[] {1, 2, 10, 59, 60}) {
                asks("25: simulate(" + seed + ", " + m + ")", simulated(loaded(roll), seed, m), () -> x.simulate(seed, m));
            }
        }
        is("25: no action", 0, undoAll(x));
    }

    /** The turns, done by calls of the face. */
    private static int simulated(OrganPegs x, long seed, int m) {
        int notes = x.about(9);
        int lacks = x.about(10);
        long s = seed;
        for (int i = 0; i < m; i++) {
            s = s * 6364136223846793005L + 1442695040888963407L;
            int r = (int) (s >>> 33);
            answer(() -> turn(x, r % 8, r / 8));
        }
        return 10000 * ((x.about(9) - notes) % 10000) + 100 * ((x.about(10) - lacks) % 100) + x.about(0);
    }

    private static int turn(OrganPegs x, int kind, int q) {
        switch (kind) {
            case 0:
            case 1:
            case 2:
                return x.put(q % 6, q / 8 % 24, 1 + q / 256 % 6);
            case 3:
                return x.pull(q % 6, q / 8 % 24);
            case 4:
                return q / 4 % 2 == 0 ? x.set(0, q % 4) : x.set(1, q / 8 % 10);
            case 5:
                return q / 16 % 4 == 0 ? x.cancel(q % 12) : x.set(2, q / 64 % 61);
            default:
                return x.ticks(1 + q % 12);
        }
    }

    private static void promise26And27SaveAndRestore() {
        OrganPegs x = loaded("Op0022p1101t02");
        String first = picture(x);
        is("26: save(0)", 2, x.save(0));
        is("26: no action", STATE, answer(x::undo));
        x.put(2, 9, 1);
        x.ticks(3);
        String second = picture(x);
        is("26: save(1)", 3, x.save(1));
        is("26: keeps the remembered states", 1, x.undo());
        for (int slot : new int[] {-1, 2, LOW, HIGH}) {
            refuses("26: save(" + slot + ")", INDEX, () -> x.save(slot));
            refuses("27: restore(" + slot + ")", INDEX, () -> x.restore(slot));
        }
        is("27: a refusal keeps the remembered states", 0, x.undo());
        x.set(2, 3);
        is("27: restore(1)", 3, x.restore(1));
        is("27: the state of the slot 1", second, picture(x));
        refuses("27: forgets the remembered states", STATE, x::undo);
        x.ticks(50);
        x.pull(0, 2);
        is("27: restore(0)", 2, x.restore(0));
        is("27: the state of the slot 0", first, picture(x));
        x.ticks(9);
        is("27: again", 2, x.restore(0));
        is("27: the slot keeps it", first, picture(x));
        x.ticks(9);
        x.save(0);
        is("26: a slot takes a new state", 2, x.restore(0));
        is("26: the new state", 11, x.about(2));
        type(x, "t");
        x.restore(1);
        is("27: the text is no part of the state", 15, x.errorPosition());
        OrganPegs y = new OrganPegs();
        y.save(1);
        y.set(0, 2);
        refuses("27: nothing has been saved in it", STATE, () -> y.restore(0));
        is("27: a refusal keeps the states", 0, y.undo());
        type(y, "O");
        y.load();
        refuses("27: nothing since the load", STATE, () -> y.restore(1));
        is("26: a slot behind a load", 0, y.save(1));
        is("27: a slot behind a load", 0, y.restore(1));
    }
}
