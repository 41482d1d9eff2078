/** A barrel organ whose pegs are rewritten while it plays. ../shared/DOC.md says what each call answers. */
public final class OrganPegs {
    public static final int NONE = -1;

    private static final int BARS = 24;
    private static final int PIPES = 6;
    private static final int PEGS_MOST = 30;
    private static final int LENGTH_MOST = 6;
    private static final int ORDERS_MOST = 12;
    private static final int TICKS_MOST = 99;
    private static final int LOOK_AHEAD = 100;
    private static final int TEXT_MOST = 120;
    private static final int CHARACTER_MOST = 255;
    private static final int STATES_MOST = 14;
    private static final int SLOTS = 2;
    private static final int COMMANDS_MOST = 3;
    private static final int GROUP = 100000;
    private static final int TURNS_MOST = 60;

    private static final int SPEED = 0;
    private static final int ECHO = 1;
    private static final int BELLOWS = 2;
    private static final int[] SETTING_MOST = {3, 9, 60};

    private final Roll roll;
    private final Organ organ;
    private final Organ untouched;
    private final Organ trial;
    private final History history;
    private final Slots slots;

    public OrganPegs() {
        roll = new Roll();
        organ = new Organ();
        untouched = new Organ();
        trial = new Organ();
        history = new History();
        slots = new Slots();
    }

    // ---- text

    public int append(int c) throws IllegalArgumentException, IllegalStateException {
        if (c < 0 || c > CHARACTER_MOST) {
            throw new IllegalArgumentException("no such character");
        }
        if (roll.isFull()) {
            throw new IllegalStateException("the text is full");
        }
        return roll.addCharacter((char) c);
    }

    public int clearText() {
        return roll.wipe();
    }

    public int errorPosition() {
        return roll.firstWrong();
    }

    public int load() throws IllegalStateException {
        if (roll.firstWrong() != NONE) {
            throw new IllegalStateException("the text is not a roll");
        }
        organ.copyFrom(untouched);
        history.forget();
        slots.wipe();
        roll.rewind();
        int leftOut = 0;
        for (int i = 0; i < TEXT_MOST && roll.readCommand(); i++) {
            if (!obeysCommand()) {
                leftOut++;
            }
        }
        return leftOut;
    }

    private boolean obeysCommand() {
        switch (roll.letter) {
            case 'p':
                return organ.orderPut(roll.first, roll.second, roll.third) != NONE;
            case 'l':
                return organ.orderPull(roll.first, roll.second) != NONE;
            case 'v':
                return organ.change(roll.first, roll.second) != NONE;
            case 't':
                return organ.play(roll.first) != NONE;
            case 'c':
                return organ.dropOrder(roll.first) != NONE;
            default:
                return false;
        }
    }

    // ---- what there is

    public int about(int what) throws IllegalArgumentException {
        if (what < 0 || what > 11) {
            throw new IllegalArgumentException("what is not 0 to 11");
        }
        return organ.tell(what);
    }

    public int pegOf(int k, int what) throws IndexOutOfBoundsException, IllegalArgumentException {
        if (!organ.pegs.has(k)) {
            throw new IndexOutOfBoundsException("no such peg");
        }
        if (what < 0 || what >= Organ.PEG_COLUMNS) {
            throw new IllegalArgumentException("what is not 0 to 3");
        }
        return organ.pegs.at(k, what);
    }

    public int orderOf(int k, int what) throws IndexOutOfBoundsException, IllegalArgumentException {
        if (!organ.orders.has(k)) {
            throw new IndexOutOfBoundsException("no such order");
        }
        if (what < 0 || what >= Organ.ORDER_COLUMNS) {
            throw new IllegalArgumentException("what is not 0 to 4");
        }
        return organ.orders.at(k, what);
    }

    public int pipeOf(int p, int what) throws IndexOutOfBoundsException, IllegalArgumentException {
        if (!isPipe(p)) {
            throw new IndexOutOfBoundsException("no such pipe");
        }
        if (what < 0 || what > 4) {
            throw new IllegalArgumentException("what is not 0 to 4");
        }
        return organ.tellOfPipe(p, what);
    }

    public int chord(int b) throws IndexOutOfBoundsException {
        if (!isBar(b)) {
            throw new IndexOutOfBoundsException("no such bar");
        }
        return organ.openPipes(b);
    }

    public int covered(int way) throws IllegalArgumentException {
        if (way != 0 && way != 1) {
            throw new IllegalArgumentException("way is neither 0 nor 1");
        }
        return way == 0 ? organ.coveredBars() : organ.sumOfLengths();
    }

    public int setting(int what) throws IllegalArgumentException {
        if (!isSetting(what)) {
            throw new IllegalArgumentException("no such setting");
        }
        return organ.settingOf(what);
    }

    // ---- actions

    public int put(int p, int b, int length)
            throws IndexOutOfBoundsException, IllegalArgumentException, IllegalStateException {
        if (!isPipe(p) || !isBar(b)) {
            throw new IndexOutOfBoundsException("no such pipe or bar");
        }
        if (!isLength(length)) {
            throw new IllegalArgumentException("length is not 1 to 6");
        }
        if (organ.orders.isFull()) {
            throw new IllegalStateException("12 orders wait");
        }
        history.remember(organ);
        return organ.orderPut(p, b, length);
    }

    public int pull(int p, int b) throws IndexOutOfBoundsException, IllegalStateException {
        if (!isPipe(p) || !isBar(b)) {
            throw new IndexOutOfBoundsException("no such pipe or bar");
        }
        if (organ.orders.isFull()) {
            throw new IllegalStateException("12 orders wait");
        }
        history.remember(organ);
        return organ.orderPull(p, b);
    }

    public int cancel(int k) throws IndexOutOfBoundsException {
        if (!organ.orders.has(k)) {
            throw new IndexOutOfBoundsException("no such order");
        }
        history.remember(organ);
        return organ.dropOrder(k);
    }

    public int ticks(int n) throws IllegalArgumentException {
        if (!isTicks(n)) {
            throw new IllegalArgumentException("n is not 1 to 99");
        }
        history.remember(organ);
        return organ.play(n);
    }

    public int set(int what, int v) throws IllegalArgumentException {
        if (!isSettingValue(what, v)) {
            throw new IllegalArgumentException("no such setting or value");
        }
        history.remember(organ);
        return organ.change(what, v);
    }

    public int undo() throws IllegalStateException {
        if (history.isEmpty()) {
            throw new IllegalStateException("no state is remembered");
        }
        return history.bringBack(organ);
    }

    // ---- what would be, if nothing else is done

    public int doneIn(int k) throws IndexOutOfBoundsException {
        if (!organ.orders.has(k)) {
            throw new IndexOutOfBoundsException("no such order");
        }
        trial.copyFrom(organ);
        trial.watched = k;
        for (int n = 1; n <= LOOK_AHEAD; n++) {
            trial.play(1);
            if (trial.watched == NONE) {
                return n;
            }
        }
        return NONE;
    }

    public int soundsIn(int p) throws IndexOutOfBoundsException {
        if (!isPipe(p)) {
            throw new IndexOutOfBoundsException("no such pipe");
        }
        trial.copyFrom(organ);
        for (int n = 1; n <= LOOK_AHEAD; n++) {
            trial.play(1);
            if ((trial.soundedAgo(0) >> p & 1) == 1) {
                return n;
            }
        }
        return NONE;
    }

    public int leastSpeed(int n) throws IllegalArgumentException {
        if (!isTicks(n)) {
            throw new IllegalArgumentException("n is not 1 to 99");
        }
        for (int speed = 0; speed <= SETTING_MOST[SPEED]; speed++) {
            trial.copyFrom(organ);
            trial.change(SPEED, speed);
            trial.play(n);
            if (trial.lacks == organ.lacks) {
                return speed;
            }
        }
        return NONE;
    }

    public int fullest() {
        int best = 0;
        for (int bar = 1; bar < BARS; bar++) {
            if (Integer.bitCount(organ.openPipes(bar)) > Integer.bitCount(organ.openPipes(best))) {
                best = bar;
            }
        }
        return best;
    }

    public int room(int p, int length) throws IndexOutOfBoundsException, IllegalArgumentException {
        if (!isPipe(p)) {
            throw new IndexOutOfBoundsException("no such pipe");
        }
        if (!isLength(length)) {
            throw new IllegalArgumentException("length is not 1 to 6");
        }
        for (int bar = 0; bar < BARS; bar++) {
            if (organ.isFree(p, span(bar, length))) {
                return bar;
            }
        }
        return NONE;
    }

    // ---- scripts, simulations

    public int runScript(int n, long script) throws IllegalArgumentException {
        if (n < 1 || n > COMMANDS_MOST) {
            throw new IllegalArgumentException("n is not 1 to 3");
        }
        if (script < 0 || withoutLastGroups(script, n) != 0) {
            throw new IllegalArgumentException("script is negative or too long");
        }
        trial.copyFrom(organ);
        for (int i = 0; i < n; i++) {
            int group = (int) (withoutLastGroups(script, n - 1 - i) % GROUP);
            if (!obeysGroup(group)) {
                return i;
            }
        }
        return NONE;
    }

    private static long withoutLastGroups(long script, int groups) {
        long rest = script;
        for (int i = 0; i < groups; i++) {
            rest /= GROUP;
        }
        return rest;
    }

    private boolean obeysGroup(int group) {
        int d2 = group / 1000 % 10;
        int d3 = group / 100 % 10;
        int d4 = group / 10 % 10;
        int d5 = group % 10;
        int middle = 10 * d3 + d4;
        int end = 10 * d4 + d5;
        switch (group / 10000) {
            case 1:
                return trial.orderPut(d2, middle, d5) != NONE;
            case 2:
                return d5 == 0 && trial.orderPull(d2, middle) != NONE;
            case 3:
                return d2 == 0 && d3 == 0 && trial.play(end) != NONE;
            case 4:
                return d3 == 0 && trial.change(d2, end) != NONE;
            case 5:
                return d2 == 0 && d5 == 0 && trial.dropOrder(middle) != NONE;
            case 6:
                return d5 == 0 && isPipe(d2) && isBar(middle) && trial.isOpen(d2, middle);
            case 7:
                return d2 == 0 && d3 == 0 && trial.version >= end;
            case 8:
                return d2 == 0 && d3 == 0 && d4 == 0 && trial.orders.lines <= d5;
            case 9:
                return d2 == 0 && d3 == 0 && trial.soundedAgo(0) == end;
            default:
                return false;
        }
    }

    public int simulate(long seed, int m) throws IllegalArgumentException {
        if (m < 1 || m > TURNS_MOST) {
            throw new IllegalArgumentException("m is not 1 to 60");
        }
        trial.copyFrom(organ);
        long x = seed;
        for (int i = 0; i < m; i++) {
            x = x * 6364136223846793005L + 1442695040888963407L;
            simulateTurn((int) (x >>> 33));
        }
        int notes = trial.notes - organ.notes;
        int lacks = trial.lacks - organ.lacks;
        return 10000 * (notes % 10000) + 100 * (lacks % 100) + trial.pegs.lines;
    }

    private void simulateTurn(int r) {
        int q = r / 8;
        switch (r % 8) {
            case 0:
            case 1:
            case 2:
                trial.orderPut(q % 6, q / 8 % 24, 1 + q / 256 % 6);
                break;
            case 3:
                trial.orderPull(q % 6, q / 8 % 24);
                break;
            case 4:
                if (q / 4 % 2 == 0) {
                    trial.change(SPEED, q % 4);
                } else {
                    trial.change(ECHO, q / 8 % 10);
                }
                break;
            case 5:
                if (q / 16 % 4 == 0) {
                    trial.dropOrder(q % 12);
                } else {
                    trial.change(BELLOWS, q / 64 % 61);
                }
                break;
            default:
                trial.play(1 + q % 12);
                break;
        }
    }

    // ---- save slots

    public int save(int slot) throws IndexOutOfBoundsException {
        if (!slots.has(slot)) {
            throw new IndexOutOfBoundsException("no such save slot");
        }
        slots.store(slot, organ);
        return organ.version;
    }

    public int restore(int slot) throws IndexOutOfBoundsException, IllegalStateException {
        if (!slots.has(slot)) {
            throw new IndexOutOfBoundsException("no such save slot");
        }
        if (!slots.isStored(slot)) {
            throw new IllegalStateException("nothing has been saved in this slot");
        }
        slots.fetch(slot, organ);
        history.forget();
        return organ.version;
    }

    // ---- what numbers are allowed

    private static boolean isPipe(int p) {
        return p >= 0 && p < PIPES;
    }

    private static boolean isBar(int b) {
        return b >= 0 && b < BARS;
    }

    private static boolean isLength(int length) {
        return length >= 1 && length <= LENGTH_MOST;
    }

    private static boolean isTicks(int n) {
        return n >= 1 && n <= TICKS_MOST;
    }

    private static boolean isSetting(int what) {
        return what >= 0 && what < SETTING_MOST.length;
    }

    private static boolean isSettingValue(int what, int v) {
        return isSetting(what) && v >= 0 && v <= SETTING_MOST[what];
    }

    /** Bars are sets (bit b for the bar b): whether pegs touch is one & then, and what is beyond 23 comes round to 0. */
    private static int span(int bar, int length) {
        int straight = ((1 << length) - 1) << bar;
        int ring = straight | (straight >>> BARS);
        return ring & ((1 << BARS) - 1);
    }

    /** Lines of whole numbers, numbered by age. A cell that does not exist reads as 0, so no index ever fails. */
    private static final class Table {
        private final int[] cells;
        private final int columns;
        private final int most;
        private int lines;

        Table(int most, int columns) {
            this.most = Math.max(most, 0);
            this.columns = Math.max(columns, 0);
            cells = new int[this.most * this.columns];
        }

        boolean has(int line) {
            return line >= 0 && line < lines;
        }

        boolean isFull() {
            return lines >= most;
        }

        private boolean hasCell(int line, int column) {
            return line >= 0 && line < most && column >= 0 && column < columns;
        }

        int at(int line, int column) {
            return hasCell(line, column) ? cells[line * columns + column] : 0;
        }

        void write(int line, int column, int value) {
            if (hasCell(line, column)) {
                cells[line * columns + column] = value;
            }
        }

        /**
         * Answers the number of the new line, NONE if the table is full. The caller writes every cell of the line,
         * as one that is gone may have left its numbers there.
         */
        int addLine() {
            if (isFull()) {
                return NONE;
            }
            lines++;
            return lines - 1;
        }

        void removeLine(int line) {
            if (!has(line)) {
                return;
            }
            int behind = (lines - 1 - line) * columns;
            System.arraycopy(cells, (line + 1) * columns, cells, line * columns, behind);
            lines--;
        }

        void copyFrom(Table other) {
            lines = other.lines;
            copyRow(other.cells, cells);
        }
    }

    private static void copyRow(int[] from, int[] to) {
        System.arraycopy(from, 0, to, 0, Math.min(from.length, to.length));
    }

    /** The state: everything but the text, the remembered states and the save slots. */
    private static final class Organ {
        private static final int PEG_PIPE = 0;
        private static final int PEG_BAR = 1;
        private static final int PEG_LENGTH = 2;
        private static final int PEG_VERSION = 3;
        private static final int PEG_COLUMNS = 4;

        private static final int ORDER_IS_PUT = 0;
        private static final int ORDER_PIPE = 1;
        private static final int ORDER_BAR = 2;
        private static final int ORDER_LENGTH = 3;
        private static final int ORDER_WAITED = 4;
        private static final int ORDER_COLUMNS = 5;

        private final Table pegs = new Table(PEGS_MOST, PEG_COLUMNS);
        private final Table orders = new Table(ORDERS_MOST, ORDER_COLUMNS);
        /** The bars that the pegs of each pipe cover, kept beside the pegs: a tick asks for them too often to search. */
        private final int[] covers = new int[PIPES];
        private final int[] pipeNotes = new int[PIPES];
        private final int[] pipeLacks = new int[PIPES];
        private final int[] settings = {1, 0, 20};
        private int time;
        private int comb;
        private int turns;
        private int version;
        private int wind;
        /** Sounding pipes, six bits a tick, the latest lowest: an echo reaches back 9 ticks, so one long is enough. */
        private long past;
        private int heard;
        private int notes;
        private int lacks;
        private int voids;
        /** The order that doneIn follows, NONE if it waits no more; it is no part of what the calls tell. */
        private int watched = NONE;

        void copyFrom(Organ other) {
            pegs.copyFrom(other.pegs);
            orders.copyFrom(other.orders);
            copyRow(other.covers, covers);
            copyRow(other.pipeNotes, pipeNotes);
            copyRow(other.pipeLacks, pipeLacks);
            copyRow(other.settings, settings);
            time = other.time;
            comb = other.comb;
            turns = other.turns;
            version = other.version;
            wind = other.wind;
            past = other.past;
            heard = other.heard;
            notes = other.notes;
            lacks = other.lacks;
            voids = other.voids;
            watched = other.watched;
        }

        // -- what there is

        int tell(int what) {
            switch (what) {
                case 0:
                    return pegs.lines;
                case 1:
                    return orders.lines;
                case 2:
                    return time;
                case 3:
                    return comb;
                case 4:
                    return turns;
                case 5:
                    return version;
                case 6:
                    return wind;
                case 7:
                    return soundedAgo(0);
                case 8:
                    return heard;
                case 9:
                    return notes;
                case 10:
                    return lacks;
                default:
                    return voids;
            }
        }

        int tellOfPipe(int pipe, int what) {
            if (!isPipe(pipe)) {
                return 0;
            }
            switch (what) {
                case 0:
                    return pegsOfPipe(pipe);
                case 1:
                    return Integer.bitCount(covers[pipe]);
                case 2:
                    return isOpen(pipe, comb) ? 1 : 0;
                case 3:
                    return pipeNotes[pipe];
                default:
                    return pipeLacks[pipe];
            }
        }

        private int pegsOfPipe(int pipe) {
            int count = 0;
            for (int k = 0; k < pegs.lines; k++) {
                if (pegs.at(k, PEG_PIPE) == pipe) {
                    count++;
                }
            }
            return count;
        }

        int settingOf(int what) {
            return isSetting(what) ? settings[what] : 0;
        }

        int soundedAgo(int ticks) {
            return (int) (past >>> (PIPES * ticks)) & ((1 << PIPES) - 1);
        }

        boolean isOpen(int pipe, int bar) {
            return isPipe(pipe) && (covers[pipe] & span(bar, 1)) != 0;
        }

        boolean isFree(int pipe, int bars) {
            return !isPipe(pipe) || (covers[pipe] & bars) == 0;
        }

        int openPipes(int bar) {
            int open = 0;
            for (int pipe = 0; pipe < PIPES; pipe++) {
                if (isOpen(pipe, bar)) {
                    open |= 1 << pipe;
                }
            }
            return open;
        }

        int coveredBars() {
            int count = 0;
            for (int bar = 0; bar < BARS; bar++) {
                count += Integer.bitCount(openPipes(bar));
            }
            return count;
        }

        int sumOfLengths() {
            int sum = 0;
            for (int k = 0; k < pegs.lines; k++) {
                sum += pegs.at(k, PEG_LENGTH);
            }
            return sum;
        }

        // -- actions: each answers NONE, and changes nothing, where the method of the face would throw

        int orderPut(int pipe, int bar, int length) {
            return isLength(length) ? addOrder(1, pipe, bar, length) : NONE;
        }

        int orderPull(int pipe, int bar) {
            return addOrder(0, pipe, bar, 0);
        }

        private int addOrder(int isPut, int pipe, int bar, int length) {
            if (!isPipe(pipe) || !isBar(bar) || orders.isFull()) {
                return NONE;
            }
            int k = orders.addLine();
            orders.write(k, ORDER_IS_PUT, isPut);
            orders.write(k, ORDER_PIPE, pipe);
            orders.write(k, ORDER_BAR, bar);
            orders.write(k, ORDER_LENGTH, length);
            orders.write(k, ORDER_WAITED, 0);
            return k;
        }

        int dropOrder(int k) {
            if (!orders.has(k)) {
                return NONE;
            }
            orders.removeLine(k);
            if (k == watched) {
                watched = NONE;
            } else if (k < watched) {
                watched--;
            }
            return orders.lines;
        }

        int change(int what, int v) {
            if (!isSettingValue(what, v)) {
                return NONE;
            }
            int previous = settings[what];
            settings[what] = v;
            return previous;
        }

        int play(int n) {
            if (!isTicks(n)) {
                return NONE;
            }
            int before = notes;
            for (int i = 0; i < n; i++) {
                time++;
                turnCrank();
                wind = Math.min(wind + 2 * settings[SPEED], settings[BELLOWS]);
                lookAtOrders();
                blowPipes();
            }
            return notes - before;
        }

        // -- a tick

        private void turnCrank() {
            comb += settings[SPEED];
            if (comb >= BARS) {
                comb -= BARS;
                turns++;
            }
        }

        private void lookAtOrders() {
            int k = 0;
            for (int left = orders.lines; left > 0; left--) {
                if (goesOnWaiting(k)) {
                    orders.write(k, ORDER_WAITED, orders.at(k, ORDER_WAITED) + 1);
                    k++;
                } else {
                    boolean done = isPut(k) ? placePeg(k) : takePeg(k);
                    if (done) {
                        version++;
                    } else {
                        voids++;
                    }
                    dropOrder(k);
                }
            }
        }

        private boolean isPut(int k) {
            return orders.at(k, ORDER_IS_PUT) == 1;
        }

        private boolean goesOnWaiting(int k) {
            // An order to pull has the length 0, so it never reaches the comb.
            int bars = span(orders.at(k, ORDER_BAR), orders.at(k, ORDER_LENGTH));
            boolean reachesComb = (bars & span(comb, 1)) != 0;
            return reachesComb || isOpen(orders.at(k, ORDER_PIPE), comb);
        }

        private boolean placePeg(int order) {
            int pipe = orders.at(order, ORDER_PIPE);
            int bar = orders.at(order, ORDER_BAR);
            int length = orders.at(order, ORDER_LENGTH);
            int bars = span(bar, length);
            if (!isPipe(pipe) || !isFree(pipe, bars) || pegs.isFull()) {
                return false;
            }
            covers[pipe] |= bars;
            int k = pegs.addLine();
            pegs.write(k, PEG_PIPE, pipe);
            pegs.write(k, PEG_BAR, bar);
            pegs.write(k, PEG_LENGTH, length);
            pegs.write(k, PEG_VERSION, version + 1);
            return true;
        }

        private boolean takePeg(int order) {
            int pipe = orders.at(order, ORDER_PIPE);
            int bar = orders.at(order, ORDER_BAR);
            for (int k = 0; k < pegs.lines && isPipe(pipe); k++) {
                if (pegs.at(k, PEG_PIPE) == pipe && pegs.at(k, PEG_BAR) == bar) {
                    covers[pipe] &= ~span(bar, pegs.at(k, PEG_LENGTH));
                    pegs.removeLine(k);
                    return true;
                }
            }
            return false;
        }

        private void blowPipes() {
            int sounding = 0;
            for (int pipe = 0; pipe < PIPES; pipe++) {
                if (isOpen(pipe, comb)) {
                    if (wind > 0) {
                        wind--;
                        notes++;
                        pipeNotes[pipe]++;
                        sounding |= 1 << pipe;
                    } else {
                        lacks++;
                        pipeLacks[pipe]++;
                    }
                }
            }
            past = (past << PIPES) | sounding;
            // An echo of 0 adds the pipes that sound now: nothing new is heard.
            heard = sounding | soundedAgo(settings[ECHO]);
        }
    }

    /** A ring, so that a state too many takes the place of the oldest one, and no call makes an object. */
    private static final class History {
        private final Organ[] states = new Organ[STATES_MOST];
        private int next;
        private int count;

        History() {
            for (int i = 0; i < STATES_MOST; i++) {
                states[i] = new Organ();
            }
        }

        boolean isEmpty() {
            return count == 0;
        }

        /** A place that does not exist reads as the first one, so no index ever fails. */
        private Organ stateAt(int place) {
            return states[place >= 0 && place < STATES_MOST ? place : 0];
        }

        void remember(Organ organ) {
            stateAt(next).copyFrom(organ);
            next = next + 1 < STATES_MOST ? next + 1 : 0;
            count = Math.min(count + 1, STATES_MOST);
        }

        int bringBack(Organ organ) {
            next = next > 0 ? next - 1 : STATES_MOST - 1;
            organ.copyFrom(stateAt(next));
            count--;
            return count;
        }

        void forget() {
            count = 0;
        }
    }

    /** Apart from the state and from History: what is saved outlives undo and restore, but not load. */
    private static final class Slots {
        private final Organ[] states = new Organ[SLOTS];
        private final boolean[] stored = new boolean[SLOTS];

        Slots() {
            for (int i = 0; i < SLOTS; i++) {
                states[i] = new Organ();
            }
        }

        boolean has(int slot) {
            return slot >= 0 && slot < SLOTS;
        }

        boolean isStored(int slot) {
            return has(slot) && stored[slot];
        }

        void store(int slot, Organ organ) {
            if (has(slot)) {
                states[slot].copyFrom(organ);
                stored[slot] = true;
            }
        }

        void fetch(int slot, Organ organ) {
            if (has(slot)) {
                organ.copyFrom(states[slot]);
            }
        }

        void wipe() {
            for (int i = 0; i < SLOTS; i++) {
                stored[i] = false;
            }
        }
    }

    /** The text buffer, and the reading of it as a roll, a command at a time. */
    private static final class Roll {
        private final char[] text = new char[TEXT_MOST];
        private int length;
        /** Where the reading stands: at the first wrong character, if there is one. */
        private int position;
        private boolean wrong;
        private char letter;
        private int first;
        private int second;
        private int third;

        boolean isFull() {
            return length >= TEXT_MOST;
        }

        int addCharacter(char c) {
            if (length >= 0 && length < TEXT_MOST) {
                text[length] = c;
                length++;
            }
            return length;
        }

        int wipe() {
            int previous = length;
            length = 0;
            return previous;
        }

        int firstWrong() {
            rewind();
            int commands = 0;
            while (commands < TEXT_MOST && readCommand()) {
                commands++;
            }
            return wrong ? position : NONE;
        }

        void rewind() {
            position = 0;
            wrong = here() != 'O';
            if (!wrong) {
                position++;
            }
        }

        /** Reads the next command; answers false at the end of the text, and if a character is wrong. */
        boolean readCommand() {
            if (wrong || position >= length) {
                return false;
            }
            letter = here();
            position++;
            readNumbers();
            return !wrong;
        }

        private void readNumbers() {
            switch (letter) {
                case 'p':
                    first = digit(0, 5);
                    second = twoDigits(0, 23);
                    third = digit(1, 6);
                    break;
                case 'l':
                    first = digit(0, 5);
                    second = twoDigits(0, 23);
                    break;
                case 'v':
                    first = digit(0, 2);
                    second = twoDigits(0, 60);
                    break;
                case 't':
                    first = twoDigits(1, 99);
                    break;
                case 'c':
                    first = twoDigits(0, 11);
                    break;
                default:
                    position--;
                    wrong = true;
                    break;
            }
        }

        private int twoDigits(int low, int high) {
            int tens = digit(low / 10, high / 10);
            int least = tens == low / 10 ? low % 10 : 0;
            int most = tens == high / 10 ? high % 10 : 9;
            return 10 * tens + digit(least, most);
        }

        private int digit(int low, int high) {
            int value = here() - '0';
            if (wrong || value < low || value > high) {
                wrong = true;
                return 0;
            }
            position++;
            return value;
        }

        /** The character at the position; behind the end of the text a 0, which no rule allows. */
        private char here() {
            return position >= 0 && position < length && position < TEXT_MOST ? text[position] : 0;
        }
    }
}
