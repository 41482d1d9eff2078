import java.util.ArrayDeque;
import java.util.ArrayList;
import java.util.Deque;
import java.util.List;
import java.util.Random;
import java.util.function.IntSupplier;

/**
 * Runs of 512 calls, as many as the document allows, each answered by the class and by a plain second writing of the
 * document, which must agree.
 */
public final class OrganPegsModelTest {
    private static final int RUNS = 8000;
    private static final int CALLS_MOST = 512;
    /** The calls behind these look at the whole state at the end. */
    private static final int CALLS_OF_STEPS = 400;
    private static int wrong = 0;

    public static void main(String[] args) {
        for (int run = 0; run < RUNS && wrong < 20; run++) {
            new Run(run).play();
        }
        System.out.println(wrong == 0 ? "the class agrees with the model" : wrong + " answers differ from the model");
        if (wrong != 0) {
            System.exit(1);
        }
    }

    /** What a call answers, or the name of the exception that it throws. */
    private static String answer(IntSupplier call) {
        try {
            return Integer.toString(call.getAsInt());
        } catch (RuntimeException e) {
            return e.getClass().getSimpleName();
        }
    }

    private static final class Run {
        private final Random random;
        private final int number;
        private final OrganPegs organ = new OrganPegs();
        private final Model model = new Model();
        private final boolean wild;
        private final List<String> calls = new ArrayList<>();
        /** Runs with many orders and few other calls come to thirty pegs and to twelve orders. */
        private final boolean dense;
        private int made = 0;
        private boolean differs = false;

        Run(int number) {
            this.number = number;
            random = new Random(number);
            wild = number % 5 == 0;
            dense = number % 3 == 0;
        }

        void play() {
            while (made < CALLS_OF_STEPS && !differs) {
                if (dense && random.nextInt(3) > 0) {
                    fill();
                } else {
                    step();
                }
                look();
            }
            compareAll();
        }

        private void fill() {
            int p = pick(0, 5);
            int b = pick(0, 23);
            if (random.nextInt(5) > 0) {
                compare("put " + p + " " + b + " 1", () -> organ.put(p, b, 1), () -> model.put(p, b, 1));
            } else {
                compare("ticks 2", () -> organ.ticks(2), () -> model.ticks(2));
            }
        }

        /** Now and then a look at a part of the state. */
        private void look() {
            switch (random.nextInt(16)) {
                case 0: compareNumbers(); break;
                case 1: comparePipe(random.nextInt(6)); break;
                case 2: comparePeg(random.nextInt(Math.max(1, model.now.pegs.size()))); break;
                case 3: compareOrder(random.nextInt(Math.max(1, model.now.orders.size()))); break;
                case 4: compareChord(random.nextInt(24)); break;
                case 5: compare("fullest", organ::fullest, model::fullest); break;
                default: break;
            }
        }

        private void compare(String call, IntSupplier got, IntSupplier due) {
            if (made == CALLS_MOST) {
                return;
            }
            made++;
            String a = answer(got);
            String b = answer(due);
            calls.add(call + " -> " + b);
            if (!a.equals(b) && !differs) {
                differs = true;
                wrong++;
                List<String> latest = calls.subList(Math.max(0, calls.size() - 12), calls.size());
                System.out.println("run " + number + ": " + call + " answered " + a + ", due is " + b + "; latest: " + latest);
            }
        }

        /** Mostly a number of the range, at times one beside it. */
        private int pick(int low, int high) {
            if (random.nextInt(wild ? 6 : 40) == 0) {
                int[] odd = {low - 1, high + 1, Integer.MIN_VALUE, Integer.MAX_VALUE, -7, 1000};
                return odd[random.nextInt(odd.length)];
            }
            return low + random.nextInt(high - low + 1);
        }

        private void step() {
            int kind = random.nextInt(30);
            if (kind < 8) {
                int p = pick(0, 5);
                int b = pick(0, 23);
                int length = pick(1, random.nextInt(4) == 0 ? 6 : 2);
                compare("put " + p + " " + b + " " + length, () -> organ.put(p, b, length), () -> model.put(p, b, length));
            } else if (kind < 10) {
                int p = pick(0, 5);
                int b = pick(0, 23);
                compare("pull " + p + " " + b, () -> organ.pull(p, b), () -> model.pull(p, b));
            } else if (kind == 10) {
                int k = pick(0, Math.max(0, model.now.orders.size() - 1));
                compare("cancel " + k, () -> organ.cancel(k), () -> model.cancel(k));
            } else if (kind < 17) {
                int n = pick(1, random.nextInt(8) == 0 ? 99 : 5);
                compare("ticks " + n, () -> organ.ticks(n), () -> model.ticks(n));
            } else if (kind < 19) {
                int what = pick(0, 2);
                int v = what == 0 ? pick(0, 3) : what == 1 ? pick(0, 9) : pick(0, random.nextBoolean() ? 6 : 60);
                compare("set " + what + " " + v, () -> organ.set(what, v), () -> model.set(what, v));
            } else if (kind == 19) {
                int times = random.nextInt(6) == 0 ? 16 : 1 + random.nextInt(3);
                for (int i = 0; i < times; i++) {
                    compare("undo", organ::undo, model::undo);
                }
            } else if (kind < 24) {
                ask();
            } else if (kind < 26) {
                int n = random.nextInt(20) == 0 ? pick(-1, 5) : 1 + random.nextInt(3);
                long script = script(n);
                compare("runScript " + n + " " + script, () -> organ.runScript(n, script), () -> model.runScript(n, script));
            } else if (kind == 26) {
                long seed = random.nextLong();
                int m = pick(1, 60);
                compare("simulate " + seed + " " + m, () -> organ.simulate(seed, m), () -> model.simulate(seed, m));
            } else if (kind == 27) {
                int slot = pick(0, 1);
                compare("save " + slot, () -> organ.save(slot), () -> model.save(slot));
            } else if (kind == 28) {
                int slot = pick(0, 1);
                compare("restore " + slot, () -> organ.restore(slot), () -> model.restore(slot));
            } else {
                text();
            }
        }

        private void ask() {
            int k = pick(0, Math.max(0, model.now.orders.size() - 1));
            int p = pick(0, 5);
            int n = pick(1, 99);
            int length = pick(1, 6);
            compare("doneIn " + k, () -> organ.doneIn(k), () -> model.doneIn(k));
            compare("soundsIn " + p, () -> organ.soundsIn(p), () -> model.soundsIn(p));
            compare("leastSpeed " + n, () -> organ.leastSpeed(n), () -> model.leastSpeed(n));
            compare("room " + p + " " + length, () -> organ.room(p, length), () -> model.room(p, length));
            int what = pick(-1, 12);
            int j = pick(-1, 31);
            compare("about " + what, () -> organ.about(what), () -> model.about(what));
            compare("pegOf " + j + " " + what, () -> organ.pegOf(j, what), () -> model.pegOf(j, what));
            compare("orderOf " + j + " " + what, () -> organ.orderOf(j, what), () -> model.orderOf(j, what));
            compare("pipeOf " + j + " " + what, () -> organ.pipeOf(j, what), () -> model.pipeOf(j, what));
            compare("chord " + j, () -> organ.chord(j), () -> model.chord(j));
            compare("covered " + what, () -> organ.covered(what), () -> model.covered(what));
            compare("setting " + what, () -> organ.setting(what), () -> model.setting(what));
        }

        private long script(int n) {
            long script = 0;
            for (int i = 0; i < Math.min(n, 3); i++) {
                script = script * 100000 + group();
            }
            int odd = random.nextInt(60);
            return odd == 0 ? -script : odd == 1 ? random.nextLong() : odd == 2 ? script * 10 : script;
        }

        private int group() {
            int p = random.nextInt(random.nextInt(10) == 0 ? 10 : 6);
            int b = random.nextInt(random.nextInt(10) == 0 ? 100 : 24);
            int zeros = random.nextInt(12) == 0 ? random.nextInt(2) : 0;
            switch (random.nextInt(10)) {
                case 0: return random.nextInt(100000);
                case 1: return 10000 + 1000 * p + 10 * b + random.nextInt(8);
                case 2: return 20000 + 1000 * p + 10 * b + zeros;
                case 3: return 30000 + 100 * zeros + random.nextInt(30);
                case 4: return 40000 + 1000 * random.nextInt(4) + 100 * zeros + random.nextInt(12);
                case 5: return 50000 + 10 * random.nextInt(14) + zeros;
                case 6: return 60000 + 1000 * p + 10 * b + zeros;
                case 7: return 70000 + 100 * zeros + Math.min(99, Math.max(0, model.now.version + random.nextInt(3) - 1));
                case 8: return 80000 + 10 * zeros + Math.min(9, model.now.orders.size());
                default: return 90000 + 1000 * zeros + model.about(7);
            }
        }

        private void text() {
            if (random.nextInt(3) == 0) {
                compare("clearText", organ::clearText, model::clearText);
                type("O");
            }
            int commands = random.nextInt(14);
            for (int i = 0; i < commands; i++) {
                String command = Model.COMMANDS.get(random.nextInt(Model.COMMANDS.size()));
                type(random.nextInt(3) == 0 ? String.format("t%02d", 1 + random.nextInt(9)) : command);
                if (random.nextInt(60) == 0) {
                    type(String.valueOf((char) random.nextInt(256)));
                }
                if (random.nextInt(60) == 0) {
                    type("pv0629".substring(random.nextInt(5)));
                }
            }
            compare("errorPosition", organ::errorPosition, model::errorPosition);
            int c = pick(0, 255);
            if (c < 0 || c > 255) {
                compare("append " + c, () -> organ.append(c), () -> model.append(c));
            }
            if (random.nextInt(2) == 0) {
                compare("load", organ::load, model::load);
            }
        }

        private void type(String characters) {
            for (char c : characters.toCharArray()) {
                compare("append " + c, () -> organ.append(c), () -> model.append(c));
            }
        }

        private void compareAll() {
            compareNumbers();
            compare("fullest", organ::fullest, model::fullest);
            for (int p = 0; p < 6; p++) {
                comparePipe(p);
            }
            for (int k = 0; k < model.now.orders.size(); k++) {
                compareOrder(k);
            }
            for (int k = model.now.pegs.size() - 1; k >= 0; k--) {
                comparePeg(k);
            }
            for (int b = 0; b < 24; b++) {
                compareChord(b);
            }
        }

        private void compareNumbers() {
            for (int i = 0; i < 12; i++) {
                int what = i;
                compare("about " + what, () -> organ.about(what), () -> model.about(what));
            }
            for (int i = 0; i < 3; i++) {
                int what = i;
                compare("setting " + what, () -> organ.setting(what), () -> model.setting(what));
            }
            for (int i = 0; i < 2; i++) {
                int way = i;
                compare("covered " + way, () -> organ.covered(way), () -> model.covered(way));
            }
        }

        private void comparePipe(int p) {
            for (int i = 0; i < 5; i++) {
                int what = i;
                compare("pipeOf " + p + " " + what, () -> organ.pipeOf(p, what), () -> model.pipeOf(p, what));
            }
        }

        private void comparePeg(int k) {
            for (int i = 0; i < 4; i++) {
                int what = i;
                compare("pegOf " + k + " " + what, () -> organ.pegOf(k, what), () -> model.pegOf(k, what));
            }
        }

        private void compareOrder(int k) {
            for (int i = 0; i < 5; i++) {
                int what = i;
                compare("orderOf " + k + " " + what, () -> organ.orderOf(k, what), () -> model.orderOf(k, what));
            }
        }

        private void compareChord(int b) {
            compare("chord " + b, () -> organ.chord(b), () -> model.chord(b));
        }
    }

    /** All that an action changes; each set of bars is told anew from the list of the pegs. */
    private static final class State {
        final List<int[]> pegs = new ArrayList<>();
        final List<int[]> orders = new ArrayList<>();
        final List<Integer> sounded = new ArrayList<>();
        final int[] settings = {1, 0, 20};
        final int[] notes = new int[6];
        final int[] lacks = new int[6];
        int comb = 0;
        int turns = 0;
        int version = 0;
        int wind = 0;
        int heard = 0;
        int voids = 0;

        State copy() {
            State s = new State();
            for (int[] peg : pegs) {
                s.pegs.add(peg.clone());
            }
            for (int[] order : orders) {
                s.orders.add(order);
            }
            s.sounded.addAll(sounded);
            System.arraycopy(settings, 0, s.settings, 0, 3);
            System.arraycopy(notes, 0, s.notes, 0, 6);
            System.arraycopy(lacks, 0, s.lacks, 0, 6);
            s.comb = comb;
            s.turns = turns;
            s.version = version;
            s.wind = wind;
            s.heard = heard;
            s.voids = voids;
            return s;
        }

        static boolean reaches(int from, int length, int bar) {
            return Math.floorMod(bar - from, 24) < length;
        }

        boolean open(int p, int b) {
            for (int[] peg : pegs) {
                if (peg[0] == p && reaches(peg[1], peg[2], b)) {
                    return true;
                }
            }
            return false;
        }

        boolean anyOpen(int p, int b, int length) {
            for (int i = 0; i < length; i++) {
                if (open(p, (b + i) % 24)) {
                    return true;
                }
            }
            return false;
        }

        int notesOfAll() {
            return notes[0] + notes[1] + notes[2] + notes[3] + notes[4] + notes[5];
        }

        int lacksOfAll() {
            return lacks[0] + lacks[1] + lacks[2] + lacks[3] + lacks[4] + lacks[5];
        }

        int soundedAgo(int ticks) {
            int i = sounded.size() - 1 - ticks;
            return i >= 0 ? sounded.get(i) : 0;
        }

        /** An order is kind, pipe, bar, length, time of the call. */
        void tick() {
            int step = settings[0];
            turns += (comb + step) / 24;
            comb = (comb + step) % 24;
            wind = wind + 2 * step > settings[2] ? settings[2] : wind + 2 * step;
            for (int[] o : new ArrayList<>(orders)) {
                boolean waits = open(o[1], comb) || o[0] == 1 && reaches(o[2], o[3], comb);
                if (!waits) {
                    orders.removeIf(other -> other == o);
                    finish(o);
                }
            }
            int now = 0;
            for (int p = 0; p < 6; p++) {
                if (open(p, comb) && wind > 0) {
                    wind--;
                    notes[p]++;
                    now += 1 << p;
                } else if (open(p, comb)) {
                    lacks[p]++;
                }
            }
            sounded.add(now);
            heard = now;
            if (settings[1] > 0) {
                heard |= soundedAgo(settings[1]);
            }
        }

        private void finish(int[] o) {
            if (o[0] == 1) {
                if (anyOpen(o[1], o[2], o[3]) || pegs.size() == 30) {
                    voids++;
                } else {
                    version++;
                    pegs.add(new int[] {o[1], o[2], o[3], version});
                }
            } else if (pegs.removeIf(peg -> peg[0] == o[1] && peg[1] == o[2])) {
                version++;
            } else {
                voids++;
            }
        }
    }

    /** The calls of the face, told by the document's words. */
    private static final class Model {
        static final List<String> COMMANDS = commands();

        State now = new State();
        Deque<State> remembered = new ArrayDeque<>();
        State[] slots = new State[2];
        String text = "";

        private static List<String> commands() {
            List<String> all = new ArrayList<>();
            for (int p = 0; p < 6; p++) {
                for (int b = 0; b < 24; b++) {
                    all.add(String.format("l%d%02d", p, b));
                    for (int length = 1; length < 7; length++) {
                        all.add(String.format("p%d%02d%d", p, b, length));
                    }
                }
            }
            for (int v = 0; v < 3 * 61; v++) {
                all.add(String.format("v%d%02d", v % 3, v / 3));
            }
            for (int t = 1; t < 100; t++) {
                all.add(String.format("t%02d", t));
            }
            for (int c = 0; c < 12; c++) {
                all.add(String.format("c%02d", c));
            }
            return all;
        }

        private static void index(boolean fine) {
            if (!fine) {
                throw new IndexOutOfBoundsException();
            }
        }

        private static void argument(boolean fine) {
            if (!fine) {
                throw new IllegalArgumentException();
            }
        }

        private static void state(boolean fine) {
            if (!fine) {
                throw new IllegalStateException();
            }
        }

        private static boolean in(int low, int number, int high) {
            return low <= number && number <= high;
        }

        int append(int c) {
            argument(in(0, c, 255));
            state(text.length() < 120);
            text += (char) c;
            return text.length();
        }

        int clearText() {
            int length = text.length();
            text = "";
            return length;
        }

        /** The commands of the text, null if it is not a roll; each start of a command is tried against all of them. */
        private List<String> read(int[] error) {
            List<String> read = new ArrayList<>();
            error[0] = 0;
            if (!text.startsWith("O")) {
                return null;
            }
            int at = 1;
            while (at < text.length()) {
                String found = null;
                for (String command : COMMANDS) {
                    int same = 0;
                    while (same < command.length() && at + same < text.length()
                            && command.charAt(same) == text.charAt(at + same)) {
                        same++;
                    }
                    error[0] = Math.max(error[0], at + same);
                    if (same == command.length()) {
                        found = command;
                    }
                }
                if (found == null) {
                    error[0] = Math.max(error[0], at);
                    return null;
                }
                read.add(found);
                at += found.length();
            }
            error[0] = -1;
            return read;
        }

        int errorPosition() {
            int[] error = new int[1];
            read(error);
            return error[0];
        }

        int load() {
            List<String> read = read(new int[1]);
            state(read != null);
            now = new State();
            int leftOut = 0;
            for (String c : read) {
                String numbers = c.substring(1);
                String behind = numbers.length() > 2 ? numbers.substring(1, 3) : numbers;
                int one = numbers.charAt(0) - '0';
                int two = Integer.parseInt(behind);
                String a;
                switch (c.charAt(0)) {
                    case 'p': a = answer(() -> put(one, two, numbers.charAt(3) - '0')); break;
                    case 'l': a = answer(() -> pull(one, two)); break;
                    case 'v': a = answer(() -> set(one, two)); break;
                    case 't': a = answer(() -> ticks(two)); break;
                    default: a = answer(() -> cancel(two)); break;
                }
                leftOut += a.endsWith("Exception") ? 1 : 0;
            }
            remembered.clear();
            slots = new State[2];
            return leftOut;
        }

        int about(int what) {
            argument(in(0, what, 11));
            int[] all = {now.pegs.size(), now.orders.size(), now.sounded.size(), now.comb, now.turns, now.version, now.wind,
                now.soundedAgo(0), now.heard, now.notesOfAll(), now.lacksOfAll(), now.voids};
            return all[what];
        }

        int pegOf(int k, int what) {
            index(in(0, k, now.pegs.size() - 1));
            argument(in(0, what, 3));
            return now.pegs.get(k)[what];
        }

        int orderOf(int k, int what) {
            index(in(0, k, now.orders.size() - 1));
            argument(in(0, what, 4));
            int[] order = now.orders.get(k);
            return what == 4 ? now.sounded.size() - order[4] : order[what];
        }

        int pipeOf(int p, int what) {
            index(in(0, p, 5));
            argument(in(0, what, 4));
            int pegs = 0;
            int bars = 0;
            for (int[] peg : now.pegs) {
                pegs += peg[0] == p ? 1 : 0;
                bars += peg[0] == p ? peg[2] : 0;
            }
            int[] all = {pegs, bars, now.open(p, now.comb) ? 1 : 0, now.notes[p], now.lacks[p]};
            return all[what];
        }

        int chord(int b) {
            index(in(0, b, 23));
            int set = 0;
            for (int p = 0; p < 6; p++) {
                set += now.open(p, b) ? 1 << p : 0;
            }
            return set;
        }

        int covered(int way) {
            argument(in(0, way, 1));
            int sum = 0;
            for (int p = 0; p < 6; p++) {
                sum += pipeOf(p, 1);
            }
            return sum;
        }

        int setting(int what) {
            argument(in(0, what, 2));
            return now.settings[what];
        }

        private void remember() {
            remembered.addLast(now.copy());
            if (remembered.size() > 14) {
                remembered.removeFirst();
            }
        }

        int put(int p, int b, int length) {
            index(in(0, p, 5) && in(0, b, 23));
            argument(in(1, length, 6));
            state(now.orders.size() < 12);
            remember();
            now.orders.add(new int[] {1, p, b, length, now.sounded.size()});
            return now.orders.size() - 1;
        }

        int pull(int p, int b) {
            index(in(0, p, 5) && in(0, b, 23));
            state(now.orders.size() < 12);
            remember();
            now.orders.add(new int[] {0, p, b, 0, now.sounded.size()});
            return now.orders.size() - 1;
        }

        int cancel(int k) {
            index(in(0, k, now.orders.size() - 1));
            remember();
            now.orders.remove(k);
            return now.orders.size();
        }

        int ticks(int n) {
            argument(in(1, n, 99));
            remember();
            int before = now.notesOfAll();
            for (int i = 0; i < n; i++) {
                now.tick();
            }
            return now.notesOfAll() - before;
        }

        int set(int what, int v) {
            argument(in(0, what, 2));
            argument(in(0, v, new int[] {3, 9, 60}[what]));
            remember();
            int previous = now.settings[what];
            now.settings[what] = v;
            return previous;
        }

        int undo() {
            state(!remembered.isEmpty());
            now = remembered.removeLast();
            return remembered.size();
        }

        int doneIn(int k) {
            index(in(0, k, now.orders.size() - 1));
            State copy = now.copy();
            int[] order = copy.orders.get(k);
            for (int n = 1; n <= 100; n++) {
                copy.tick();
                if (copy.orders.stream().noneMatch(other -> other == order)) {
                    return n;
                }
            }
            return -1;
        }

        int soundsIn(int p) {
            index(in(0, p, 5));
            State copy = now.copy();
            for (int n = 1; n <= 100; n++) {
                copy.tick();
                if (copy.notes[p] > now.notes[p]) {
                    return n;
                }
            }
            return -1;
        }

        int leastSpeed(int n) {
            argument(in(1, n, 99));
            for (int speed = 0; speed < 4; speed++) {
                State copy = now.copy();
                copy.settings[0] = speed;
                for (int i = 0; i < n; i++) {
                    copy.tick();
                }
                if (copy.lacksOfAll() == now.lacksOfAll()) {
                    return speed;
                }
            }
            return -1;
        }

        int fullest() {
            int best = 23;
            for (int b = 22; b >= 0; b--) {
                best = Integer.bitCount(chord(b)) >= Integer.bitCount(chord(best)) ? b : best;
            }
            return best;
        }

        int room(int p, int length) {
            index(in(0, p, 5));
            argument(in(1, length, 6));
            for (int b = 0; b < 24; b++) {
                if (!now.anyOpen(p, b, length)) {
                    return b;
                }
            }
            return -1;
        }

        /** A model of its own with a copy of the state, for what changes nothing here. */
        private Model other() {
            Model other = new Model();
            other.now = now.copy();
            return other;
        }

        int runScript(int n, long script) {
            argument(in(1, n, 3));
            argument(script >= 0 && Long.toString(script).length() <= 5 * n);
            String digits = String.format("%0" + 5 * n + "d", script);
            Model other = other();
            for (int i = 0; i < n; i++) {
                if (!other.obeys(digits.substring(5 * i, 5 * i + 5))) {
                    return i;
                }
            }
            return -1;
        }

        private boolean obeys(String d) {
            int one = d.charAt(1) - '0';
            int middle = Integer.parseInt(d.substring(2, 4));
            int end = Integer.parseInt(d.substring(3));
            int last = d.charAt(4) - '0';
            if (d.matches("1....")) {
                return !answer(() -> put(one, middle, last)).endsWith("Exception");
            } else if (d.matches("2...0")) {
                return !answer(() -> pull(one, middle)).endsWith("Exception");
            } else if (d.matches("300..")) {
                return !answer(() -> ticks(end)).endsWith("Exception");
            } else if (d.matches("4.0..")) {
                return !answer(() -> set(one, end)).endsWith("Exception");
            } else if (d.matches("50..0")) {
                return !answer(() -> cancel(middle)).endsWith("Exception");
            } else if (d.matches("6...0")) {
                return one < 6 && middle < 24 && now.open(one, middle);
            } else if (d.matches("700..")) {
                return now.version >= end;
            } else if (d.matches("8000.")) {
                return now.orders.size() <= last;
            }
            return d.matches("900..") && about(7) == end;
        }

        int simulate(long seed, int m) {
            argument(in(1, m, 60));
            Model other = other();
            long x = seed;
            for (int i = 0; i < m; i++) {
                x = x * 6364136223846793005L + 1442695040888963407L;
                other.turn((int) (x >>> 33));
            }
            int notes = other.now.notesOfAll() - now.notesOfAll();
            int lacks = other.now.lacksOfAll() - now.lacksOfAll();
            return 10000 * (notes % 10000) + 100 * (lacks % 100) + other.now.pegs.size();
        }

        private void turn(int r) {
            int q = r / 8;
            int kind = r % 8;
            if (kind <= 2) {
                answer(() -> put(q % 6, q / 8 % 24, 1 + q / 256 % 6));
            } else if (kind == 3) {
                answer(() -> pull(q % 6, q / 8 % 24));
            } else if (kind == 4) {
                answer(() -> q / 4 % 2 == 0 ? set(0, q % 4) : set(1, q / 8 % 10));
            } else if (kind == 5) {
                answer(() -> q / 16 % 4 == 0 ? cancel(q % 12) : set(2, q / 64 % 61));
            } else {
                answer(() -> ticks(1 + q % 12));
            }
        }

        int save(int slot) {
            index(in(0, slot, 1));
            slots[slot] = now.copy();
            return now.version;
        }

        int restore(int slot) {
            index(in(0, slot, 1));
            state(slots[slot] != null);
            now = slots[slot].copy();
            remembered.clear();
            return now.version;
        }
    }
}
