/**
 * The edges of what the calls take, a method for each sentence of promises 1 to 15: the first and
 * the last value that is taken, the nearest ones that are refused, and that a refused call changes nothing.
 */
public final class CallEdgesTest {
    private static final int T = 32;
    private static final int L = 33;
    private static final int CARRY = 34;

    public static void main(String[] args) {
        newIsAllZero();
        newHasTaskZeroAtHandAndWoken();
        newHasNoOutput();
        storeTakesFirstAndLast();
        storeTakesAllBits();
        storeRefuses();
        constantTakesFirstAndLast();
        constantRefuses();
        pokeTakesFirstAndLast();
        pokeRefuses();
        setTakesFirstAndLast();
        setRefuses();
        portTakesAll();
        wakeTakesFirstAndLast();
        wakeAnswersWhetherItWas();
        wakeRefuses();
        startTakesFirstAndLast();
        startTakesTheChange();
        startRefusesTasks();
        startRefusesPlaces();
        runTakesFirstAndLast();
        runAnswersNoneDone();
        runRefuses();
        registerTakesFirstAndLast();
        registerRefuses();
        peekTakesFirstAndLast();
        peekRefuses();
        taskTakesFirstAndLast();
        taskRefusesTasks();
        taskRefusesQuestions();
        nowTellsFirstAndLast();
        outIsEmptyAtFirst();
        outKeepsTheFirst500();
        outRefuses();
        countTakesFirstAndLast();
        countsAreNoWords();
        countRefuses();
        askingChangesNothing();
        lastPromisedCall();
        Check.end();
    }

    /** An object in which nearly everything that can be told is another number. */
    private static MicroTasks busy() {
        MicroTasks x = Check.machine(
                Check.code(1).bs(2).f1(8).loadT(),
                Check.code(2).rsel(9).aluf(7).f1(8).loadL(),
                Check.code(3).f1(2),
                Check.code(4).rsel(10).f1(1).f2(4));
        for (int k = 0; k < 32; k++) {
            x.set(k, 1000 + k);
        }
        for (int t = 1; t < 16; t++) {
            x.start(t, 600 + t);
        }
        x.wake(3);
        x.wake(6);
        x.poke(0, 21);
        x.poke(1, 22);
        x.poke(1022, 23);
        x.poke(1023, 24);
        // task 6 makes a change, then stands at a read that waits
        Check.storeFrom(x, 606, Check.code(607).bs(2).f2(4), Check.code(608).bs(5));
        x.run(7);
        return x;
    }

    private static void newIsAllZero() {
        Check.by("Promise 1: All is 0");
        MicroTasks x = new MicroTasks();
        int[] told = Check.told(x);
        int taskZeroIsWoken = 36 + 2;
        for (int i = 0; i < 36 + 64 + 4 + 9; i++) {
            Check.due("row " + i + " of what is told", told[i], i == taskZeroIsWoken ? 1 : 0);
        }
        for (int from = 0; from < 1024; from += 512) {
            MicroTasks y = new MicroTasks();
            for (int place = from; place < from + 512; place++) {
                Check.due("peek(" + place + ")", y.peek(place), 0);
            }
        }
    }

    private static void newHasTaskZeroAtHandAndWoken() {
        Check.by("Task 0 begins");
        MicroTasks x = new MicroTasks();
        Check.due("now()", x.now(), 0);
        Check.due("task(0, 2)", x.task(0, 2), 1);
        Check.due("task(1, 2)", x.task(1, 2), 0);
        x.run(1);
        Check.due("task(0, 3)", x.task(0, 3), 1);
    }

    private static void newHasNoOutput() {
        Check.by("Promise 1: All is 0");
        MicroTasks x = new MicroTasks();
        for (int i = 0; i < 501; i++) {
            Check.due("out(" + i + ")", x.out(i), -1);
        }
    }

    private static void storeTakesFirstAndLast() {
        Check.by("Promise 2: An instruction");
        MicroTasks x = new MicroTasks();
        Check.due("store(0, ..)", x.store(0, Check.code(1023).bs(2).f1(8).bits()), true);
        Check.due("store(1023, ..)", x.store(1023, Check.code(512).bs(7).f1(8).bits()), true);
        Check.due("run(1)", x.run(1), 1);
        Check.due("the one at 0 is done", x.task(0, 0), 1023);
        Check.due("out(0)", x.out(0), 0xFFFF);
        Check.due("run(1)", x.run(1), 1);
        Check.due("the one at 1023 is done", x.task(0, 0), 512);
        Check.due("out(1)", x.out(1), 0);
    }

    private static void storeTakesAllBits() {
        Check.by("AN INSTRUCTION has, from the highest bit on ..");
        // every field is at its greatest: BUS is MAR, the ALU is 0, T takes the BUS
        MicroTasks x = Check.loaded(5, 6, 1);
        Check.due("store(0, -1)", x.store(0, -1), true);
        x.run(1);
        Check.due("T", x.register(T), 0);
        Check.due("L", x.register(L), 0);
        Check.due("CARRY", x.register(CARRY), 0);
        Check.due("place", x.task(0, 0), 1023);
        Check.due("change", x.task(0, 1), 0);
        oneFieldAlone();
    }

    /** The lowest and the highest bit of each field, alone in its instruction. */
    private static void oneFieldAlone() {
        int[] rsels = {1 << 27, 1 << 31};
        int[] registers = {1, 16};
        for (int i = 0; i < 2; i++) {
            MicroTasks x = Check.loaded(5, 6, 1);
            x.set(registers[i], 77);
            x.store(0, rsels[i] | 1 << 10);
            x.run(1);
            Check.due("RSEL " + registers[i] + ": L", x.register(L), 77);
            Check.due("RSEL " + registers[i] + ": T", x.register(T), 5);
            Check.due("RSEL " + registers[i] + ": place", x.task(0, 0), 0);
        }
        MicroTasks x = Check.loaded(5, 6, 1);
        x.set(0, 77);
        x.store(0, 1 << 11 | 1);
        x.store(1, 1 << 9);
        x.run(1);
        Check.due("LOADT: T", x.register(T), 77);
        Check.due("LOADT: L", x.register(L), 6);
        Check.due("NEXT 1", x.task(0, 0), 1);
        x.run(1);
        Check.due("NEXT 512", x.task(0, 0), 512);
    }

    private static void storeRefuses() {
        Check.by("Promise 2: False: no such place");
        MicroTasks x = new MicroTasks();
        int[] edges = {0, 1, 1022, 1023};
        for (int place : edges) {
            x.store(place, Check.code(700 + place % 10).bits());
        }
        for (int place : Check.outside(1024)) {
            Check.due("store(" + place + ", ..)", x.store(place, Check.code(99).bits()), false);
        }
        for (int place : edges) {
            x.start(0, place);
            x.run(1);
            Check.due("the one at " + place + " is as before", x.task(0, 0), 700 + place % 10);
        }
        MicroTasks y = busy();
        int[] before = Check.told(y);
        y.store(-1, -1);
        y.store(1024, -1);
        Check.sameTold("store", before, Check.told(y));
    }

    /** The machine loads constant k into L. */
    private static int constantOf(MicroTasks x, int k) {
        x.store(0, Check.code(0).constant(k).loadL().bits());
        x.run(1);
        return x.register(L);
    }

    private static void constantTakesFirstAndLast() {
        Check.by("Promise 3: A constant (its lowest 16 bits)");
        MicroTasks x = new MicroTasks();
        Check.due("constant(0, 65535)", x.constant(0, 65535), true);
        Check.due("constant(255, 65536)", x.constant(255, 65536), true);
        Check.due("constant(254, 65537)", x.constant(254, 65537), true);
        Check.due("constant(1, -1)", x.constant(1, -1), true);
        Check.due("constant(2, -65536)", x.constant(2, -65536), true);
        Check.due("constant(3, 32768)", x.constant(3, 32768), true);
        Check.due("constant 0", constantOf(x, 0), 65535);
        Check.due("constant 255", constantOf(x, 255), 0);
        Check.due("constant 254", constantOf(x, 254), 1);
        Check.due("constant 1", constantOf(x, 1), 65535);
        Check.due("constant 2", constantOf(x, 2), 0);
        Check.due("constant 3", constantOf(x, 3), 32768);
    }

    private static void constantRefuses() {
        Check.by("Promise 3: False: none such");
        MicroTasks x = new MicroTasks();
        int[] edges = {0, 1, 254, 255};
        for (int k : edges) {
            x.constant(k, 500 + k);
        }
        for (int k : Check.outside(256)) {
            Check.due("constant(" + k + ", 9)", x.constant(k, 9), false);
        }
        for (int k : edges) {
            Check.due("constant " + k + " is as before", constantOf(x, k), 500 + k);
        }
        MicroTasks y = busy();
        int[] before = Check.told(y);
        y.constant(-1, 9);
        y.constant(256, 9);
        Check.sameTold("constant", before, Check.told(y));
    }

    private static void pokeTakesFirstAndLast() {
        Check.by("Promise 4: A place of memory");
        MicroTasks x = new MicroTasks();
        Check.due("poke(0, 65535)", x.poke(0, 65535), true);
        Check.due("poke(1023, 7)", x.poke(1023, 7), true);
        Check.due("peek(0)", x.peek(0), 65535);
        Check.due("peek(1)", x.peek(1), 0);
        Check.due("peek(1022)", x.peek(1022), 0);
        Check.due("peek(1023)", x.peek(1023), 7);
    }

    private static void pokeRefuses() {
        Check.by("Promise 4: False: none such");
        MicroTasks x = busy();
        int[] before = Check.told(x);
        for (int place : Check.outside(1024)) {
            Check.due("poke(" + place + ", 9)", x.poke(place, 9), false);
        }
        Check.sameTold("poke", before, Check.told(x));
    }

    private static void setTakesFirstAndLast() {
        Check.by("Promise 5: A register");
        MicroTasks x = new MicroTasks();
        Check.due("set(0, 65535)", x.set(0, 65535), true);
        Check.due("set(31, 7)", x.set(31, 7), true);
        Check.due("register(0)", x.register(0), 65535);
        Check.due("register(1)", x.register(1), 0);
        Check.due("register(30)", x.register(30), 0);
        Check.due("register(31)", x.register(31), 7);
    }

    private static void setRefuses() {
        Check.by("Promise 5: False: none such");
        MicroTasks x = busy();
        int[] before = Check.told(x);
        for (int k : Check.outside(32)) {
            Check.due("set(" + k + ", 9)", x.set(k, 9), false);
        }
        // what register answers, but set does not take
        Check.due("set(34, 9)", x.set(34, 9), false);
        Check.due("set(35, 9)", x.set(35, 9), false);
        Check.due("set(36, 9)", x.set(36, 9), false);
        Check.sameTold("set", before, Check.told(x));
    }

    private static void portTakesAll() {
        Check.by("Promise 6: The input");
        MicroTasks x = Check.machine(Check.code(0).bs(3).loadL());
        int[][] rows = {
            {65535, 65535}, {0, 0}, {32768, 32768}, {65536, 0}, {65537, 1}, {-1, 65535}, {-65536, 0},
            {Integer.MIN_VALUE, 0}, {Integer.MAX_VALUE, 65535}
        };
        for (int[] row : rows) {
            x.port(row[0]);
            x.run(1);
            Check.due("the input by port(" + row[0] + ")", x.register(L), row[1]);
        }
    }

    private static void wakeTakesFirstAndLast() {
        Check.by("Promise 7: A task's line is woken");
        MicroTasks x = new MicroTasks();
        x.wake(15);
        x.wake(1);
        for (int t = 0; t < 16; t++) {
            Check.due("task(" + t + ", 2)", x.task(t, 2), t == 0 || t == 1 || t == 15 ? 1 : 0);
        }
    }

    private static void wakeAnswersWhetherItWas() {
        Check.by("Promise 7: whether it was");
        MicroTasks x = new MicroTasks();
        Check.due("wake(0), the first time", x.wake(0), true);
        Check.due("wake(0), the second time", x.wake(0), true);
        Check.due("wake(1), the first time", x.wake(1), false);
        Check.due("wake(1), the second time", x.wake(1), true);
        Check.due("wake(15), the first time", x.wake(15), false);
        Check.due("wake(15), the second time", x.wake(15), true);
    }

    private static void wakeRefuses() {
        Check.by("Promise 7: False also: none such");
        MicroTasks x = busy();
        int[] before = Check.told(x);
        for (int t : Check.outside(16)) {
            Check.due("wake(" + t + ")", x.wake(t), false);
            Check.due("wake(" + t + "), the second time", x.wake(t), false);
        }
        Check.sameTold("wake", before, Check.told(x));
    }

    private static void startTakesFirstAndLast() {
        Check.by("Promise 8: A task's place");
        MicroTasks x = new MicroTasks();
        Check.due("start(0, 1023)", x.start(0, 1023), true);
        Check.due("start(15, 1023)", x.start(15, 1023), true);
        Check.due("start(14, 0)", x.start(14, 0), true);
        Check.due("task(0, 0)", x.task(0, 0), 1023);
        Check.due("task(1, 0)", x.task(1, 0), 0);
        Check.due("task(14, 0)", x.task(14, 0), 0);
        Check.due("task(15, 0)", x.task(15, 0), 1023);
        Check.due("start(15, 0)", x.start(15, 0), true);
        Check.due("task(15, 0)", x.task(15, 0), 0);
    }

    private static void startTakesTheChange() {
        Check.by("Promise 8: and no change");
        MicroTasks x = Check.machine(Check.code(4).bs(2).f2(4), Check.code(0), Check.code(0), Check.code(0), Check.code(8));
        x.run(1);
        Check.due("task(0, 1)", x.task(0, 1), 1023);
        // the place that it stands at already
        Check.due("start(0, 4)", x.start(0, 4), true);
        Check.due("task(0, 1)", x.task(0, 1), 0);
        Check.due("what it did stays told", x.task(0, 3), 1);
        x.run(1);
        Check.due("task(0, 0)", x.task(0, 0), 8);
    }

    private static void startRefusesTasks() {
        Check.by("Promise 8: False: none such");
        MicroTasks x = busy();
        int[] before = Check.told(x);
        for (int t : Check.outside(16)) {
            Check.due("start(" + t + ", 9)", x.start(t, 9), false);
        }
        Check.due("start(16, 1024)", x.start(16, 1024), false);
        Check.sameTold("start", before, Check.told(x));
    }

    private static void startRefusesPlaces() {
        Check.by("Promise 8: False: none such");
        MicroTasks x = busy();
        Check.due("a change stands", x.task(6, 1), 1023);
        int[] before = Check.told(x);
        for (int place : Check.outside(1024)) {
            Check.due("start(6, " + place + ")", x.start(6, place), false);
            Check.due("start(0, " + place + ")", x.start(0, place), false);
        }
        Check.sameTold("start", before, Check.told(x));
    }

    private static void runTakesFirstAndLast() {
        Check.by("Promise 9: 1 .. 5,000");
        MicroTasks x = new MicroTasks();
        Check.due("run(1)", x.run(1), 1);
        Check.due("count(0)", x.count(0), 1);
        Check.due("run(5000)", x.run(5000), 5000);
        Check.due("count(0)", x.count(0), 5001);
        Check.due("run(4999)", x.run(4999), 4999);
        Check.due("run(2)", x.run(2), 2);
        Check.due("count(0)", x.count(0), 10002);
        Check.due("task(0, 3)", x.task(0, 3), 10002);
    }

    private static void runAnswersNoneDone() {
        Check.by("Promise 9: how many instructions were done in them");
        MicroTasks x = Check.machine(Check.code(1).f1(1), Check.code(0).f1(1));
        Check.due("run(1)", x.run(1), 1);
        Check.due("run(4), all of them waited", x.run(4), 0);
        Check.due("run(1)", x.run(1), 1);
        Check.due("run(5000), one in five", x.run(5000), 1000);
    }

    private static void runRefuses() {
        Check.by("Promise 9: BAD: another number");
        MicroTasks x = busy();
        int[] before = Check.told(x);
        Check.refusedRuns(x);
        Check.sameTold("run", before, Check.told(x));
    }

    private static void registerTakesFirstAndLast() {
        Check.by("Promise 10: A register; 32 T, 33 L, 34 CARRY, 35 MAR");
        MicroTasks x = Check.loaded(301, 302, 1);
        x.set(0, 303);
        x.set(31, 304);
        x.set(1, 305);
        x.store(0, Check.code(1).rsel(1).f1(1).bits());
        x.run(1);
        int[][] rows = {{0, 303}, {1, 305}, {30, 0}, {31, 304}, {32, 301}, {33, 302}, {34, 1}, {35, 305}};
        for (int[] row : rows) {
            Check.due("register(" + row[0] + ")", x.register(row[0]), row[1]);
        }
    }

    private static void registerRefuses() {
        Check.by("Promise 10: BAD: none such");
        MicroTasks x = busy();
        for (int k : Check.outside(36)) {
            Check.due("register(" + k + ")", x.register(k), -1);
        }
    }

    private static void peekTakesFirstAndLast() {
        Check.by("Promise 11: A place of memory");
        MicroTasks x = busy();
        int[][] rows = {{0, 21}, {1, 22}, {2, 0}, {1021, 0}, {1022, 23}, {1023, 24}};
        for (int[] row : rows) {
            Check.due("peek(" + row[0] + ")", x.peek(row[0]), row[1]);
        }
    }

    private static void peekRefuses() {
        Check.by("Promise 11: BAD: none such");
        MicroTasks x = busy();
        for (int place : Check.outside(1024)) {
            Check.due("peek(" + place + ")", x.peek(place), -1);
        }
    }

    private static void taskTakesFirstAndLast() {
        Check.by("Promise 12: 0 its place, 1 its change, 2 whether it is woken, 3 how many instructions it did");
        MicroTasks x = busy();
        int[][] rows = {
            {0, 4, 1010, 1, 4}, {1, 601, 0, 0, 0}, {3, 603, 0, 1, 0}, {6, 607, 1023, 1, 1}, {15, 615, 0, 0, 0}
        };
        for (int[] row : rows) {
            for (int what = 0; what < 4; what++) {
                Check.due("task(" + row[0] + ", " + what + ")", x.task(row[0], what), row[what + 1]);
            }
        }
    }

    private static void taskRefusesTasks() {
        Check.by("Promise 12: BAD: none such");
        MicroTasks x = busy();
        for (int t : Check.outside(16)) {
            for (int what = 0; what < 4; what++) {
                Check.due("task(" + t + ", " + what + ")", x.task(t, what), -1);
            }
        }
    }

    private static void taskRefusesQuestions() {
        Check.by("Promise 12: BAD: none such");
        MicroTasks x = busy();
        for (int what : Check.outside(4)) {
            Check.due("task(0, " + what + ")", x.task(0, what), -1);
            Check.due("task(6, " + what + ")", x.task(6, what), -1);
            Check.due("task(15, " + what + ")", x.task(15, what), -1);
            Check.due("task(16, " + what + ")", x.task(16, what), -1);
        }
    }

    private static void nowTellsFirstAndLast() {
        Check.by("Promise 13: The task at hand");
        MicroTasks x = Check.machine(Check.code(1).f1(2), Check.code(0));
        Check.due("now()", x.now(), 0);
        x.wake(15);
        Check.due("now(), though 15 is woken", x.now(), 0);
        x.run(2);
        Check.due("now()", x.now(), 15);
    }

    /** Sends out 1, 2, 3 and so on, one in each cycle from the second one on. */
    private static MicroTasks counting() {
        MicroTasks x = Check.machine(Check.code(1).bs(6).aluf(5).loadL(), Check.code(1).bs(6).aluf(5).f1(8).loadL());
        x.run(1);
        return x;
    }

    private static void outIsEmptyAtFirst() {
        Check.by("Promise 14: The i-th word that went out .. BAD: none such");
        MicroTasks x = counting();
        Check.due("out(0), when none went out", x.out(0), -1);
        x.run(1);
        Check.due("out(0), when one went out", x.out(0), 1);
        Check.due("out(1), when one went out", x.out(1), -1);
        x.run(1);
        Check.due("out(1), when two went out", x.out(1), 2);
        Check.due("out(2), when two went out", x.out(2), -1);
    }

    private static void outKeepsTheFirst500() {
        Check.by("Promise 14: of the first 500");
        MicroTasks x = counting();
        x.run(499);
        Check.due("out(498), when 499 went out", x.out(498), 499);
        Check.due("out(499), when 499 went out", x.out(499), -1);
        x.run(1);
        Check.due("out(499), when 500 went out", x.out(499), 500);
        Check.due("out(500), when 500 went out", x.out(500), -1);
        x.run(1);
        Check.due("out(500), when 501 went out", x.out(500), -1);
        Check.due("out(499), when 501 went out", x.out(499), 500);
        Check.due("count(2)", x.count(2), 501);
        x.run(5000);
        Check.due("out(0), when 5501 went out", x.out(0), 1);
        Check.due("out(1), when 5501 went out", x.out(1), 2);
        Check.due("out(499), when 5501 went out", x.out(499), 500);
        Check.due("out(500), when 5501 went out", x.out(500), -1);
        Check.due("out(5500), when 5501 went out", x.out(5500), -1);
        Check.due("count(2)", x.count(2), 5501);
    }

    private static void outRefuses() {
        Check.by("Promise 14: BAD: none such");
        MicroTasks x = counting();
        x.run(600);
        for (int i : Check.outside(500)) {
            Check.due("out(" + i + ")", x.out(i), -1);
        }
        MicroTasks y = counting();
        y.run(3);
        for (int i : Check.outside(3)) {
            Check.due("out(" + i + "), when 3 went out", y.out(i), -1);
        }
    }

    private static void countTakesFirstAndLast() {
        Check.by("Promise 15: 0 cycles, 1 cycles that were waited, 2 words that went out, 3 times that another task came to hand");
        MicroTasks x = busy();
        int[] due = {7, 2, 2, 1};
        for (int what = 0; what < 4; what++) {
            Check.due("count(" + what + ")", x.count(what), due[what]);
        }
    }

    private static void countsAreNoWords() {
        Check.by("Promise 15: counts are numbers, not words of 16 bits");
        MicroTasks x = Check.machine(Check.code(0).f1(8));
        for (int i = 0; i < 14; i++) {
            x.run(5000);
        }
        Check.due("count(0)", x.count(0), 70000);
        Check.due("count(2)", x.count(2), 70000);
        Check.due("task(0, 3)", x.task(0, 3), 70000);
        MicroTasks y = Check.machine(Check.code(0).f1(1));
        for (int i = 0; i < 17; i++) {
            y.run(5000);
        }
        Check.due("count(1)", y.count(1), 68000);
        handoversAreNoBytes();
    }

    /** Each of them takes a wake, so that the calls of an object allow some hundreds. */
    private static void handoversAreNoBytes() {
        MicroTasks x = Check.machine(Check.code(1).f1(2), Check.code(0));
        x.start(1, 100);
        Check.storeFrom(x, 100, Check.code(101).f1(2), Check.code(100).f1(3));
        for (int i = 0; i < 200; i++) {
            x.wake(1);
            Check.due("run(4)", x.run(4), 4);
        }
        Check.due("count(3)", x.count(3), 400);
        Check.due("now()", x.now(), 0);
    }

    private static void countRefuses() {
        Check.by("Promise 15: BAD: another number");
        MicroTasks x = busy();
        for (int what : Check.outside(4)) {
            Check.due("count(" + what + ")", x.count(what), -1);
        }
    }

    private static void askingChangesNothing() {
        Check.by("Promises 10 to 15: calls that only ask");
        MicroTasks x = busy();
        int[] before = Check.told(x);
        for (int wrong : new int[] {-1, 1024, Integer.MAX_VALUE}) {
            x.register(wrong);
            x.peek(wrong);
            x.task(wrong, 0);
            x.task(0, wrong);
            x.out(wrong);
            x.count(wrong);
        }
        Check.sameTold("asking", before, Check.told(x));
    }

    private static void lastPromisedCall() {
        Check.by("An object is used for at most 512 calls after it has been made");
        MicroTasks x = new MicroTasks();
        for (int i = 1; i < 512; i++) {
            Check.due("run(5000), call " + i, x.run(5000), 5000);
        }
        Check.due("count(0), call 512", x.count(0), 511 * 5000);
    }
}
