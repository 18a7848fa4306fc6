/** The edges of how long the memory lets wait, a method for each sentence about waiting. */
public final class WaitEdgesTest {
    private static final int T = 32;
    private static final int MAR = 35;

    /** The place of an instruction that is looked at. */
    private static final int LOOKED_AT = 100;

    public static void main(String[] args) {
        beginWaitsBelowFive();
        readWaitsBelowFour();
        writeWaitsBelowTwo();
        constantsDoNotWait();
        theLongestWaitCounts();
        othersDoNotWait();
        neverBeganOnTheFirstCycle();
        neverBeganLater();
        countsFromTheLastOne();
        readsAndWritesBeginNone();
        waitingBeginsNone();
        waitedCyclesGoBy();
        nothingIsDone();
        callsBetweenAreSeen();
        runsDoNotMatter();
        tasksDoNotMatter();
        longAgoIsNoWait();
        Check.end();
    }

    private static Check.Code looked() {
        return Check.code(LOOKED_AT + 1);
    }

    /** Whether the instruction is done, rather than waited for, that many cycles behind the beginning of a memory cycle. */
    private static boolean isDone(Check.Code code, int cyclesAgo) {
        MicroTasks x = Check.machine(Check.code(1).f1(1), Check.code(1));
        x.store(LOOKED_AT, code.bits());
        Check.due("run(" + cyclesAgo + ")", x.run(cyclesAgo), cyclesAgo);
        x.start(0, LOOKED_AT);
        int done = x.run(1);
        Check.due("cycles that were waited", x.count(1), 1 - done);
        Check.due("the place", x.task(0, 0), LOOKED_AT + done);
        return done == 1;
    }

    private static void doneFrom(String name, int f1, int bs, int f2, int first) {
        for (int ago : new int[] {1, 2, 3, 4, 5, 6, 7, 8, 9, 10, 100, 5000}) {
            Check.due(name + ", " + ago + " cycles ago", isDone(looked().f1(f1).bs(bs).f2(f2), ago), ago >= first);
        }
    }

    private static void beginWaitsBelowFive() {
        Check.by("IT WAITS: F1 1, if the last memory cycle began less than 5 cycles ago");
        doneFrom("F1 1", 1, 0, 0, 5);
    }

    private static void readWaitsBelowFour() {
        Check.by("IT WAITS: BS 5 less than 4");
        doneFrom("BS 5", 0, 5, 0, 4);
    }

    private static void writeWaitsBelowTwo() {
        Check.by("IT WAITS: F2 6 less than 2");
        doneFrom("F2 6", 0, 0, 6, 2);
    }

    private static void constantsDoNotWait() {
        Check.by("IT WAITS: BS 5 (if there is no constant)");
        doneFrom("BS 5, F1 7", 7, 5, 0, 1);
        doneFrom("BS 5, F2 7", 0, 5, 7, 1);
        doneFrom("BS 5, F1 7, F2 7", 7, 5, 7, 1);
        doneFrom("BS 5, F1 7, F2 6", 7, 5, 6, 2);
        doneFrom("BS 5, F1 1, F2 7", 1, 5, 7, 5);
    }

    private static void theLongestWaitCounts() {
        Check.by("IT WAITS: F1 1 .. 5; BS 5 .. 4; F2 6 .. 2");
        doneFrom("F1 1, BS 5", 1, 5, 0, 5);
        doneFrom("F1 1, F2 6", 1, 0, 6, 5);
        doneFrom("BS 5, F2 6", 0, 5, 6, 4);
        doneFrom("F1 1, BS 5, F2 6", 1, 5, 6, 5);
    }

    private static void othersDoNotWait() {
        Check.by("IT WAITS: F1 1; BS 5; F2 6");
        for (int f = 0; f < 16; f++) {
            Check.due("F1 " + f, isDone(looked().f1(f), 1), f != 1);
            Check.due("F2 " + f, isDone(looked().f2(f), 1), f != 6);
        }
        for (int bs = 0; bs < 8; bs++) {
            Check.due("BS " + bs, isDone(looked().bs(bs), 1), bs != 5);
        }
        Check.due("ALUF, RSEL, LOADT and LOADL", isDone(looked().rsel(31).aluf(15).loadT().loadL(), 1), true);
    }

    private static void neverBeganOnTheFirstCycle() {
        Check.by("Promise 1: no memory cycle ever began");
        Check.Code[] users = {looked().f1(1), looked().bs(5), looked().f2(6), looked().f1(1).bs(5).f2(6)};
        for (Check.Code user : users) {
            MicroTasks x = Check.machine(user);
            Check.due("run(1)", x.run(1), 1);
            Check.due("count(1)", x.count(1), 0);
        }
    }

    private static void neverBeganLater() {
        Check.by("Promise 1: no memory cycle ever began");
        for (int cycles = 1; cycles < 8; cycles++) {
            MicroTasks x = Check.machine(Check.code(0));
            x.run(cycles);
            x.poke(0, 4321);
            x.store(0, Check.code(1).bs(5).loadT().bits());
            x.store(1, Check.code(2).f2(6).bits());
            x.store(2, Check.code(3).f1(1).bits());
            Check.due("run(3) behind " + cycles, x.run(3), 3);
            Check.due("T is memory at MAR 0", x.register(T), 4321);
            Check.due("count(1)", x.count(1), 0);
        }
    }

    private static void countsFromTheLastOne() {
        Check.by("the last memory cycle began");
        // the first begins in cycle 0, the second in 5; so the read is done in 9
        MicroTasks x = Check.machine(Check.code(1).f1(1), Check.code(2).f1(1), Check.code(3).bs(5), Check.code(3));
        int[] due = {1, 0, 0, 0, 0, 1, 0, 0, 0, 1, 1};
        for (int cycle = 0; cycle < due.length; cycle++) {
            Check.due("cycle " + cycle, x.run(1), due[cycle]);
        }
    }

    private static void readsAndWritesBeginNone() {
        Check.by("F1: 1 MAR becomes the ALU: a memory cycle begins");
        // behind the cycle that begins: a write in 2, a read in 4, another begins in 5
        MicroTasks x = Check.machine(Check.code(1).f1(1), Check.code(2).f2(6), Check.code(3).bs(5), Check.code(4).f1(1));
        int[] due = {1, 0, 1, 0, 1, 1};
        for (int cycle = 0; cycle < due.length; cycle++) {
            Check.due("cycle " + cycle, x.run(1), due[cycle]);
        }
        // nor in a new object
        MicroTasks y = Check.machine(Check.code(1).bs(5), Check.code(2).f2(6), Check.code(3).bs(5), Check.code(4).f1(1));
        Check.due("run(4)", y.run(4), 4);
    }

    private static void waitingBeginsNone() {
        Check.by("IT WAITS (a cycle goes by, and nothing is done)");
        MicroTasks x = Check.machine(Check.code(1).rsel(1).f1(1), Check.code(2).rsel(2).f1(1), Check.code(2));
        x.set(1, 11);
        x.set(2, 22);
        int[] mars = {11, 11, 11, 11, 11, 22};
        for (int cycle = 0; cycle < mars.length; cycle++) {
            x.run(1);
            Check.due("MAR behind cycle " + cycle, x.register(MAR), mars[cycle]);
        }
    }

    private static void waitedCyclesGoBy() {
        Check.by("IT WAITS (a cycle goes by ..)");
        MicroTasks x = Check.machine(Check.code(0).f1(1));
        Check.due("run(1)", x.run(1), 1);
        Check.due("run(4)", x.run(4), 0);
        Check.due("count(0)", x.count(0), 5);
        Check.due("count(1)", x.count(1), 4);
        Check.due("run(1)", x.run(1), 1);
        Check.due("count(0)", x.count(0), 6);
        Check.due("count(1)", x.count(1), 4);
        Check.due("task(0, 3)", x.task(0, 3), 2);
    }

    private static void nothingIsDone() {
        Check.by("IT WAITS (.. nothing is done)");
        MicroTasks x = Check.loaded(3, 4, 1);
        x.wake(9);
        x.set(8, 999);
        // a change and a TASK stand, and the next one would do all that it can
        Check.storeFrom(x, 0,
                Check.code(1).rsel(8).f1(1),
                Check.code(2).f1(2).bs(2).f2(4),
                Check.code(3).rsel(8).bs(5).aluf(10).f1(8).f2(6).loadT().loadL());
        x.poke(999, 5);
        x.run(2);
        int[] before = Check.told(x);
        Check.due("run(2)", x.run(2), 0);
        // the counts of cycles stand behind 36 registers and 64 answers of tasks
        before[36 + 64] += 2;
        before[36 + 64 + 1] += 2;
        Check.sameTold("waiting", before, Check.told(x));
        Check.due("peek(999)", x.peek(999), 5);
        Check.due("run(1)", x.run(1), 1);
        Check.due("then all is done: now()", x.now(), 9);
        Check.due("task(0, 0)", x.task(0, 0), 1023);
        Check.due("out(0)", x.out(0), 5);
        Check.due("T", x.register(T), 9);
    }

    private static void callsBetweenAreSeen() {
        Check.by("In a CYCLE the task at hand does the one at its place, all from what was before");
        MicroTasks x = Check.machine(Check.code(1).f1(1), Check.code(2).bs(5).loadT());
        x.poke(0, 11);
        x.run(1);
        Check.due("run(2)", x.run(2), 0);
        x.poke(0, 22);
        Check.due("run(2)", x.run(2), 1);
        Check.due("T", x.register(T), 22);
        MicroTasks y = Check.machine(Check.code(1).f1(1), Check.code(2).bs(5));
        y.run(2);
        // another one stands at its place: it need not wait
        y.store(1, Check.code(7).bits());
        Check.due("run(1)", y.run(1), 1);
        Check.due("task(0, 0)", y.task(0, 0), 7);
    }

    private static void runsDoNotMatter() {
        Check.by("Promise 9: So many cycles");
        Check.Code[] codes = {Check.code(1).f1(1), Check.code(2).f2(6), Check.code(0).bs(5)};
        MicroTasks x = Check.machine(codes);
        MicroTasks y = Check.machine(codes);
        int done = 0;
        for (int cycle = 0; cycle < 100; cycle++) {
            done += x.run(1);
        }
        Check.due("a hundred runs of 1, as one of 100", done, y.run(100));
        // five cycles for each round of three
        Check.due("done", done, 60);
        Check.due("count(1)", x.count(1), 40);
        Check.due("count(1)", y.count(1), 40);
    }

    private static void tasksDoNotMatter() {
        Check.by("the last memory cycle began less than .. cycles ago");
        // task 0 begins, task 2 reads
        MicroTasks x = Check.machine(Check.code(1).f1(2), Check.code(2).f1(1));
        x.wake(2);
        x.start(2, 200);
        Check.storeFrom(x, 200, Check.code(201).bs(5), Check.code(202).f1(1));
        int[] due = {1, 1, 0, 0, 0, 1, 1, 1};
        for (int cycle = 0; cycle < due.length; cycle++) {
            Check.due("cycle " + cycle, x.run(1), due[cycle]);
        }
        Check.due("now()", x.now(), 2);
        Check.due("task(2, 3)", x.task(2, 3), 3);
    }

    private static void longAgoIsNoWait() {
        Check.by("the last memory cycle began less than 5 cycles ago");
        MicroTasks x = Check.machine(Check.code(1).f1(1), Check.code(1));
        for (int i = 0; i < 13; i++) {
            x.run(5000);
        }
        // 65537 cycles ago: a count of 16 bits would say 1
        x.run(537);
        x.start(0, 0);
        Check.due("run(1)", x.run(1), 1);
        Check.due("count(1)", x.count(1), 0);
    }
}
