/** Promise 9: how many cycles a run may have, and what a cycle does. */
public final class CycleTest {
    private static final int T = 32;
    private static final int L = 33;
    private static final int CARRY = 34;
    private static final int MAR = 35;

    public static void main(String[] args) {
        runBounds();
        shifts();
        busSources();
        constantsOnTheBus();
        aluResults();
        loadsOnlyWhereSaid();
        changes();
        otherF2MakeNoChange();
        branchesComeLate();
        changeBelongsToItsTask();
        allFromWhatWasBefore();
        memoryAddresses();
        waitsToBegin();
        waitsToRead();
        waitsToWrite();
        waitedCyclesDoNothing();
        noWaitForOthers();
        outTakesTheBus();
        taskComesOneLate();
        taskTwice();
        taskAcrossHandover();
        waitsPutTaskOff();
        blockBeforeHandover();
        blockAlone();
        taskZeroCannotBlock();
        Check.end();
    }

    private static void runBounds() {
        MicroTasks x = new MicroTasks();
        Check.refusedRuns(x);
        Check.due("no cycle went by", x.count(0), 0);
        Check.due("run(1)", x.run(1), 1);
        Check.due("run(5000)", x.run(5000), 5000);
        Check.due("count(0)", x.count(0), 5001);
        x.store(0, Check.code(0).f1(1).bits());
        // one in five begins: cycles 0, 5, .. of 12
        Check.due("run(12)", x.run(12), 3);
        Check.due("count(1)", x.count(1), 9);
        Check.due("task(0, 3)", x.task(0, 3), 5004);
    }

    private static void shifts() {
        int[][] rows = {
            {0x8001, 0, 0x8001}, {0x8001, 4, 0x0002}, {0x8001, 5, 0x4000}, {0x8001, 6, 0x0180},
            {0xFFFF, 4, 0xFFFE}, {0xFFFF, 5, 0x7FFF}, {0xFFFF, 6, 0xFFFF}, {0x12CD, 6, 0xCD12},
            {0x12CD, 1, 0x12CD}, {0x12CD, 2, 0x12CD}, {0x12CD, 3, 0x12CD}, {0x12CD, 8, 0x12CD},
            {0x12CD, 9, 0x12CD}, {0x12CD, 15, 0x12CD}
        };
        for (int[] row : rows) {
            MicroTasks x = Check.loaded(0, row[0], 0);
            x.store(0, Check.code(1).rsel(30).bs(1).f1(row[1]).bits());
            x.run(1);
            Check.due("L " + row[0] + " by F1 " + row[1], x.register(30), row[2]);
            Check.due("L itself stays", x.register(L), row[0]);
        }
    }

    private static void busSources() {
        int[] due = {0x0A0A, 0, 0xFFFF, 0x0B0B, 5, 0x0C0C, 0x0D0D, 0x0402};
        for (int bs = 0; bs < 8; bs++) {
            MicroTasks x = Check.loaded(0, 0x0D0D, 0);
            x.set(20, 0x0A0A);
            x.set(21, 0x0402);
            x.port(0x0B0B);
            x.poke(2, 0x0C0C);
            x.wake(5);
            x.start(5, 100);
            Check.storeFrom(x, 0, Check.code(1).rsel(21).f1(1), Check.code(2).f1(2), Check.code(3));
            Check.storeFrom(x, 100, Check.code(101), Check.code(102), Check.code(103).rsel(20).bs(bs).loadT());
            x.run(6);
            Check.due("the bus by BS " + bs, x.register(T), due[bs]);
            Check.due("register 20 by BS " + bs, x.register(20), bs == 1 ? 0x0D0D : 0x0A0A);
        }
    }

    private static void constantsOnTheBus() {
        int[][] byFs = {{7, 0}, {0, 7}, {7, 7}, {8, 7}, {7, 3}};
        for (int[] fs : byFs) {
            for (int bs = 0; bs < 8; bs++) {
                MicroTasks x = Check.loaded(0, 0x0D0D, 0);
                x.set(20, 0x0A0A);
                x.constant(8 * 20 + bs, 0x4000 + bs);
                x.store(0, Check.code(1).rsel(20).bs(bs).f1(fs[0]).f2(fs[1]).loadT().bits());
                x.run(1);
                Check.due("constant by BS " + bs + ", F1 " + fs[0] + ", F2 " + fs[1], x.register(T), 0x4000 + bs);
                Check.due("no register is loaded", x.register(20), 0x0A0A);
            }
        }
    }

    /** Rows: ALUF, BUS, T, CARRY before, ALU, its carry. */
    private static final int[][] ALU = {
        {0, 0x1234, 0xFFFF, 1, 0x1234, 0},
        {1, 0x1234, 0xFF00, 1, 0xFF00, 0},
        {2, 0x1234, 0xFF00, 1, 0xFF34, 0},
        {3, 0x1234, 0xFF00, 1, 0x1200, 0},
        {4, 0x1234, 0xFF00, 1, 0xED34, 0},
        {5, 0x1234, 0xFFFF, 1, 0x1235, 0}, {5, 0xFFFF, 0, 0, 0, 1}, {5, 0xFFFE, 0, 0, 0xFFFF, 0},
        {6, 0x1234, 0xFFFF, 0, 0x1233, 1}, {6, 0, 0, 1, 0xFFFF, 0}, {6, 1, 9, 0, 0, 1},
        {7, 0x1234, 0x1111, 1, 0x2345, 0}, {7, 0xFFFF, 1, 0, 0, 1}, {7, 0xFFFF, 0xFFFF, 0, 0xFFFE, 1},
        {7, 0xFFFE, 1, 1, 0xFFFF, 0},
        {8, 5, 3, 0, 2, 1}, {8, 3, 3, 0, 0, 1}, {8, 2, 3, 1, 0xFFFF, 0}, {8, 0, 0, 0, 0, 1},
        {8, 0xFFFF, 0xFFFF, 0, 0, 1}, {8, 0, 0xFFFF, 1, 1, 0}, {8, 0xFFFF, 0, 0, 0xFFFF, 1},
        {9, 5, 3, 0, 1, 1}, {9, 4, 3, 0, 0, 1}, {9, 3, 3, 1, 0xFFFF, 0}, {9, 0, 0, 1, 0xFFFF, 0},
        {9, 0xFFFF, 0xFFFF, 1, 0xFFFF, 0}, {9, 0, 0xFFFF, 1, 0, 0}, {9, 0xFFFF, 0, 0, 0xFFFE, 1},
        {10, 5, 3, 1, 9, 0}, {10, 0xFFFF, 0, 0, 0, 1}, {10, 0xFFFF, 0xFFFF, 0, 0xFFFF, 1},
        {10, 0xFFFE, 0, 1, 0xFFFF, 0},
        {11, 5, 3, 1, 6, 0}, {11, 5, 3, 0, 5, 0}, {11, 0xFFFF, 3, 1, 0, 1}, {11, 0xFFFF, 3, 0, 0xFFFF, 0},
        {12, 0x1234, 0xFF00, 1, 0x1200, 0},
        {13, 0x1234, 0xFF00, 1, 0x0034, 0}, {13, 0xFFFF, 0, 1, 0xFFFF, 0},
        {14, 0x1234, 0xFF00, 1, 0, 0},
        {15, 0x1234, 0xFF00, 1, 0, 0},
    };

    private static void aluResults() {
        for (int[] row : ALU) {
            String name = "ALUF " + row[0] + " of " + row[1] + " and " + row[2] + ", carry " + row[3];
            MicroTasks x = Check.loaded(row[2], 0x5555, row[3]);
            x.constant(9, row[1]);
            x.store(0, Check.code(1).constant(9).aluf(row[0]).loadL().loadT().bits());
            x.run(1);
            Check.due(name + ": L", x.register(L), row[4]);
            Check.due(name + ": CARRY", x.register(CARRY), row[5]);
            Check.due(name + ": T", x.register(T), givesAlu(row[0]) ? row[4] : row[1]);
        }
    }

    private static boolean givesAlu(int aluf) {
        return " 0 2 5 6 10 11 12 ".contains(" " + aluf + " ");
    }

    private static void loadsOnlyWhereSaid() {
        MicroTasks x = Check.loaded(0x0101, 0x0202, 1);
        x.constant(9, 0x0303);
        x.store(0, Check.code(1).constant(9).aluf(7).bits());
        x.store(1, Check.code(2).constant(9).aluf(7).loadT().bits());
        x.store(2, Check.code(3).constant(9).aluf(7).loadL().bits());
        int[][] due = {{0x0101, 0x0202, 1}, {0x0303, 0x0202, 1}, {0x0303, 0x0606, 0}};
        for (int[] row : due) {
            x.run(1);
            Check.due("T", x.register(T), row[0]);
            Check.due("L", x.register(L), row[1]);
            Check.due("CARRY", x.register(CARRY), row[2]);
        }
    }

    /** Rows: F2, F1, BUS, L, CARRY, input, the change. */
    private static final int[][] CHANGES = {
        {1, 0, 0, 5, 0, 0, 1}, {1, 0, 1, 0, 0, 0, 0}, {1, 0, 0x8000, 0, 1, 1, 0},
        {2, 0, 0, 0x8000, 0, 0, 1}, {2, 0, 0xFFFF, 0x7FFF, 1, 1, 0}, {2, 4, 0, 0x4000, 0, 0, 1},
        {2, 4, 0, 0x8000, 0, 0, 0}, {2, 5, 0, 0xFFFF, 0, 0, 0}, {2, 6, 0, 0x0080, 0, 0, 1},
        {3, 0, 7, 0, 0, 0, 1}, {3, 0, 0, 1, 0, 0, 0}, {3, 4, 7, 0x8000, 0, 0, 1}, {3, 5, 7, 1, 0, 0, 1},
        {3, 6, 0, 0x0100, 0, 0, 0},
        {4, 0, 0x03FF, 0, 0, 0, 0x03FF}, {4, 0, 0xFC00, 0, 0, 0, 0}, {4, 0, 0xFE01, 0, 0, 0, 0x0201},
        {5, 0, 0, 0, 1, 0, 1}, {5, 0, 0xFFFF, 0xFFFF, 0, 1, 0},
        {8, 0, 0, 0, 0, 1, 1}, {8, 0, 0, 0, 0, 0xFFFF, 1}, {8, 0, 0xFFFF, 0xFFFF, 1, 0xFFFE, 0},
    };

    private static void changes() {
        for (int[] row : CHANGES) {
            MicroTasks x = Check.loaded(0, row[3], row[4]);
            x.set(20, row[2]);
            x.port(row[5]);
            x.store(0, Check.code(8).rsel(20).f1(row[1]).f2(row[0]).bits());
            x.store(8, Check.code(256).bits());
            x.run(1);
            String name = "F2 " + row[0] + ", F1 " + row[1] + ", BUS " + row[2] + ", L " + row[3];
            Check.due(name + ": change", x.task(0, 1), row[6]);
            Check.due(name + ": its own place", x.task(0, 0), 8);
            x.run(1);
            Check.due(name + ": the place after it", x.task(0, 0), 256 | row[6]);
            Check.due(name + ": then no change", x.task(0, 1), 0);
        }
    }

    private static void otherF2MakeNoChange() {
        int[] others = {0, 6, 7, 9, 10, 11, 12, 13, 14, 15};
        for (int f2 : others) {
            MicroTasks x = Check.loaded(0xFFFF, 0x8000, 1);
            x.port(0xFFFF);
            x.store(0, Check.code(8).bs(2).f2(f2).bits());
            x.store(8, Check.code(256).bits());
            x.constant(2, 0xFFFF);
            x.run(1);
            Check.due("F2 " + f2 + ": change", x.task(0, 1), 0);
            x.run(1);
            Check.due("F2 " + f2 + ": the place after it", x.task(0, 0), 256);
        }
    }

    private static void branchesComeLate() {
        MicroTasks x = Check.machine(
                Check.code(2).bs(1).f2(1),
                Check.code(0),
                Check.code(4).bs(1).f2(1),
                Check.code(0),
                Check.code(0),
                Check.code(6));
        int[][] due = {{2, 1}, {5, 1}, {7, 0}, {0, 0}};
        for (int[] row : due) {
            x.run(1);
            Check.due("place", x.task(0, 0), row[0]);
            Check.due("change", x.task(0, 1), row[1]);
        }
        orDoesNotAdd();
    }

    private static void orDoesNotAdd() {
        MicroTasks x = Check.machine(Check.code(1).bs(1).f2(1), Check.code(3));
        x.run(2);
        Check.due("3 or 1", x.task(0, 0), 3);
    }

    private static void changeBelongsToItsTask() {
        MicroTasks x = Check.machine(
                Check.code(1).f1(2),
                Check.code(2).bs(1).f2(1),
                Check.code(64));
        x.wake(7);
        x.start(7, 100);
        Check.storeFrom(x, 100, Check.code(102).f1(2), Check.code(0), Check.code(104).f1(3), Check.code(0));
        x.run(2);
        Check.due("task 7 is at hand", x.now(), 7);
        Check.due("task 0 keeps its change", x.task(0, 1), 1);
        x.run(1);
        Check.due("task 7 goes without it", x.task(7, 0), 102);
        Check.due("task 0 keeps its change", x.task(0, 1), 1);
        x.run(1);
        Check.due("task 0 is at hand", x.now(), 0);
        x.run(1);
        Check.due("task 0 goes with it", x.task(0, 0), 65);
        Check.due("task 0 has done", x.task(0, 3), 3);
        Check.due("task 7 has done", x.task(7, 3), 2);
    }

    private static void allFromWhatWasBefore() {
        MicroTasks x = Check.loaded(7, 0x00F0, 1);
        x.set(20, 0xFFFF);
        // L becomes 0 + 7, CARRY 0, T 0; the register and the change take what was before
        x.store(0, Check.code(1).rsel(20).bs(1).aluf(7).f1(4).f2(5).loadT().loadL().bits());
        x.run(1);
        Check.due("register 20 from the old L", x.register(20), 0x01E0);
        Check.due("change from the old CARRY", x.task(0, 1), 1);
        Check.due("L from the old T", x.register(L), 7);
        Check.due("T", x.register(T), 0);
        Check.due("CARRY", x.register(CARRY), 0);
        marFromBefore();
    }

    private static void marFromBefore() {
        MicroTasks x = new MicroTasks();
        x.set(1, 10);
        x.set(2, 20);
        x.poke(10, 777);
        x.poke(20, 888);
        Check.storeFrom(x, 0,
                Check.code(1).rsel(1).f1(1),
                Check.code(2).rsel(2).f1(1).f2(6),
                Check.code(3).bs(7).aluf(5).f1(1).loadL(),
                Check.code(4).bs(5).f1(1).loadL());
        x.run(6);
        Check.due("the write goes to the old MAR", x.peek(10), 20);
        Check.due("and not to the new one", x.peek(20), 888);
        Check.due("MAR", x.register(MAR), 20);
        x.run(5);
        Check.due("MAR + 1 of the old MAR", x.register(MAR), 21);
        x.poke(21, 999);
        x.run(5);
        Check.due("memory at the old MAR is the new MAR", x.register(MAR), 999);
        Check.due("and L", x.register(L), 999);
    }

    private static void memoryAddresses() {
        MicroTasks x = new MicroTasks();
        x.set(1, 0xFFFF);
        x.poke(1023, 55);
        Check.storeFrom(x, 0,
                Check.code(1).rsel(1).f1(1),
                Check.code(2).bs(5).loadT(),
                Check.code(3).rsel(2).f2(6),
                Check.code(3));
        x.set(2, 66);
        x.run(6);
        Check.due("memory at 65535 is at 1023", x.register(T), 55);
        Check.due("written there", x.peek(1023), 66);
        Check.due("MAR has all its bits", x.register(MAR), 0xFFFF);
        constantIntoMemory();
    }

    private static void constantIntoMemory() {
        MicroTasks x = Check.machine(Check.code(1).rsel(2).bs(5).f1(7).f2(6));
        x.constant(21, 4321);
        Check.due("run(1)", x.run(1), 1);
        Check.due("a constant is written", x.peek(0), 4321);
    }

    /** An instruction is stored behind a memory cycle and some idle ones: how many cycles it waits. */
    private static int waitsOf(Check.Code code, int idle) {
        MicroTasks x = new MicroTasks();
        x.store(0, Check.code(1).f1(1).bits());
        for (int i = 1; i <= idle; i++) {
            x.store(i, Check.code(i + 1).bits());
        }
        x.store(idle + 1, code.bits());
        Check.due("the idle ones are done", x.run(1 + idle), 1 + idle);
        for (int i = 0; i < 20; i++) {
            if (x.run(1) == 1) {
                return x.count(1);
            }
        }
        return -1;
    }

    private static void waitsOfAll(String name, int f1, int bs, int f2, int rest) {
        for (int idle = 0; idle < 7; idle++) {
            Check.Code code = Check.code(100).f1(f1).bs(bs).f2(f2);
            Check.due(name + " behind " + idle, waitsOf(code, idle), Math.max(0, rest - 1 - idle));
        }
    }

    private static void waitsToBegin() {
        waitsOfAll("F1 1", 1, 0, 0, 5);
        waitsOfAll("F1 1 with BS 5", 1, 5, 0, 5);
        waitsOfAll("F1 1 with F2 6", 1, 0, 6, 5);
        waitsOfAll("F1 1 with a constant", 1, 5, 7, 5);
    }

    private static void waitsToRead() {
        waitsOfAll("BS 5", 0, 5, 0, 4);
        waitsOfAll("BS 5 with F2 6", 0, 5, 6, 4);
        waitsOfAll("BS 5, F2 7", 0, 5, 7, 1);
        waitsOfAll("BS 5, F1 7", 7, 5, 0, 1);
    }

    private static void waitsToWrite() {
        waitsOfAll("F2 6", 0, 0, 6, 2);
        waitsOfAll("F2 6, F1 7", 7, 5, 6, 2);
    }

    private static void waitedCyclesDoNothing() {
        MicroTasks x = Check.loaded(3, 4, 1);
        Check.storeFrom(x, 0,
                Check.code(1).f1(1).bs(2).f2(4),
                Check.code(2).rsel(1).bs(5).aluf(5).f1(8).f2(4).loadT().loadL());
        x.run(1);
        Check.due("run(3)", x.run(3), 0);
        Check.due("T", x.register(T), 3);
        Check.due("L", x.register(L), 4);
        Check.due("CARRY", x.register(CARRY), 1);
        Check.due("place", x.task(0, 0), 1);
        Check.due("change", x.task(0, 1), 1023);
        Check.due("instructions", x.task(0, 3), 4);
        Check.due("words out", x.count(2), 0);
        Check.due("cycles", x.count(0), 7);
        Check.due("cycles waited", x.count(1), 3);
        Check.due("run(1)", x.run(1), 1);
        Check.due("place", x.task(0, 0), 1023);
        Check.due("words out", x.count(2), 1);
        Check.due("T", x.register(T), 1);
    }

    private static void noWaitForOthers() {
        for (int bs = 0; bs < 8; bs++) {
            if (bs != 5) {
                Check.due("BS " + bs, waitsOf(Check.code(100).bs(bs), 0), 0);
            }
        }
        for (int f = 2; f < 16; f++) {
            Check.due("F1 " + f, waitsOf(Check.code(100).f1(f), 0), 0);
            if (f != 6) {
                Check.due("F2 " + f, waitsOf(Check.code(100).f2(f), 0), 0);
            }
        }
    }

    private static void outTakesTheBus() {
        MicroTasks x = Check.loaded(5, 9, 0);
        x.set(3, 0xFFFF);
        x.store(0, Check.code(1).rsel(3).aluf(5).f1(8).loadL().bits());
        x.store(1, Check.code(2).constant(40).f1(8).bits());
        x.constant(40, 123);
        x.run(2);
        Check.due("out(0)", x.out(0), 0xFFFF);
        Check.due("out(1)", x.out(1), 123);
        for (int f1 = 0; f1 < 16; f1++) {
            MicroTasks y = Check.machine(Check.code(0).f1(f1));
            y.run(1);
            Check.due("words out by F1 " + f1, y.count(2), f1 == 8 ? 1 : 0);
        }
    }

    private static void handIs(String name, MicroTasks x, int... hands) {
        for (int i = 0; i < hands.length; i++) {
            x.run(1);
            Check.due(name + ": task at hand behind " + (i + 1), x.now(), hands[i]);
        }
    }

    private static void taskComesOneLate() {
        MicroTasks x = Check.machine(Check.code(1).f1(2), Check.code(2), Check.code(3).f1(2), Check.code(4), Check.code(5));
        handIs("nobody else is woken", x, 0, 0, 0, 0);
        Check.due("nobody else came to hand", x.count(3), 0);
        MicroTasks y = Check.machine(Check.code(1).f1(2), Check.code(2), Check.code(3));
        y.wake(4);
        y.run(1);
        // woken before the next instruction is done: it counts
        y.wake(11);
        y.start(4, 100);
        y.start(11, 100);
        handIs("the greatest one", y, 11, 11, 11);
        Check.due("came to hand", y.count(3), 1);
        Check.due("task 0 stays where it was", y.task(0, 0), 2);
        for (int f1 = 0; f1 < 16; f1++) {
            MicroTasks z = Check.machine(Check.code(1).f1(f1), Check.code(1));
            z.wake(1);
            z.run(2);
            Check.due("now() by F1 " + f1, z.now(), f1 == 2 ? 1 : 0);
        }
    }

    private static void taskTwice() {
        MicroTasks x = Check.machine(Check.code(1).f1(2), Check.code(2).f1(2), Check.code(3));
        x.start(6, 100);
        x.start(8, 200);
        x.wake(6);
        Check.storeFrom(x, 100, Check.code(101), Check.code(102));
        handIs("the first TASK", x, 0, 6);
        x.wake(8);
        handIs("the second TASK, behind one of task 6", x, 8, 8);
        Check.due("task 6 did", x.task(6, 3), 1);
        Check.due("came to hand", x.count(3), 2);
    }

    private static void taskAcrossHandover() {
        MicroTasks x = Check.machine(Check.code(1).f1(2), Check.code(2).f1(2), Check.code(3));
        x.start(6, 100);
        x.wake(6);
        Check.storeFrom(x, 100, Check.code(101).f1(3), Check.code(102));
        handIs("task 6 blocks in its first one", x, 0, 6, 0, 0);
        Check.due("came to hand", x.count(3), 2);
        Check.due("task 6 is not woken", x.task(6, 2), 0);
    }

    private static void waitsPutTaskOff() {
        MicroTasks x = Check.machine(Check.code(1).f1(1), Check.code(2).f1(2), Check.code(3).bs(5), Check.code(4));
        x.wake(2);
        handIs("TASK before a wait", x, 0, 0, 0, 0, 2);
        Check.due("cycles waited", x.count(1), 2);
    }

    private static void blockBeforeHandover() {
        MicroTasks x = Check.machine(Check.code(1).f1(2), Check.code(0));
        x.wake(3);
        x.wake(12);
        x.start(3, 200);
        x.start(12, 100);
        Check.storeFrom(x, 100, Check.code(101).f1(2), Check.code(102).f1(3));
        Check.storeFrom(x, 200, Check.code(200));
        handIs("task 12 blocks", x, 0, 12, 12, 3);
        Check.due("task(12, 2)", x.task(12, 2), 0);
        Check.due("task(3, 2)", x.task(3, 2), 1);
        Check.due("wake(12)", x.wake(12), false);
        Check.due("task(12, 0)", x.task(12, 0), 102);
        handIs("it is woken again, but nobody says TASK", x, 3, 3, 3);
    }

    private static void blockAlone() {
        MicroTasks x = Check.machine(Check.code(1).f1(2), Check.code(0));
        x.wake(15);
        x.start(15, 100);
        Check.storeFrom(x, 100, Check.code(101).f1(3), Check.code(102), Check.code(103).f1(2), Check.code(104));
        handIs("a blocked task goes on until TASK", x, 0, 15, 15, 15, 15, 0);
        Check.due("task(15, 2)", x.task(15, 2), 0);
        Check.due("task(15, 3)", x.task(15, 3), 4);
    }

    private static void taskZeroCannotBlock() {
        MicroTasks x = Check.machine(Check.code(1).f1(2), Check.code(2).f1(3), Check.code(3));
        handIs("task 0 blocks", x, 0, 0, 0);
        Check.due("task(0, 2)", x.task(0, 2), 1);
        Check.due("wake(0)", x.wake(0), true);
        Check.due("came to hand", x.count(3), 0);
    }
}
