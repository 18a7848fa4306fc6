/** The edges of registers, constants, memory and instructions as the machine itself reaches them, a method for each sentence. */
public final class PlaceEdgesTest {
    private static final int T = 32;
    private static final int L = 33;
    private static final int MAR = 35;

    public static void main(String[] args) {
        registersFirstAndLast();
        constantsAreAllReached();
        constantsOnlyBySeven();
        constantsLoadNoRegister();
        memoryReadsModulo();
        memoryWritesModulo();
        memoryTakesTheBus();
        memoryIsWrittenAtTheOldMar();
        marKeepsAllBits();
        instructionsAreZeroAtFirst();
        placesFirstAndLast();
        nextOrChange();
        changeLastsForOne();
        changeComesOneLate();
        Check.end();
    }

    private static void registersFirstAndLast() {
        Check.by("REGISTERS 0 .. 31");
        for (int k : new int[] {0, 1, 15, 16, 30, 31}) {
            MicroTasks x = Check.loaded(0, 4444, 0);
            x.set(k, 3333);
            Check.storeFrom(x, 0, Check.code(1).rsel(k).loadT(), Check.code(2).rsel(k).bs(1));
            x.run(2);
            Check.due("BS 0, RSEL " + k, x.register(T), 3333);
            for (int other = 0; other < 32; other++) {
                Check.due("BS 1, RSEL " + k + ": register(" + other + ")", x.register(other), other == k ? 4444 : 0);
            }
        }
    }

    private static void constantsAreAllReached() {
        Check.by("CONSTANTS 0 .. 255; constant 8 RSEL + BS");
        for (int from = 0; from < 256; from += 64) {
            MicroTasks x = new MicroTasks();
            for (int i = 0; i < 64; i++) {
                x.constant(from + i, 1000 + from + i);
                x.store(i, Check.code(i + 1).constant(from + i).f1(8).bits());
            }
            Check.due("run(64)", x.run(64), 64);
            for (int i = 0; i < 64; i++) {
                Check.due("constant " + (from + i), x.out(i), 1000 + from + i);
            }
        }
    }

    private static void constantsOnlyBySeven() {
        Check.by("THE BUS: if F1 or F2 is 7, constant 8 RSEL + BS");
        for (int f = 0; f < 16; f++) {
            int due = f == 7 ? 2222 : 1111;
            Check.due("F1 " + f, busBy(f, 0), due);
            Check.due("F2 " + f, busBy(0, f), due);
            Check.due("F1 7, F2 " + f, busBy(7, f), 2222);
            Check.due("F2 7, F1 " + f, busBy(f, 7), 2222);
        }
    }

    private static int busBy(int f1, int f2) {
        MicroTasks x = new MicroTasks();
        x.set(31, 1111);
        x.constant(248, 2222);
        x.store(0, Check.code(1).rsel(31).f1(f1).f2(f2).loadT().bits());
        x.run(1);
        return x.register(T);
    }

    private static void constantsLoadNoRegister() {
        Check.by("Else by BS: .. 1 it is 0, and register RSEL becomes SH");
        int[][] rows = {{0, 0, 5555}, {7, 0, 1111}, {0, 7, 1111}, {7, 7, 1111}, {6, 6, 0xB315}, {8, 8, 5555}};
        for (int[] row : rows) {
            MicroTasks x = Check.loaded(0, 5555, 0);
            x.set(31, 1111);
            x.store(0, Check.code(1).rsel(31).bs(1).f1(row[0]).f2(row[1]).bits());
            x.run(1);
            Check.due("register 31 by F1 " + row[0] + ", F2 " + row[1], x.register(31), row[2]);
        }
    }

    /** Rows: an address, the place of memory that it means. */
    private static final int[][] ADDRESSES = {
        {0, 0}, {1, 1}, {1022, 1022}, {1023, 1023}, {1024, 0}, {1025, 1}, {2047, 1023}, {2048, 0},
        {0x7FFF, 1023}, {0x8000, 0}, {0xFBFF, 1023}, {0xFC00, 0}, {0xFFFE, 1022}, {0xFFFF, 1023}
    };

    private static void memoryReadsModulo() {
        Check.by("MEMORY (places 0 .. 1,023, addresses modulo 1,024): read");
        for (int[] row : ADDRESSES) {
            MicroTasks x = new MicroTasks();
            x.set(1, row[0]);
            x.poke(row[1], 7777);
            Check.storeFrom(x, 0, Check.code(1).rsel(1).f1(1), Check.code(2).bs(5).loadL());
            x.run(5);
            Check.due("memory at " + row[0], x.register(L), 7777);
        }
    }

    private static void memoryWritesModulo() {
        Check.by("MEMORY (places 0 .. 1,023, addresses modulo 1,024): written");
        for (int[] row : ADDRESSES) {
            MicroTasks x = new MicroTasks();
            x.set(1, row[0]);
            x.set(2, 7777);
            Check.storeFrom(x, 0, Check.code(1).rsel(1).f1(1), Check.code(2).rsel(2).f2(6));
            x.run(3);
            for (int place : new int[] {0, 1, 2, 1021, 1022, 1023}) {
                Check.due("written at " + row[0] + ": peek(" + place + ")", x.peek(place), place == row[1] ? 7777 : 0);
            }
        }
    }

    private static void memoryTakesTheBus() {
        Check.by("6: memory at MAR becomes BUS");
        for (int aluf = 0; aluf < 16; aluf++) {
            MicroTasks x = Check.loaded(0x3333, 0x4444, 1);
            x.set(2, 7777);
            x.store(0, Check.code(1).rsel(2).aluf(aluf).f2(6).loadT().loadL().bits());
            x.run(1);
            Check.due("written with ALUF " + aluf, x.peek(0), 7777);
        }
    }

    private static void memoryIsWrittenAtTheOldMar() {
        Check.by("all from what was before: 6: memory at MAR becomes BUS; 1 MAR becomes the ALU");
        MicroTasks x = Check.machine(Check.code(1).rsel(2).f1(1).f2(6));
        x.set(2, 1023);
        x.run(1);
        Check.due("peek(0)", x.peek(0), 1023);
        Check.due("peek(1023)", x.peek(1023), 0);
        Check.due("MAR", x.register(MAR), 1023);
    }

    private static void marKeepsAllBits() {
        Check.by("MAR is a word; 7 MAR");
        for (int[] row : ADDRESSES) {
            MicroTasks x = new MicroTasks();
            x.set(1, row[0]);
            Check.storeFrom(x, 0, Check.code(1).rsel(1).f1(1), Check.code(2).bs(7).loadL());
            x.run(2);
            Check.due("register(35)", x.register(MAR), row[0]);
            Check.due("BS 7", x.register(L), row[0]);
        }
    }

    private static void instructionsAreZeroAtFirst() {
        Check.by("INSTRUCTIONS 0 .. 1,023 (all 0 at first)");
        for (int from = 0; from < 1024; from += 128) {
            MicroTasks x = new MicroTasks();
            for (int place = from; place < from + 128; place++) {
                x.start(0, place);
                Check.due("run(1) at " + place, x.run(1), 1);
                Check.due("the place behind " + place, x.task(0, 0), 0);
            }
            Check.due("T", x.register(T), 0);
            Check.due("count(1)", x.count(1), 0);
            Check.due("count(2)", x.count(2), 0);
        }
    }

    private static void placesFirstAndLast() {
        Check.by("INSTRUCTIONS 0 .. 1,023; NEXT (10)");
        MicroTasks x = new MicroTasks();
        x.store(0, Check.code(1023).bits());
        x.store(1023, Check.code(1022).bits());
        x.store(1022, Check.code(0).bits());
        int[] due = {1023, 1022, 0, 1023};
        for (int place : due) {
            x.run(1);
            Check.due("place", x.task(0, 0), place);
        }
    }

    private static void nextOrChange() {
        Check.by("The task's place becomes NEXT, or with the change that its instruction before it made");
        // rows: NEXT, change, the place
        int[][] rows = {
            {0, 0, 0}, {0, 1023, 1023}, {1023, 0, 1023}, {1023, 1023, 1023}, {1023, 1, 1023},
            {512, 511, 1023}, {512, 512, 512}, {1, 1, 1}, {2, 1, 3}, {3, 1, 3}, {0x155, 0x2AA, 1023}
        };
        for (int[] row : rows) {
            MicroTasks x = Check.machine(Check.code(1).rsel(1).f2(4), Check.code(row[0]));
            x.set(1, row[1]);
            x.run(2);
            Check.due(row[0] + " or " + row[1], x.task(0, 0), row[2]);
        }
    }

    private static void changeLastsForOne() {
        Check.by("F2 makes the CHANGE for the task's next instruction");
        MicroTasks x = Check.machine(Check.code(4).bs(1).f2(1));
        Check.storeFrom(x, 4, Check.code(6), Check.code(0), Check.code(0), Check.code(8));
        int[] due = {4, 7, 8};
        for (int place : due) {
            x.run(1);
            Check.due("place", x.task(0, 0), place);
        }
    }

    private static void changeComesOneLate() {
        Check.by("branches change one instruction late");
        MicroTasks x = Check.machine(Check.code(2).bs(2).f2(4), Check.code(0), Check.code(16).bs(2).f2(4));
        x.run(1);
        Check.due("the branch's own NEXT is not changed", x.task(0, 0), 2);
        Check.due("its change", x.task(0, 1), 1023);
        x.run(1);
        Check.due("that of the next one is", x.task(0, 0), 1023);
        Check.due("and the next one's change is its own", x.task(0, 1), 1023);
        x.run(1);
        Check.due("which comes behind the one after it", x.task(0, 0), 1023);
        x.run(1);
        Check.due("and then no more", x.task(0, 0), 0);
    }
}
