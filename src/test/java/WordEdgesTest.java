/** The edges of 16 bits, a method for each sentence of the terms: where a word wraps around, and where a carry or a change tips. */
public final class WordEdgesTest {
    private static final int T = 32;
    private static final int L = 33;
    private static final int CARRY = 34;
    private static final int MAR = 35;

    /** Rows: a number that is given, the word that is kept of it. */
    private static final int[][] KEPT = {
        {0, 0}, {1, 1}, {0x7FFF, 0x7FFF}, {0x8000, 0x8000}, {0xFFFF, 0xFFFF}, {0x10000, 0}, {0x10001, 1},
        {0x18000, 0x8000}, {0x1FFFF, 0xFFFF}, {-1, 0xFFFF}, {-2, 0xFFFE}, {-0x8000, 0x8000}, {-0xFFFF, 1},
        {-0x10000, 0}, {-0x10001, 0xFFFF}, {Integer.MIN_VALUE, 0}, {Integer.MAX_VALUE, 0xFFFF}
    };

    public static void main(String[] args) {
        wordsOfSet();
        wordsOfPoke();
        wordsOfConstant();
        wordsOfPort();
        wordsOfTheAlu();
        wordsAreNeverNegative();
        leftLosesTheHighestBit();
        rightLosesTheLowestBit();
        bytesAreExchanged();
        otherF1DoNotShift();
        theBusTakesLNotSh();
        theBusIsZeroWhenARegisterIsLoaded();
        carryOfBusAndOne();
        carryOfBusAndT();
        carryOfBusAndTAndOne();
        carryOfBusAndCarry();
        borrowOfBusLessOne();
        borrowOfBusLessT();
        borrowOfBusLessTLessOne();
        carryOfOthersIsZero();
        bitsOfTheAlu();
        othersOfTheAluAreZero();
        carryIsOneBit();
        carryStaysWithoutLoadL();
        tTakesTheAluOrTheBus();
        changeByBusZero();
        changeByHighestBit();
        changeByShZero();
        changeByTenBits();
        changeByCarryAsBefore();
        changeByInput();
        noChangeByOthers();
        Check.end();
    }

    private static void wordsOfSet() {
        Check.by("WORDS have 16 bits, the rest is lost");
        MicroTasks x = new MicroTasks();
        for (int[] row : KEPT) {
            Check.due("set(31, " + row[0] + ")", x.set(31, row[0]), true);
            Check.due("register(31) by " + row[0], x.register(31), row[1]);
        }
    }

    private static void wordsOfPoke() {
        Check.by("WORDS have 16 bits, the rest is lost");
        MicroTasks x = new MicroTasks();
        for (int[] row : KEPT) {
            Check.due("poke(1023, " + row[0] + ")", x.poke(1023, row[0]), true);
            Check.due("peek(1023) by " + row[0], x.peek(1023), row[1]);
        }
    }

    private static void wordsOfConstant() {
        Check.by("A constant (its lowest 16 bits)");
        // what goes OUT and what F2 1 looks at is the BUS itself, not what the ALU leaves of it
        MicroTasks x = Check.machine(Check.code(0).constant(255).aluf(1).f1(8).loadT());
        MicroTasks y = Check.machine(Check.code(0).rsel(31).bs(7).f1(7).f2(1));
        for (int i = 0; i < KEPT.length; i++) {
            Check.due("constant(255, " + KEPT[i][0] + ")", x.constant(255, KEPT[i][0]), true);
            x.run(1);
            Check.due("out by " + KEPT[i][0], x.out(i), KEPT[i][1]);
            Check.due("T by " + KEPT[i][0], x.register(T), KEPT[i][1]);
            y.start(0, 0);
            y.constant(255, KEPT[i][0]);
            y.run(1);
            Check.due("whether constant " + KEPT[i][0] + " is 0", y.task(0, 1), KEPT[i][1] == 0 ? 1 : 0);
        }
    }

    private static void wordsOfPort() {
        Check.by("WORDS have 16 bits, the rest is lost");
        MicroTasks x = Check.machine(Check.code(0).bs(3).aluf(1).f1(8).loadT());
        MicroTasks y = Check.machine(Check.code(0).bs(3).f2(1));
        for (int i = 0; i < KEPT.length; i++) {
            x.port(KEPT[i][0]);
            x.run(1);
            Check.due("out by " + KEPT[i][0], x.out(i), KEPT[i][1]);
            Check.due("T by " + KEPT[i][0], x.register(T), KEPT[i][1]);
            y.start(0, 0);
            y.port(KEPT[i][0]);
            y.run(1);
            Check.due("whether input " + KEPT[i][0] + " is 0", y.task(0, 1), KEPT[i][1] == 0 ? 1 : 0);
        }
    }

    /** Task 0 does this code once, with constant 9 as the BUS and T, L, CARRY as given. */
    private static MicroTasks once(Check.Code code, int bus, int t, int l, int carry) {
        MicroTasks x = Check.loaded(t, l, carry);
        x.constant(9, bus);
        x.store(0, code.constant(9).bits());
        Check.due("run(1)", x.run(1), 1);
        return x;
    }

    private static void wordsOfTheAlu() {
        Check.by("WORDS have 16 bits, the rest is lost");
        // rows: ALUF, BUS, T, the ALU
        int[][] rows = {{5, 0xFFFF, 0, 0}, {6, 0, 0, 0xFFFF}, {10, 0xFFFF, 0xFFFF, 0xFFFF}, {10, 0xFFFF, 0, 0}};
        for (int[] row : rows) {
            MicroTasks x = once(Check.code(1).aluf(row[0]).f1(1).loadT().loadL(), row[1], row[2], 3, 0);
            Check.due("ALUF " + row[0] + ": T", x.register(T), row[3]);
            Check.due("ALUF " + row[0] + ": L", x.register(L), row[3]);
            Check.due("ALUF " + row[0] + ": MAR", x.register(MAR), row[3]);
        }
    }

    private static void wordsAreNeverNegative() {
        Check.by("WORDS have 16 bits");
        MicroTasks x = Check.machine(
                Check.code(1).bs(2).f1(1).loadT().loadL(),
                Check.code(2).rsel(31).bs(1),
                Check.code(3).bs(2).f2(6),
                Check.code(4).bs(2).f1(8));
        x.run(4);
        Check.due("T", x.register(T), 0xFFFF);
        Check.due("L", x.register(L), 0xFFFF);
        Check.due("MAR", x.register(MAR), 0xFFFF);
        Check.due("register(31)", x.register(31), 0xFFFF);
        Check.due("peek(1023)", x.peek(1023), 0xFFFF);
        Check.due("out(0)", x.out(0), 0xFFFF);
    }

    /** SH, as register 31 takes it; L is left as it was. */
    private static void shiftIs(int f1, int l, int sh) {
        MicroTasks x = Check.loaded(0, l, 0);
        x.store(0, Check.code(1).rsel(31).bs(1).f1(f1).bits());
        x.run(1);
        Check.due("SH by F1 " + f1 + " of " + l, x.register(31), sh);
        Check.due("L by F1 " + f1, x.register(L), l);
    }

    private static void leftLosesTheHighestBit() {
        Check.by("by F1 4 L shifted left by 1 (0 comes in)");
        shiftIs(4, 0x8000, 0);
        shiftIs(4, 0x7FFF, 0xFFFE);
        shiftIs(4, 0xFFFF, 0xFFFE);
        shiftIs(4, 0x4000, 0x8000);
        shiftIs(4, 1, 2);
        shiftIs(4, 0, 0);
    }

    private static void rightLosesTheLowestBit() {
        Check.by("5 right by 1 (0 comes in)");
        shiftIs(5, 1, 0);
        shiftIs(5, 0x8000, 0x4000);
        shiftIs(5, 0xFFFF, 0x7FFF);
        shiftIs(5, 0xFFFE, 0x7FFF);
        shiftIs(5, 2, 1);
        shiftIs(5, 0, 0);
    }

    private static void bytesAreExchanged() {
        Check.by("6 with both bytes exchanged");
        shiftIs(6, 0x00FF, 0xFF00);
        shiftIs(6, 0xFF00, 0x00FF);
        shiftIs(6, 0x0180, 0x8001);
        shiftIs(6, 0xFFFF, 0xFFFF);
        shiftIs(6, 0, 0);
    }

    private static void otherF1DoNotShift() {
        Check.by("SH is L");
        for (int f1 = 0; f1 < 16; f1++) {
            // 7 takes a constant, and no register is loaded
            if (f1 != 4 && f1 != 5 && f1 != 6 && f1 != 7) {
                shiftIs(f1, 0x8123, 0x8123);
            }
        }
    }

    private static void theBusTakesLNotSh() {
        Check.by("THE BUS: .. 6 L");
        for (int f1 = 4; f1 < 7; f1++) {
            MicroTasks x = Check.loaded(0, 0x8001, 0);
            x.store(0, Check.code(1).bs(6).f1(f1).loadT().loadL().bits());
            x.run(1);
            Check.due("T by F1 " + f1, x.register(T), 0x8001);
            Check.due("L by F1 " + f1, x.register(L), 0x8001);
        }
    }

    private static void theBusIsZeroWhenARegisterIsLoaded() {
        Check.by("THE BUS: .. 1 it is 0, and register RSEL becomes SH");
        MicroTasks x = Check.loaded(0x3333, 0xFFFF, 0);
        x.set(31, 0x7777);
        x.store(0, Check.code(1).rsel(31).bs(1).f1(8).f2(1).loadT().bits());
        x.run(1);
        Check.due("out(0)", x.out(0), 0);
        Check.due("T", x.register(T), 0);
        Check.due("change", x.task(0, 1), 1);
        Check.due("register(31)", x.register(31), 0xFFFF);
    }

    private static void aluIs(int aluf, int bus, int t, int carryBefore, int alu, int carry) {
        String name = "ALUF " + aluf + " of BUS " + bus + ", T " + t + ", CARRY " + carryBefore;
        MicroTasks x = once(Check.code(1).aluf(aluf).loadL(), bus, t, 0x5A5A, carryBefore);
        Check.due(name + ": L", x.register(L), alu);
        Check.due(name + ": CARRY", x.register(CARRY), carry);
        Check.due(name + ": T", x.register(T), t);
    }

    private static void carryOfBusAndOne() {
        Check.by("The carry of it: of 5 bit 16 of the sum");
        aluIs(5, 0xFFFE, 0xFFFF, 1, 0xFFFF, 0);
        aluIs(5, 0xFFFF, 0, 0, 0, 1);
        aluIs(5, 0, 0xFFFF, 1, 1, 0);
        aluIs(5, 0x7FFF, 0, 1, 0x8000, 0);
    }

    private static void carryOfBusAndT() {
        Check.by("The carry of it: of 7 bit 16 of the sum");
        aluIs(7, 0xFFFE, 1, 1, 0xFFFF, 0);
        aluIs(7, 0xFFFF, 1, 0, 0, 1);
        aluIs(7, 1, 0xFFFF, 0, 0, 1);
        aluIs(7, 0x8000, 0x8000, 0, 0, 1);
        aluIs(7, 0x8000, 0x7FFF, 1, 0xFFFF, 0);
        aluIs(7, 0xFFFF, 0xFFFF, 0, 0xFFFE, 1);
        aluIs(7, 0, 0, 1, 0, 0);
    }

    private static void carryOfBusAndTAndOne() {
        Check.by("The carry of it: of 10 bit 16 of the sum");
        aluIs(10, 0xFFFE, 0, 1, 0xFFFF, 0);
        aluIs(10, 0xFFFF, 0, 0, 0, 1);
        aluIs(10, 0, 0xFFFF, 0, 0, 1);
        aluIs(10, 0x8000, 0x7FFE, 1, 0xFFFF, 0);
        aluIs(10, 0x8000, 0x7FFF, 0, 0, 1);
        aluIs(10, 0xFFFF, 0xFFFF, 0, 0xFFFF, 1);
        aluIs(10, 0, 0, 1, 1, 0);
    }

    private static void carryOfBusAndCarry() {
        Check.by("The carry of it: of 11 bit 16 of the sum");
        aluIs(11, 0xFFFF, 0xFFFF, 0, 0xFFFF, 0);
        aluIs(11, 0xFFFF, 0, 1, 0, 1);
        aluIs(11, 0xFFFE, 0xFFFF, 1, 0xFFFF, 0);
        aluIs(11, 0, 0xFFFF, 1, 1, 0);
        aluIs(11, 0, 0xFFFF, 0, 0, 0);
    }

    private static void borrowOfBusLessOne() {
        Check.by("of 6 1, if nothing was borrowed (BUS not below what is taken away)");
        aluIs(6, 0, 0, 1, 0xFFFF, 0);
        aluIs(6, 1, 0xFFFF, 0, 0, 1);
        aluIs(6, 2, 0xFFFF, 0, 1, 1);
        aluIs(6, 0xFFFF, 0xFFFF, 0, 0xFFFE, 1);
        aluIs(6, 0x8000, 0, 0, 0x7FFF, 1);
    }

    private static void borrowOfBusLessT() {
        Check.by("of 8 1, if nothing was borrowed (BUS not below what is taken away)");
        aluIs(8, 99, 100, 1, 0xFFFF, 0);
        aluIs(8, 100, 100, 0, 0, 1);
        aluIs(8, 101, 100, 0, 1, 1);
        aluIs(8, 0, 0, 0, 0, 1);
        aluIs(8, 0, 1, 1, 0xFFFF, 0);
        aluIs(8, 0, 0xFFFF, 1, 1, 0);
        aluIs(8, 0xFFFE, 0xFFFF, 1, 0xFFFF, 0);
        aluIs(8, 0xFFFF, 0xFFFF, 0, 0, 1);
        aluIs(8, 0xFFFF, 0, 0, 0xFFFF, 1);
        // without a sign: 0x8000 is above 0x7FFF
        aluIs(8, 0x8000, 0x7FFF, 0, 1, 1);
        aluIs(8, 0x7FFF, 0x8000, 1, 0xFFFF, 0);
    }

    private static void borrowOfBusLessTLessOne() {
        Check.by("of 9 1, if nothing was borrowed (BUS not below what is taken away)");
        aluIs(9, 100, 100, 1, 0xFFFF, 0);
        aluIs(9, 101, 100, 0, 0, 1);
        aluIs(9, 102, 100, 0, 1, 1);
        aluIs(9, 0, 0, 1, 0xFFFF, 0);
        aluIs(9, 1, 0, 0, 0, 1);
        aluIs(9, 0xFFFF, 0xFFFE, 0, 0, 1);
        aluIs(9, 0xFFFE, 0xFFFE, 1, 0xFFFF, 0);
        // 65536 is taken away: no word is as great
        aluIs(9, 0xFFFF, 0xFFFF, 1, 0xFFFF, 0);
        aluIs(9, 0, 0xFFFF, 1, 0, 0);
        aluIs(9, 0xFFFF, 0, 0, 0xFFFE, 1);
    }

    private static void carryOfOthersIsZero() {
        Check.by("The carry of it: .. of others 0");
        int[] others = {0, 1, 2, 3, 4, 12, 13, 14, 15};
        for (int aluf : others) {
            for (int[] busAndT : new int[][] {{0xFFFF, 0xFFFF}, {0, 0}, {0xFFFF, 0}, {0, 0xFFFF}}) {
                MicroTasks x = once(Check.code(1).aluf(aluf).loadL(), busAndT[0], busAndT[1], 0x5A5A, 1);
                Check.due("CARRY by ALUF " + aluf + " of " + busAndT[0] + ", " + busAndT[1], x.register(CARRY), 0);
            }
        }
    }

    private static void bitsOfTheAlu() {
        Check.by("ALU, by ALUF: 0 BUS, 1 T, 2 BUS or T, 3 BUS and T, 4 BUS xor T, 12 BUS and T");
        // BUS and T have each pair of bits; rows: ALUF, the ALU
        int[][] rows = {{0, 0x8F0F}, {1, 0x8CCC}, {2, 0x8FCF}, {3, 0x8C0C}, {4, 0x03C3}, {12, 0x8C0C}, {13, 0x0303}};
        for (int[] row : rows) {
            aluIs(row[0], 0x8F0F, 0x8CCC, 1, row[1], 0);
        }
    }

    private static void othersOfTheAluAreZero() {
        Check.by("ALU, by ALUF: .. 13 BUS and not T, others 0");
        aluIs(13, 0xFFFF, 0x00FF, 1, 0xFF00, 0);
        aluIs(13, 0xFFFF, 0xFFFF, 1, 0, 0);
        aluIs(13, 0, 0, 1, 0, 0);
        aluIs(14, 0xFFFF, 0x00FF, 1, 0, 0);
        aluIs(14, 0, 0, 1, 0, 0);
        aluIs(15, 0xFFFF, 0x00FF, 1, 0, 0);
        aluIs(15, 0, 0, 1, 0, 0);
    }

    private static void carryIsOneBit() {
        Check.by("CARRY (1 bit)");
        // the greatest sum there is: 131071
        MicroTasks x = once(Check.code(1).aluf(10).loadL(), 0xFFFF, 0xFFFF, 0, 0);
        Check.due("CARRY", x.register(CARRY), 1);
    }

    private static void carryStaysWithoutLoadL() {
        Check.by("LOADL: L becomes the ALU, CARRY its carry");
        MicroTasks x = once(Check.code(1).aluf(7).loadT(), 1, 1, 0x5A5A, 1);
        Check.due("CARRY stays 1", x.register(CARRY), 1);
        Check.due("L stays", x.register(L), 0x5A5A);
        MicroTasks y = once(Check.code(1).aluf(7).loadT(), 0xFFFF, 1, 0x5A5A, 0);
        Check.due("CARRY stays 0", y.register(CARRY), 0);
    }

    private static void tTakesTheAluOrTheBus() {
        Check.by("LOADT: T becomes the ALU for ALUF 0, 2, 5, 6, 10, 11, 12, otherwise the BUS");
        int bus = 0x0F0F;
        int[] due = {
            bus, bus, 0x3F3F, bus, bus, 0x0F10, 0x0F0E, bus,
            bus, bus, 0x4243, 0x0F10, 0x0303, bus, bus, bus
        };
        for (int aluf = 0; aluf < 16; aluf++) {
            MicroTasks x = once(Check.code(1).aluf(aluf).loadT(), bus, 0x3333, 0x5A5A, 1);
            Check.due("T by ALUF " + aluf, x.register(T), due[aluf]);
        }
    }

    /** The change that F2 makes; the BUS is register 20. */
    private static void changeIs(int f2, int f1, int bus, int l, int change) {
        changeWithCarryAndInput(f2, f1, bus, l, 0, 0, change);
        if (f2 != 5 && f2 != 8) {
            changeWithCarryAndInput(f2, f1, bus, l, 1, 0xFFFF, change);
        }
    }

    private static void changeWithCarryAndInput(int f2, int f1, int bus, int l, int carry, int input, int change) {
        String name = "F2 " + f2 + ", F1 " + f1 + ", BUS " + bus + ", L " + l + ", CARRY " + carry + ", input " + input;
        MicroTasks x = Check.loaded(0x1111, l, carry);
        x.set(20, bus);
        x.port(input);
        x.store(0, Check.code(0).rsel(20).f1(f1).f2(f2).bits());
        x.run(1);
        Check.due(name + ": change", x.task(0, 1), change);
        Check.due(name + ": place", x.task(0, 0), 0);
        x.store(0, 0);
        x.run(1);
        Check.due(name + ": the place behind the next one", x.task(0, 0), change);
        Check.due(name + ": the change behind the next one", x.task(0, 1), 0);
    }

    private static void changeByBusZero() {
        Check.by("F2: 1 1, if BUS is 0");
        changeIs(1, 0, 0, 1, 1);
        changeIs(1, 0, 1, 0, 0);
        changeIs(1, 0, 0x8000, 0, 0);
        changeIs(1, 0, 0xFFFF, 0, 0);
    }

    private static void changeByHighestBit() {
        Check.by("F2: 2 1, if bit 15 of SH is set");
        changeIs(2, 0, 0, 0x8000, 1);
        changeIs(2, 0, 0, 0xFFFF, 1);
        changeIs(2, 0, 0xFFFF, 0x7FFF, 0);
        changeIs(2, 0, 0xFFFF, 0, 0);
        changeIs(2, 4, 0xFFFF, 0x8000, 0);
        changeIs(2, 4, 0, 0x4000, 1);
        changeIs(2, 5, 0xFFFF, 0xFFFF, 0);
        changeIs(2, 6, 0, 0x0080, 1);
        changeIs(2, 6, 0xFFFF, 0xFF7F, 0);
    }

    private static void changeByShZero() {
        Check.by("F2: 3 1, if SH is 0");
        changeIs(3, 0, 1, 0, 1);
        changeIs(3, 0, 0, 1, 0);
        changeIs(3, 0, 0, 0x8000, 0);
        changeIs(3, 4, 1, 0x8000, 1);
        changeIs(3, 4, 0, 0x4000, 0);
        changeIs(3, 5, 1, 1, 1);
        changeIs(3, 5, 0, 2, 0);
        changeIs(3, 6, 0, 1, 0);
        changeIs(3, 6, 0, 0x8000, 0);
    }

    private static void changeByTenBits() {
        Check.by("F2: 4 the lowest 10 bits of BUS");
        changeIs(4, 0, 0, 0xFFFF, 0);
        changeIs(4, 0, 1, 0, 1);
        changeIs(4, 0, 1023, 0, 1023);
        changeIs(4, 0, 1024, 0xFFFF, 0);
        changeIs(4, 0, 1025, 0, 1);
        changeIs(4, 0, 0xFC00, 0, 0);
        changeIs(4, 0, 0xFFFF, 0, 1023);
    }

    private static void changeByCarryAsBefore() {
        Check.by("F2: 5 CARRY (as before)");
        changeWithCarryAndInput(5, 0, 0xFFFF, 0xFFFF, 0, 0xFFFF, 0);
        changeWithCarryAndInput(5, 0, 0, 0, 1, 0, 1);
        // the same instruction loads another carry
        for (int carry = 0; carry < 2; carry++) {
            MicroTasks x = Check.loaded(0, 5, carry);
            x.store(0, Check.code(0).bs(carry == 0 ? 2 : 1).aluf(5).f2(5).loadL().bits());
            x.run(1);
            Check.due("CARRY", x.register(CARRY), 1 - carry);
            Check.due("the change by CARRY " + carry, x.task(0, 1), carry);
        }
    }

    private static void changeByInput() {
        Check.by("F2: 8 1, if bit 0 of the input is set");
        changeWithCarryAndInput(8, 0, 0, 0, 0, 1, 1);
        changeWithCarryAndInput(8, 0, 0, 0, 0, 0xFFFF, 1);
        changeWithCarryAndInput(8, 0, 0xFFFF, 0xFFFF, 1, 0, 0);
        changeWithCarryAndInput(8, 0, 0xFFFF, 0xFFFF, 1, 0xFFFE, 0);
        changeWithCarryAndInput(8, 0, 0xFFFF, 0xFFFF, 1, 0x10000, 0);
    }

    private static void noChangeByOthers() {
        Check.by("F2 makes the CHANGE for the task's next instruction (others: 0)");
        int[] others = {0, 6, 7, 9, 10, 11, 12, 13, 14, 15};
        for (int f2 : others) {
            changeIs(f2, 0, 0, 0, 0);
            changeIs(f2, 0, 0xFFFF, 0x8000, 0);
        }
    }
}
