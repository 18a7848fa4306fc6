/** A microprogrammed processor that sixteen tasks share, with a memory that lets them wait. */
public final class MicroTasks {
    public static final int BAD = -1;

    private static final int WORD = 0xFFFF;
    private static final int REGISTERS = 32;
    private static final int CONSTANTS = 256;
    private static final int PLACES = 1024;
    private static final int LAST_PLACE = PLACES - 1;
    private static final int TASKS = 16;
    private static final int MOST_CYCLES = 5000;
    private static final int MOST_KEPT = 500;

    private static final int ASK_T = 32;
    private static final int ASK_L = 33;
    private static final int ASK_CARRY = 34;
    private static final int ASK_MAR = 35;

    private static final int BS_REGISTER = 0;
    private static final int BS_LOAD_REGISTER = 1;
    private static final int BS_ONES = 2;
    private static final int BS_INPUT = 3;
    private static final int BS_TASK = 4;
    private static final int BS_MEMORY = 5;
    private static final int BS_L = 6;

    private static final int F1_MAR = 1;
    private static final int F1_TASK = 2;
    private static final int F1_BLOCK = 3;
    private static final int F1_LEFT = 4;
    private static final int F1_RIGHT = 5;
    private static final int F1_SWAP = 6;
    private static final int F1_OUT = 8;

    private static final int F2_BUS_ZERO = 1;
    private static final int F2_SH_NEGATIVE = 2;
    private static final int F2_SH_ZERO = 3;
    private static final int F2_BUS = 4;
    private static final int F2_CARRY = 5;
    private static final int F2_STORE = 6;
    private static final int F2_INPUT_ODD = 8;

    private static final int F_CONSTANT = 7;

    private static final int REST_TO_BEGIN = 5;
    private static final int REST_TO_READ = 4;
    private static final int REST_TO_WRITE = 2;

    private final int[] registers;
    private final int[] constants;
    private final int[] instructions;
    private final Memory memory;
    private final Tasks tasks;
    private final Output output;
    private int t;
    private int l;
    private int carry;
    private int input;
    private int cyclesGone;
    private int cyclesWaited;

    public MicroTasks() {
        registers = new int[REGISTERS];
        constants = new int[CONSTANTS];
        instructions = new int[PLACES];
        memory = new Memory();
        tasks = new Tasks();
        output = new Output();
    }

    public boolean store(int place, int instruction) {
        return keep(instructions, place, instruction);
    }

    public boolean constant(int k, int v) {
        return keep(constants, k, v & WORD);
    }

    public boolean poke(int place, int v) {
        return keep(memory.words, place, v & WORD);
    }

    public boolean set(int register, int v) {
        return keep(registers, register, v & WORD);
    }

    public void port(int v) {
        input = v & WORD;
    }

    public boolean wake(int task) {
        return isTask(task) && tasks.rouse(task);
    }

    public boolean start(int task, int place) {
        if (!isTask(task) || place < 0 || place >= PLACES) {
            return false;
        }
        tasks.places[task] = place;
        tasks.changes[task] = 0;
        return true;
    }

    public int run(int cycles) {
        if (cycles < 1 || cycles > MOST_CYCLES) {
            return BAD;
        }
        int done = 0;
        for (int i = 0; i < cycles; i++) {
            if (cycle()) {
                done++;
            }
        }
        return done;
    }

    public int register(int k) {
        switch (k) {
            case ASK_T:
                return t;
            case ASK_L:
                return l;
            case ASK_CARRY:
                return carry;
            case ASK_MAR:
                return memory.mar;
            default:
                return ask(registers, k);
        }
    }

    public int peek(int place) {
        return ask(memory.words, place);
    }

    public int task(int t, int what) {
        if (!isTask(t)) {
            return BAD;
        }
        switch (what) {
            case 0:
                return tasks.places[t];
            case 1:
                return tasks.changes[t];
            case 2:
                return tasks.woken[t] ? 1 : 0;
            case 3:
                return tasks.done[t];
            default:
                return BAD;
        }
    }

    public int now() {
        return tasks.hand;
    }

    public int out(int i) {
        return i < output.kept ? ask(output.words, i) : BAD;
    }

    public int count(int what) {
        switch (what) {
            case 0:
                return cyclesGone;
            case 1:
                return cyclesWaited;
            case 2:
                return output.gone;
            case 3:
                return tasks.handovers;
            default:
                return BAD;
        }
    }

    private static boolean isTask(int task) {
        return task >= 0 && task < TASKS;
    }

    private static boolean keep(int[] row, int index, int value) {
        if (index < 0 || index >= row.length) {
            return false;
        }
        row[index] = value;
        return true;
    }

    private static int ask(int[] row, int index) {
        return index >= 0 && index < row.length ? row[index] : BAD;
    }

    /** Answers whether an instruction was done; otherwise the cycle was waited. */
    private boolean cycle() {
        int instruction = instructions[tasks.places[tasks.hand]];
        boolean ready = !mustWait(instruction);
        if (ready) {
            perform(instruction);
        } else {
            cyclesWaited++;
        }
        memory.rest();
        cyclesGone++;
        return ready;
    }

    private boolean mustWait(int instruction) {
        int rested = memory.rested;
        boolean reads = bsOf(instruction) == BS_MEMORY && !hasConstant(instruction);
        return f1Of(instruction) == F1_MAR && rested < REST_TO_BEGIN
                || reads && rested < REST_TO_READ
                || f2Of(instruction) == F2_STORE && rested < REST_TO_WRITE;
    }

    /** All values are worked out before the first one is changed, since all come from what was before. */
    private void perform(int instruction) {
        int aluf = alufOf(instruction);
        int f1 = f1Of(instruction);
        int sh = shiftedL(f1);
        int bus = busOf(instruction);
        int sum = sumOf(aluf, bus);
        int alu = sum & WORD;
        int change = changeOf(f2Of(instruction), bus, sh);
        if (bsOf(instruction) == BS_LOAD_REGISTER && !hasConstant(instruction)) {
            registers[rselOf(instruction)] = sh;
        }
        if (loadsT(instruction)) {
            t = givesAluToT(aluf) ? alu : bus;
        }
        if (loadsL(instruction)) {
            l = alu;
            carry = sum >> 16;
        }
        useMemory(instruction, bus, alu);
        if (f1 == F1_OUT) {
            output.send(bus);
        }
        tasks.goOn(nextOf(instruction), change, f1);
    }

    /** The write comes first: it goes to the place that MAR had before. */
    private void useMemory(int instruction, int bus, int alu) {
        if (f2Of(instruction) == F2_STORE) {
            memory.write(bus);
        }
        if (f1Of(instruction) == F1_MAR) {
            memory.begin(alu);
        }
    }

    private int shiftedL(int f1) {
        switch (f1) {
            case F1_LEFT:
                return l << 1 & WORD;
            case F1_RIGHT:
                return l >> 1;
            case F1_SWAP:
                return (l << 8 | l >> 8) & WORD;
            default:
                return l;
        }
    }

    private int busOf(int instruction) {
        int rsel = rselOf(instruction);
        int bs = bsOf(instruction);
        if (hasConstant(instruction)) {
            return constants[8 * rsel + bs];
        }
        switch (bs) {
            case BS_REGISTER:
                return registers[rsel];
            case BS_LOAD_REGISTER:
                return 0;
            case BS_ONES:
                return WORD;
            case BS_INPUT:
                return input;
            case BS_TASK:
                return tasks.hand;
            case BS_MEMORY:
                return memory.read();
            case BS_L:
                return l;
            default:
                return memory.mar;
        }
    }

    /**
     * The ALU in bits 0 to 15, its carry in bit 16. What is taken away is added as its
     * complement, so that bit 16 is set just when nothing was borrowed.
     */
    private int sumOf(int aluf, int bus) {
        int notT = ~t & WORD;
        switch (aluf) {
            case 0:
                return bus;
            case 1:
                return t;
            case 2:
                return bus | t;
            case 3:
            case 12:
                return bus & t;
            case 4:
                return bus ^ t;
            case 5:
                return bus + 1;
            case 6:
                return bus + WORD;
            case 7:
                return bus + t;
            case 8:
                return bus + notT + 1;
            case 9:
                return bus + notT;
            case 10:
                return bus + t + 1;
            case 11:
                return bus + carry;
            case 13:
                return bus & notT;
            default:
                return 0;
        }
    }

    private static boolean givesAluToT(int aluf) {
        switch (aluf) {
            case 0:
            case 2:
            case 5:
            case 6:
            case 10:
            case 11:
            case 12:
                return true;
            default:
                return false;
        }
    }

    private int changeOf(int f2, int bus, int sh) {
        switch (f2) {
            case F2_BUS_ZERO:
                return bus == 0 ? 1 : 0;
            case F2_SH_NEGATIVE:
                return sh >> 15;
            case F2_SH_ZERO:
                return sh == 0 ? 1 : 0;
            case F2_BUS:
                return bus & LAST_PLACE;
            case F2_CARRY:
                return carry;
            case F2_INPUT_ODD:
                return input & 1;
            default:
                return 0;
        }
    }

    private static int rselOf(int instruction) {
        return instruction >>> 27;
    }

    private static int alufOf(int instruction) {
        return instruction >> 23 & 15;
    }

    private static int bsOf(int instruction) {
        return instruction >> 20 & 7;
    }

    private static int f1Of(int instruction) {
        return instruction >> 16 & 15;
    }

    private static int f2Of(int instruction) {
        return instruction >> 12 & 15;
    }

    private static boolean loadsT(int instruction) {
        return (instruction >> 11 & 1) == 1;
    }

    private static boolean loadsL(int instruction) {
        return (instruction >> 10 & 1) == 1;
    }

    private static int nextOf(int instruction) {
        return instruction & LAST_PLACE;
    }

    private static boolean hasConstant(int instruction) {
        return f1Of(instruction) == F_CONSTANT || f2Of(instruction) == F_CONSTANT;
    }

    /** The memory, with MAR and the cycles that it has rested. */
    private static final class Memory {
        final int[] words;
        int mar;
        /** Cycles since the last memory cycle began; it stands still where no wait asks for more. */
        int rested;

        Memory() {
            words = new int[PLACES];
            rested = REST_TO_BEGIN;
        }

        int read() {
            return words[mar & LAST_PLACE];
        }

        void write(int word) {
            words[mar & LAST_PLACE] = word;
        }

        void begin(int address) {
            mar = address;
            rested = 0;
        }

        void rest() {
            if (rested < REST_TO_BEGIN) {
                rested++;
            }
        }
    }

    /** The sixteen tasks, and which of them has the processor. */
    private static final class Tasks {
        final int[] places;
        final int[] changes;
        final int[] done;
        final boolean[] woken;
        int hand;
        int handovers;
        /** Whether the last instruction that was done said TASK. */
        boolean taskSaid;

        Tasks() {
            places = new int[TASKS];
            changes = new int[TASKS];
            done = new int[TASKS];
            woken = new boolean[TASKS];
            woken[0] = true;
        }

        /** Answers whether the task's line was woken before. */
        boolean rouse(int task) {
            boolean was = woken[task];
            woken[task] = true;
            return was;
        }

        /** BLOCK counts before the processor is given away, so a blocked task does not get it again. */
        void goOn(int next, int change, int f1) {
            places[hand] = next | changes[hand];
            changes[hand] = change;
            done[hand]++;
            if (f1 == F1_BLOCK && hand != 0) {
                woken[hand] = false;
            }
            if (taskSaid) {
                giveTo(greatestWoken());
            }
            taskSaid = f1 == F1_TASK;
        }

        private void giveTo(int task) {
            if (task != hand) {
                hand = task;
                handovers++;
            }
        }

        private int greatestWoken() {
            for (int task = TASKS - 1; task > 0; task--) {
                if (woken[task]) {
                    return task;
                }
            }
            return 0;
        }
    }

    /** The words that went out; only the first of them are kept. */
    private static final class Output {
        final int[] words;
        int kept;
        int gone;

        Output() {
            words = new int[MOST_KEPT];
        }

        void send(int word) {
            if (kept < MOST_KEPT) {
                words[kept] = word;
                kept++;
            }
            gone++;
        }
    }
}
