/** What the tests share: comparing an answer with the one that is due, and putting instructions together. */
final class Check {
    private static int wrong = 0;
    private static int asked = 0;
    private static String sentence = "";

    private Check() {
    }

    /** What is asked from here on would be broken together with this sentence of the document. */
    static void by(String words) {
        sentence = "[" + words + "] ";
    }

    static void due(String call, long got, long want) {
        asked++;
        if (got != want) {
            wrong++;
            System.out.println(sentence + call + " answered " + got + ", due is " + want);
        }
    }

    static void due(String call, boolean got, boolean want) {
        due(call, got ? 1 : 0, want ? 1 : 0);
    }

    /** Ends the program, with exit code 1 if an answer was wrong. */
    static void end() {
        System.out.println(asked + " answers, " + wrong + " of them wrong");
        System.exit(wrong == 0 && asked > 0 ? 0 : 1);
    }

    /** An instruction that does nothing but go on; the other parts are put in by the methods. */
    static Code code(int next) {
        return new Code(next);
    }

    static final class Code {
        private int bits;

        private Code(int next) {
            bits = next;
        }

        Code rsel(int v) {
            return with(v, 27);
        }

        Code aluf(int v) {
            return with(v, 23);
        }

        Code bs(int v) {
            return with(v, 20);
        }

        Code f1(int v) {
            return with(v, 16);
        }

        Code f2(int v) {
            return with(v, 12);
        }

        Code loadT() {
            return with(1, 11);
        }

        Code loadL() {
            return with(1, 10);
        }

        /** The bus is constant 8 rsel + bs, taken by F2. */
        Code constant(int k) {
            return rsel(k / 8).bs(k % 8).f2(7);
        }

        int bits() {
            return bits;
        }

        private Code with(int v, int shift) {
            bits |= v << shift;
            return this;
        }
    }

    /** An object whose task 0 has the given instructions from place 0 on. */
    static MicroTasks machine(Code... codes) {
        MicroTasks x = new MicroTasks();
        storeFrom(x, 0, codes);
        return x;
    }

    static void storeFrom(MicroTasks x, int place, Code... codes) {
        for (int i = 0; i < codes.length; i++) {
            due("store(" + (place + i) + ", ..)", x.store(place + i, codes[i].bits()), true);
        }
    }

    /**
     * Numbers that are not among 0 .. size - 1: the nearest ones on both sides, those that a
     * modulo of the size or of a word would lead back inside, and the farthest ones.
     */
    static int[] outside(int size) {
        return new int[] {
            -1, -2, -size, 1 - 2 * size, Integer.MIN_VALUE, Integer.MIN_VALUE + 1,
            size, size + 1, 2 * size - 1, 2 * size, 65536, 65537, Integer.MAX_VALUE
        };
    }

    /** The near ones come first, and a wrong answer ends it: two thousand million cycles would take too long. */
    static void refusedRuns(MicroTasks x) {
        int[] refused = {0, -1, -2, -5000, 5001, 5002, 10000, 65537, Integer.MIN_VALUE, Integer.MAX_VALUE};
        for (int cycles : refused) {
            int answer = x.run(cycles);
            due("run(" + cycles + ")", answer, -1);
            if (answer != -1) {
                return;
            }
        }
    }

    /** What the calls that only ask tell of an object, in 120 calls, so that two tellings can be compared. */
    static int[] told(MicroTasks x) {
        int[] row = new int[120];
        int n = 0;
        for (int k = 0; k < 36; k++) {
            row[n++] = x.register(k);
        }
        for (int t = 0; t < 16; t++) {
            for (int what = 0; what < 4; what++) {
                row[n++] = x.task(t, what);
            }
        }
        for (int what = 0; what < 4; what++) {
            row[n++] = x.count(what);
        }
        for (int place : new int[] {0, 1, 2, 31, 511, 512, 1021, 1022, 1023}) {
            row[n++] = x.peek(place);
        }
        for (int i : new int[] {0, 1, 2, 3, 498, 499}) {
            row[n++] = x.out(i);
        }
        row[n] = x.now();
        return row;
    }

    static void sameTold(String call, int[] before, int[] after) {
        for (int i = 0; i < before.length; i++) {
            due(call + " changes nothing; row " + i + " of what is told", after[i], before[i]);
        }
    }

    /** An object with T, L and CARRY of these values, task 0 at place 0; 3 cycles have gone by. */
    static MicroTasks loaded(int t, int l, int carry) {
        MicroTasks x = machine(
                code(1).bs(2).loadT(),
                // BUS + all ones + 1 is BUS with a carry
                code(2).constant(254).aluf(carry == 1 ? 10 : 0).loadL(),
                code(0).constant(255).loadT());
        x.constant(254, l);
        x.constant(255, t);
        x.run(3);
        due("T is loaded", x.register(32), t);
        due("L is loaded", x.register(33), l);
        due("CARRY is loaded", x.register(34), carry);
        return x;
    }
}
