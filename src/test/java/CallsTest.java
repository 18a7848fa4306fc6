/** What each call answers and changes, without what a cycle does: promises 1 to 8 and 10 to 15. */
public final class CallsTest {
    private static final int[] WRONG_ALWAYS = {-1, Integer.MIN_VALUE, Integer.MAX_VALUE};

    public static void main(String[] args) {
        promise1NewObject();
        promise2Store();
        promise3Constant();
        promise4Poke();
        promise5Set();
        promise6Port();
        promise7Wake();
        promise8Start();
        promise10Register();
        promise11Peek();
        promise12Task();
        promise13Now();
        promise14Out();
        promise15Count();
        Check.end();
    }

    private static void promise1NewObject() {
        MicroTasks x = new MicroTasks();
        for (int k = 0; k < 36; k++) {
            Check.due("new: register(" + k + ")", x.register(k), 0);
        }
        for (int place = 0; place < 1024; place += 93) {
            Check.due("new: peek(" + place + ")", x.peek(place), 0);
        }
        for (int t = 0; t < 16; t++) {
            for (int what = 0; what < 4; what++) {
                Check.due("new: task(" + t + ", " + what + ")", x.task(t, what), t == 0 && what == 2 ? 1 : 0);
            }
        }
        Check.due("new: now()", x.now(), 0);
        Check.due("new: out(0)", x.out(0), -1);
        for (int what = 0; what < 4; what++) {
            Check.due("new: count(" + what + ")", x.count(what), 0);
        }
        newConstantsAndInput();
        newInstructions();
        newMemoryDoesNotLetWait();
        objectsShareNothing();
    }

    private static void newConstantsAndInput() {
        MicroTasks x = Check.loaded(5, 6, 1);
        x.store(0, Check.code(1).constant(77).loadT().bits());
        x.store(1, Check.code(1).bs(3).loadL().bits());
        x.run(1);
        Check.due("a new constant", x.register(32), 0);
        x.run(1);
        Check.due("a new input", x.register(33), 0);
    }

    private static void newInstructions() {
        MicroTasks x = new MicroTasks();
        x.start(0, 1023);
        Check.due("new: run(1)", x.run(1), 1);
        Check.due("a new instruction goes to 0", x.task(0, 0), 0);
    }

    private static void newMemoryDoesNotLetWait() {
        int[] users = {
            Check.code(1).f1(1).bits(), Check.code(1).bs(5).bits(), Check.code(1).f2(6).bits()
        };
        for (int user : users) {
            MicroTasks x = new MicroTasks();
            x.store(0, user);
            Check.due("new: no wait by " + user, x.run(1), 1);
        }
    }

    private static void objectsShareNothing() {
        MicroTasks x = new MicroTasks();
        MicroTasks y = new MicroTasks();
        x.set(3, 9);
        x.poke(3, 9);
        x.wake(3);
        x.start(3, 9);
        x.store(0, Check.code(7).f1(8).bits());
        x.run(1);
        Check.due("other: register(3)", y.register(3), 0);
        Check.due("other: peek(3)", y.peek(3), 0);
        Check.due("other: task(3, 0)", y.task(3, 0), 0);
        Check.due("other: task(3, 2)", y.task(3, 2), 0);
        y.run(1);
        Check.due("other: task(0, 0)", y.task(0, 0), 0);
        Check.due("other: out(0)", y.out(0), -1);
        Check.due("other: count(2)", y.count(2), 0);
    }

    private static void promise2Store() {
        MicroTasks x = new MicroTasks();
        Check.due("store(0)", x.store(0, Check.code(1023).bits()), true);
        Check.due("store(1023)", x.store(1023, Check.code(512).bits()), true);
        // RSEL 31 fills the sign bit; register 31 goes to L
        Check.due("store(512)", x.store(512, Check.code(3).rsel(31).loadL().bits()), true);
        Check.due("store(1024)", x.store(1024, 1), false);
        for (int place : WRONG_ALWAYS) {
            Check.due("store(" + place + ")", x.store(place, 1), false);
        }
        x.set(31, 1234);
        x.run(1);
        Check.due("place after 0", x.task(0, 0), 1023);
        x.run(1);
        Check.due("place after 1023", x.task(0, 0), 512);
        x.run(1);
        Check.due("place after 512", x.task(0, 0), 3);
        Check.due("L after 512", x.register(33), 1234);
        Check.due("store again", x.store(3, Check.code(4).bits()), true);
        Check.due("store again", x.store(3, Check.code(5).bits()), true);
        x.run(1);
        Check.due("the last one counts", x.task(0, 0), 5);
    }

    private static void promise3Constant() {
        MicroTasks x = new MicroTasks();
        Check.due("constant(0)", x.constant(0, 11), true);
        Check.due("constant(77)", x.constant(77, 0x12345), true);
        Check.due("constant(255)", x.constant(255, -2), true);
        Check.due("constant(256)", x.constant(256, 1), false);
        for (int k : WRONG_ALWAYS) {
            Check.due("constant(" + k + ")", x.constant(k, 1), false);
        }
        Check.storeFrom(x, 0,
                Check.code(1).constant(0).loadL(),
                Check.code(2).constant(77).loadL(),
                Check.code(3).constant(255).loadL(),
                Check.code(4).constant(1).loadL());
        int[] due = {11, 0x2345, 0xFFFE, 0};
        for (int want : due) {
            x.run(1);
            Check.due("a constant", x.register(33), want);
        }
    }

    private static void promise4Poke() {
        MicroTasks x = new MicroTasks();
        Check.due("poke(0)", x.poke(0, 1), true);
        Check.due("poke(1023)", x.poke(1023, -1), true);
        Check.due("poke(500)", x.poke(500, 0x10007), true);
        Check.due("poke(1024)", x.poke(1024, 5), false);
        for (int place : WRONG_ALWAYS) {
            Check.due("poke(" + place + ")", x.poke(place, 5), false);
        }
        Check.due("peek(0)", x.peek(0), 1);
        Check.due("peek(1023)", x.peek(1023), 0xFFFF);
        Check.due("peek(500)", x.peek(500), 7);
        x.poke(1, 42);
        x.set(9, 1);
        Check.storeFrom(x, 0, Check.code(1).rsel(9).f1(1), Check.code(2).bs(5).loadL());
        x.run(5);
        Check.due("the machine sees it", x.register(33), 42);
    }

    private static void promise5Set() {
        MicroTasks x = new MicroTasks();
        for (int k = 0; k < 32; k++) {
            Check.due("set(" + k + ")", x.set(k, 100 + k), true);
        }
        Check.due("set(7)", x.set(7, 0xABCDE), true);
        Check.due("set(8)", x.set(8, -1), true);
        for (int k = 32; k < 37; k++) {
            Check.due("set(" + k + ")", x.set(k, 5), false);
            Check.due("register(" + k + ")", x.register(k), k == 36 ? -1 : 0);
        }
        for (int k : WRONG_ALWAYS) {
            Check.due("set(" + k + ")", x.set(k, 5), false);
        }
        for (int k = 0; k < 32; k++) {
            Check.due("register(" + k + ")", x.register(k), k == 7 ? 0xBCDE : k == 8 ? 0xFFFF : 100 + k);
        }
    }

    private static void promise6Port() {
        int[][] rows = {{0, 0}, {1, 1}, {0xFFFF, 0xFFFF}, {0x10000, 0}, {-1, 0xFFFF}, {-2, 0xFFFE}, {0x7FFF1234, 0x1234}};
        MicroTasks x = Check.machine(Check.code(0).bs(3).loadL());
        for (int[] row : rows) {
            x.port(row[0]);
            x.run(1);
            Check.due("port(" + row[0] + ")", x.register(33), row[1]);
            x.run(1);
            Check.due("port(" + row[0] + ") stays", x.register(33), row[1]);
        }
    }

    private static void promise7Wake() {
        MicroTasks x = new MicroTasks();
        Check.due("wake(0)", x.wake(0), true);
        for (int task = 1; task < 16; task++) {
            Check.due("task(" + task + ", 2)", x.task(task, 2), 0);
            Check.due("wake(" + task + ")", x.wake(task), false);
            Check.due("task(" + task + ", 2)", x.task(task, 2), 1);
            Check.due("wake(" + task + ") again", x.wake(task), true);
            Check.due("task(" + task + ", 2)", x.task(task, 2), 1);
        }
        Check.due("wake(16)", x.wake(16), false);
        Check.due("wake(16) again", x.wake(16), false);
        for (int task : WRONG_ALWAYS) {
            Check.due("wake(" + task + ")", x.wake(task), false);
        }
        Check.due("no task comes to hand by it", x.now(), 0);
        x.run(3);
        Check.due("nor without TASK", x.now(), 0);
    }

    private static void promise8Start() {
        MicroTasks x = new MicroTasks();
        Check.due("start(0, 0)", x.start(0, 0), true);
        Check.due("start(15, 1023)", x.start(15, 1023), true);
        Check.due("start(7, 99)", x.start(7, 99), true);
        Check.due("start(16, 1)", x.start(16, 1), false);
        Check.due("start(7, 1024)", x.start(7, 1024), false);
        for (int bad : WRONG_ALWAYS) {
            Check.due("start(" + bad + ", 1)", x.start(bad, 1), false);
            Check.due("start(7, " + bad + ")", x.start(7, bad), false);
        }
        Check.due("task(15, 0)", x.task(15, 0), 1023);
        Check.due("task(7, 0)", x.task(7, 0), 99);
        Check.due("start wakes nobody", x.task(7, 2), 0);
        startTakesTheChangeAway();
    }

    private static void startTakesTheChangeAway() {
        MicroTasks x = Check.machine(Check.code(4).bs(2).f2(4), Check.code(8));
        x.run(1);
        Check.due("a change stands", x.task(0, 1), 1023);
        Check.due("start(0, 1024)", x.start(0, 1024), false);
        Check.due("a refused start changes nothing", x.task(0, 1), 1023);
        Check.due("nor the place", x.task(0, 0), 4);
        Check.due("start(5, 2)", x.start(5, 2), true);
        Check.due("another's start changes nothing", x.task(0, 1), 1023);
        Check.due("start(0, 1)", x.start(0, 1), true);
        Check.due("no change", x.task(0, 1), 0);
        Check.due("its count stays", x.task(0, 3), 1);
        x.run(1);
        Check.due("place without a change", x.task(0, 0), 8);
    }

    private static void promise10Register() {
        MicroTasks x = Check.loaded(0x1234, 0x8765, 1);
        x.store(0, Check.code(1).bs(2).f1(1).bits());
        x.set(0, 3);
        x.set(31, 4);
        x.run(1);
        Check.due("register(0)", x.register(0), 3);
        Check.due("register(31)", x.register(31), 4);
        Check.due("register(32)", x.register(32), 0x1234);
        Check.due("register(33)", x.register(33), 0x8765);
        Check.due("register(34)", x.register(34), 1);
        Check.due("register(35)", x.register(35), 0xFFFF);
        Check.due("register(36)", x.register(36), -1);
        for (int k : WRONG_ALWAYS) {
            Check.due("register(" + k + ")", x.register(k), -1);
        }
    }

    private static void promise11Peek() {
        MicroTasks x = new MicroTasks();
        x.poke(0, 0xFFFF);
        x.poke(1023, 3);
        Check.due("peek(0)", x.peek(0), 0xFFFF);
        Check.due("peek(1)", x.peek(1), 0);
        Check.due("peek(1023)", x.peek(1023), 3);
        Check.due("peek(1024)", x.peek(1024), -1);
        for (int place : WRONG_ALWAYS) {
            Check.due("peek(" + place + ")", x.peek(place), -1);
        }
    }

    private static void promise12Task() {
        MicroTasks x = Check.machine(Check.code(4).bs(2).f2(4));
        x.start(15, 77);
        x.wake(15);
        x.run(1);
        int[][] due = {{4, 1023, 1, 1}, {77, 0, 1, 0}};
        for (int what = 0; what < 4; what++) {
            Check.due("task(0, " + what + ")", x.task(0, what), due[0][what]);
            Check.due("task(15, " + what + ")", x.task(15, what), due[1][what]);
            Check.due("task(16, " + what + ")", x.task(16, what), -1);
        }
        Check.due("task(0, 4)", x.task(0, 4), -1);
        for (int bad : WRONG_ALWAYS) {
            Check.due("task(0, " + bad + ")", x.task(0, bad), -1);
            Check.due("task(" + bad + ", 0)", x.task(bad, 0), -1);
        }
        waitedCyclesAreNoInstructions();
    }

    private static void waitedCyclesAreNoInstructions() {
        MicroTasks x = Check.machine(Check.code(1).f1(1), Check.code(1).bs(5));
        x.run(3);
        Check.due("instructions that task 0 did", x.task(0, 3), 1);
        x.run(2);
        Check.due("instructions that task 0 did", x.task(0, 3), 2);
    }

    private static void promise13Now() {
        MicroTasks x = Check.machine(Check.code(1).f1(2), Check.code(0));
        x.wake(15);
        x.run(1);
        Check.due("now() behind TASK", x.now(), 0);
        x.run(1);
        Check.due("now() one instruction later", x.now(), 15);
    }

    private static void promise14Out() {
        MicroTasks x = Check.machine(Check.code(1).f1(8).bs(6).aluf(5).loadL(), Check.code(0).bs(6).aluf(5).loadL());
        Check.due("out(0)", x.out(0), -1);
        x.run(1);
        Check.due("out(0)", x.out(0), 0);
        Check.due("out(1)", x.out(1), -1);
        x.run(997);
        Check.due("out(498)", x.out(498), 996);
        Check.due("out(499)", x.out(499), -1);
        x.run(4);
        Check.due("out(0)", x.out(0), 0);
        Check.due("out(1)", x.out(1), 2);
        Check.due("out(499)", x.out(499), 998);
        Check.due("out(500)", x.out(500), -1);
        Check.due("out(501)", x.out(501), -1);
        for (int i : WRONG_ALWAYS) {
            Check.due("out(" + i + ")", x.out(i), -1);
        }
        Check.due("count(2)", x.count(2), 501);
    }

    private static void promise15Count() {
        MicroTasks x = Check.machine(
                Check.code(1).f1(1),
                Check.code(2).bs(5),
                Check.code(3).f1(8),
                Check.code(4).f1(2),
                Check.code(5).f1(8));
        x.wake(3);
        x.run(8);
        int[] due = {8, 3, 2, 1};
        for (int what = 0; what < 4; what++) {
            Check.due("count(" + what + ")", x.count(what), due[what]);
        }
        Check.due("count(4)", x.count(4), -1);
        for (int what : WRONG_ALWAYS) {
            Check.due("count(" + what + ")", x.count(what), -1);
        }
        x.run(0);
        x.run(5001);
        Check.due("refused runs take no cycles", x.count(0), 8);
    }
}
