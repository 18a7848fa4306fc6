/** The edges of how tasks give the processor away, a method for each sentence about lines, TASK and BLOCK. */
public final class TaskEdgesTest {
    public static void main(String[] args) {
        taskNumbersFirstAndLast();
        eachTaskHasItsOwn();
        greatestOfAll();
        greatestOfTwo();
        eachAlone();
        nobodyElse();
        lesserOneDoesNotCome();
        taskAtHandIsTheGreatest();
        taskAtHandIsNotWoken();
        behindTheNextOne();
        behindTheNextOneThatIsDone();
        onlyOnce();
        acrossRuns();
        saidByTheNextOneToo();
        saidByTheFirstOneOfTheOther();
        saidThreeTimes();
        wokenInTheLastMoment();
        blockedInTheLastMoment();
        startedInTheLastMoment();
        onlyF1SaysTask();
        onlyF1SaysBlock();
        blockOfTheLastTask();
        blockTwice();
        blockIsNoTask();
        blockOfTaskZero();
        blockOfTaskZeroWithTask();
        taskZeroIsAlwaysWoken();
        Check.end();
    }

    /** Task 0 goes round through places 0, where it says TASK, and 1; each other task stays at a place of its own. */
    private static MicroTasks saying() {
        MicroTasks x = Check.machine(Check.code(1).f1(2), Check.code(0));
        for (int t = 1; t < 16; t++) {
            x.start(t, place(t));
            x.store(place(t), Check.code(place(t)).bits());
        }
        return x;
    }

    private static int place(int t) {
        return 100 + 10 * t;
    }

    private static void hands(String name, MicroTasks x, int... due) {
        for (int i = 0; i < due.length; i++) {
            x.run(1);
            Check.due(name + ": now() behind cycle " + (i + 1), x.now(), due[i]);
        }
    }

    private static void taskNumbersFirstAndLast() {
        Check.by("TASKS 0 .. 15; 4 the task's number");
        for (int t = 0; t < 16; t++) {
            MicroTasks x = saying();
            x.store(place(t), Check.code(5).bs(4).f1(8).bits());
            x.wake(t);
            x.start(t, t == 0 ? 0 : place(t));
            x.run(2);
            if (t == 0) {
                x.start(0, place(0));
            }
            x.run(1);
            Check.due("the BUS of task " + t, x.out(0), t);
        }
    }

    private static void eachTaskHasItsOwn() {
        Check.by("TASKS 0 .. 15, each with a PLACE, a CHANGE, a LINE");
        MicroTasks x = saying();
        x.wake(15);
        x.store(place(15), Check.code(77).bs(2).f2(4).bits());
        x.run(3);
        for (int t = 0; t < 16; t++) {
            Check.due("place of " + t, x.task(t, 0), t == 0 ? 0 : t == 15 ? 77 : place(t));
            Check.due("change of " + t, x.task(t, 1), t == 15 ? 1023 : 0);
            Check.due("line of " + t, x.task(t, 2), t == 0 || t == 15 ? 1 : 0);
            Check.due("instructions of " + t, x.task(t, 3), t == 0 ? 2 : t == 15 ? 1 : 0);
        }
    }

    private static void greatestOfAll() {
        Check.by("the greatest task that is woken goes on");
        MicroTasks x = saying();
        for (int t = 0; t < 16; t++) {
            x.wake(t);
        }
        hands("all are woken", x, 0, 15, 15);
        Check.due("count(3)", x.count(3), 1);
    }

    private static void greatestOfTwo() {
        Check.by("the greatest task that is woken goes on");
        for (int t = 2; t < 16; t++) {
            MicroTasks x = saying();
            x.wake(t);
            x.wake(t - 1);
            hands(t + " and the one below", x, 0, t);
            MicroTasks y = saying();
            y.wake(1);
            y.wake(t);
            hands("1 and " + t, y, 0, t);
        }
    }

    private static void eachAlone() {
        Check.by("the greatest task that is woken goes on");
        for (int t = 1; t < 16; t++) {
            MicroTasks x = saying();
            x.wake(t);
            hands(t + " alone", x, 0, t, t);
            Check.due("count(3)", x.count(3), 1);
            Check.due("task(0, 3)", x.task(0, 3), 2);
            Check.due("task(" + t + ", 3)", x.task(t, 3), 1);
        }
    }

    private static void nobodyElse() {
        Check.by("the greatest task that is woken goes on");
        MicroTasks x = saying();
        hands("nobody else", x, 0, 0, 0, 0);
        Check.due("count(3)", x.count(3), 0);
        Check.due("task(0, 3)", x.task(0, 3), 4);
    }

    private static void lesserOneDoesNotCome() {
        Check.by("the greatest task that is woken goes on");
        MicroTasks x = saying();
        x.wake(9);
        Check.storeFrom(x, place(9), Check.code(place(9) + 1).f1(2), Check.code(place(9)));
        hands("9", x, 0, 9);
        x.wake(8);
        hands("8 is less", x, 9, 9, 9, 9);
        x.wake(10);
        hands("10 is greater", x, 9, 10);
        Check.due("count(3)", x.count(3), 2);
    }

    private static void taskAtHandIsTheGreatest() {
        Check.by("3 times that another task came to hand");
        MicroTasks x = saying();
        x.wake(15);
        Check.storeFrom(x, place(15), Check.code(place(15)).f1(2));
        hands("15 gives the processor to itself", x, 0, 15, 15, 15, 15, 15);
        Check.due("count(3)", x.count(3), 1);
    }

    private static void taskAtHandIsNotWoken() {
        Check.by("the greatest task that is woken goes on");
        MicroTasks x = saying();
        x.wake(15);
        x.wake(2);
        Check.storeFrom(x, place(15), Check.code(place(15) + 1).f1(3), Check.code(place(15) + 2).f1(2), Check.code(0));
        hands("15 is at hand, but not woken", x, 0, 15, 15, 15, 2);
        Check.due("count(3)", x.count(3), 2);
    }

    private static void behindTheNextOne() {
        Check.by("2 TASK: behind the next instruction that is done");
        MicroTasks x = saying();
        x.wake(4);
        x.run(1);
        Check.due("now() behind TASK itself", x.now(), 0);
        Check.due("count(3) behind TASK itself", x.count(3), 0);
        x.run(1);
        Check.due("now() behind the next one", x.now(), 4);
        Check.due("count(3) behind the next one", x.count(3), 1);
        Check.due("the next one was task 0's", x.task(0, 3), 2);
    }

    private static void behindTheNextOneThatIsDone() {
        Check.by("2 TASK: behind the next instruction that is done");
        MicroTasks x = Check.machine(Check.code(1).f1(1), Check.code(2).f1(2), Check.code(3).f1(1), Check.code(3));
        x.wake(4);
        x.start(4, 100);
        hands("the next one waits", x, 0, 0, 0, 0, 0, 4);
        Check.due("count(1)", x.count(1), 3);
        Check.due("task(0, 3)", x.task(0, 3), 3);
    }

    private static void onlyOnce() {
        Check.by("2 TASK: behind the next instruction that is done");
        MicroTasks x = Check.machine(Check.code(1).f1(2), Check.code(2), Check.code(3), Check.code(4));
        hands("nobody else yet", x, 0, 0);
        x.wake(4);
        hands("it is too late for 4", x, 0, 0, 0);
        Check.due("count(3)", x.count(3), 0);
    }

    private static void acrossRuns() {
        Check.by("So many cycles; behind the next instruction that is done");
        MicroTasks x = saying();
        MicroTasks y = saying();
        x.wake(4);
        y.wake(4);
        x.run(1);
        x.run(1);
        y.run(2);
        Check.due("now(), two runs of one", x.now(), 4);
        Check.due("now(), one run of two", y.now(), 4);
    }

    private static void saidByTheNextOneToo() {
        Check.by("if that one says TASK, too, so again behind the one after it, whichever task does it");
        MicroTasks x = Check.machine(Check.code(1).f1(2), Check.code(2).f1(2), Check.code(3));
        x.start(6, 160);
        x.start(8, 180);
        Check.storeFrom(x, 160, Check.code(161), Check.code(161));
        Check.storeFrom(x, 180, Check.code(181), Check.code(181));
        x.wake(6);
        hands("behind the first TASK", x, 0, 6);
        x.wake(8);
        hands("behind the second TASK", x, 8, 8);
        Check.due("task 6 did one", x.task(6, 3), 1);
        Check.due("count(3)", x.count(3), 2);
        MicroTasks y = Check.machine(Check.code(1).f1(2), Check.code(2).f1(2), Check.code(3), Check.code(4));
        hands("nobody is woken behind the first", y, 0, 0);
        y.wake(6);
        hands("but behind the second, by task 0 itself", y, 6);
    }

    private static void saidByTheFirstOneOfTheOther() {
        Check.by("if that one says TASK, too, so again behind the one after it, whichever task does it");
        MicroTasks x = saying();
        x.wake(6);
        Check.storeFrom(x, place(6), Check.code(place(6) + 1).f1(2), Check.code(place(6) + 2), Check.code(place(6) + 2));
        hands("6 says TASK at once", x, 0, 6, 6);
        x.wake(7);
        hands("and gives behind its second one", x, 7);
        Check.due("task 6 did two", x.task(6, 3), 2);
    }

    private static void saidThreeTimes() {
        Check.by("if that one says TASK, too, so again behind the one after it, whichever task does it");
        MicroTasks x = Check.machine(Check.code(1).f1(2), Check.code(2).f1(2), Check.code(3));
        for (int t : new int[] {3, 5, 7}) {
            x.start(t, place(t));
            x.store(place(t), Check.code(place(t)).f1(2).bits());
        }
        x.wake(3);
        hands("3", x, 0, 3);
        x.wake(5);
        hands("5", x, 5);
        x.wake(7);
        hands("7", x, 7, 7, 7);
        Check.due("count(3)", x.count(3), 3);
        Check.due("task 3 did", x.task(3, 3), 1);
        Check.due("task 5 did", x.task(5, 3), 1);
        Check.due("task 7 did", x.task(7, 3), 2);
    }

    private static void wokenInTheLastMoment() {
        Check.by("the greatest task that is woken");
        MicroTasks x = saying();
        x.wake(4);
        x.run(1);
        x.wake(5);
        hands("woken between TASK and the next one", x, 5);
    }

    private static void blockedInTheLastMoment() {
        Check.by("3 BLOCK: the task's line is not woken any more");
        MicroTasks x = saying();
        x.wake(4);
        x.wake(3);
        Check.storeFrom(x, place(4), Check.code(place(4) + 1).f1(2), Check.code(place(4) + 2).f1(3));
        hands("the one behind TASK blocks", x, 0, 4, 4, 3);
        Check.due("task(4, 2)", x.task(4, 2), 0);
        Check.due("task(4, 3)", x.task(4, 3), 2);
    }

    private static void startedInTheLastMoment() {
        Check.by("behind the next instruction that is done");
        MicroTasks x = saying();
        x.wake(4);
        x.run(1);
        x.start(0, 700);
        hands("the next one is at 700", x, 4);
        Check.due("task(0, 0)", x.task(0, 0), 0);
    }

    private static void onlyF1SaysTask() {
        Check.by("F1: .. 2 TASK");
        for (int f = 0; f < 16; f++) {
            MicroTasks x = Check.machine(Check.code(1).f1(f), Check.code(1));
            MicroTasks y = Check.machine(Check.code(1).f2(f), Check.code(1));
            x.wake(15);
            y.wake(15);
            x.run(3);
            y.run(3);
            Check.due("now() by F1 " + f, x.now(), f == 2 ? 15 : 0);
            Check.due("now() by F2 " + f, y.now(), 0);
        }
    }

    private static void onlyF1SaysBlock() {
        Check.by("F1: .. 3 BLOCK");
        for (int f = 0; f < 16; f++) {
            Check.due("task(15, 2) by F1 " + f, lineBehind(Check.code(place(15) + 1).f1(f)), f == 3 ? 0 : 1);
            Check.due("task(15, 2) by F2 " + f, lineBehind(Check.code(place(15) + 1).f2(f)), 1);
        }
    }

    /** The line of task 15 when it has done this code. */
    private static int lineBehind(Check.Code code) {
        MicroTasks x = saying();
        x.wake(15);
        x.store(place(15), code.bits());
        x.run(3);
        Check.due("task(15, 3)", x.task(15, 3), 1);
        return x.task(15, 2);
    }

    private static void blockOfTheLastTask() {
        Check.by("3 BLOCK: the task's line is not woken any more");
        for (int at : new int[] {1, 15}) {
            MicroTasks x = saying();
            // the one that blocks is the greatest that is woken
            for (int t = 1; t <= at; t++) {
                x.wake(t);
            }
            x.store(place(at), Check.code(place(at)).f1(3).bits());
            x.run(3);
            for (int t = 0; t < 16; t++) {
                Check.due(at + " blocks: task(" + t + ", 2)", x.task(t, 2), t < at ? 1 : 0);
            }
            Check.due("it stays at hand", x.now(), at);
            Check.due("wake(" + at + ")", x.wake(at), false);
            Check.due("task(" + at + ", 2)", x.task(at, 2), 1);
        }
    }

    private static void blockTwice() {
        Check.by("3 BLOCK: the task's line is not woken any more");
        MicroTasks x = saying();
        x.wake(5);
        x.store(place(5), Check.code(place(5)).f1(3).bits());
        x.run(4);
        Check.due("task(5, 2)", x.task(5, 2), 0);
        Check.due("wake(5)", x.wake(5), false);
        Check.due("wake(5)", x.wake(5), true);
        x.run(1);
        Check.due("task(5, 2)", x.task(5, 2), 0);
    }

    private static void blockIsNoTask() {
        Check.by("tasks that give the processor away where they say so");
        MicroTasks x = saying();
        x.wake(5);
        Check.storeFrom(x, place(5), Check.code(place(5) + 1).f1(3), Check.code(place(5) + 1));
        hands("5 goes on", x, 0, 5, 5, 5, 5);
        Check.due("count(3)", x.count(3), 1);
    }

    private static void blockOfTaskZero() {
        Check.by("3 BLOCK: .. (but of task 0)");
        MicroTasks x = Check.machine(Check.code(0).f1(3));
        x.wake(1);
        x.run(2);
        Check.due("task(0, 2)", x.task(0, 2), 1);
        Check.due("task(1, 2)", x.task(1, 2), 1);
        Check.due("wake(0)", x.wake(0), true);
        Check.due("now()", x.now(), 0);
    }

    private static void blockOfTaskZeroWithTask() {
        Check.by("3 BLOCK: .. (but of task 0)");
        MicroTasks x = Check.machine(Check.code(1).f1(2), Check.code(0).f1(3));
        x.wake(1);
        x.start(1, place(1));
        Check.storeFrom(x, place(1), Check.code(place(1) + 1).f1(2), Check.code(place(1)).f1(3));
        hands("0 goes on when 1 blocks", x, 0, 1, 1, 0, 0, 0);
        Check.due("task(0, 2)", x.task(0, 2), 1);
    }

    private static void taskZeroIsAlwaysWoken() {
        Check.by("a LINE (woken or not; that of task 0 is always)");
        MicroTasks x = saying();
        Check.due("wake(0), new", x.wake(0), true);
        x.wake(9);
        Check.storeFrom(x, place(9), Check.code(place(9) + 1).f1(3), Check.code(place(9) + 2).f1(2), Check.code(0));
        hands("9, and back", x, 0, 9);
        Check.due("task(0, 2), when 9 is at hand", x.task(0, 2), 1);
        hands("9, and back", x, 9, 9, 0);
        Check.due("task(0, 2), when 0 is at hand again", x.task(0, 2), 1);
        Check.due("wake(0)", x.wake(0), true);
    }
}
