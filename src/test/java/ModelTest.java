import java.util.Random;

/** Random programs on the machine and on the model: every answer is the same. The seed is fixed. */
public final class ModelTest {
    private static final int MACHINES = 400;
    private static final int PROGRAM = 32;

    private final Random random;
    private final MicroTasks x = new MicroTasks();
    private final Model model = new Model();

    private ModelTest(long seed) {
        random = new Random(seed);
    }

    public static void main(String[] args) {
        for (int i = 0; i < MACHINES; i++) {
            new ModelTest(i).compareAll();
        }
        Check.end();
    }

    /** Stays below the 512 calls that an object is used for: 92 to fill it, 6 in each round, 214 at the end. */
    private void compareAll() {
        for (int place = 0; place < PROGRAM; place++) {
            int instruction = randomInstruction();
            Check.due("store", x.store(place, instruction), true);
            model.instructions.put(place, instruction);
        }
        fill();
        for (int round = 0; round < 25; round++) {
            disturb();
            int cycles = random.nextInt(10) == 0 ? 1 + random.nextInt(300) : 1 + random.nextInt(9);
            Check.due("run(" + cycles + ")", x.run(cycles), model.run(cycles));
            Check.due("now()", x.now(), model.hand);
            Check.due("task(now, 0)", x.task(model.hand, 0), model.place[model.hand]);
            Check.due("register(33)", x.register(33), model.l);
            Check.due("count(1)", x.count(1), model.waited);
        }
        compareState();
    }

    /** Half of them are wild; the others have few fields that do something, so that runs go far. */
    private int randomInstruction() {
        int next = random.nextInt(PROGRAM);
        if (random.nextBoolean()) {
            return random.nextInt() & ~1023 | next;
        }
        int[] f1s = {0, 1, 2, 2, 3, 4, 5, 6, 7, 8};
        int[] f2s = {0, 1, 2, 3, 4, 5, 6, 7, 8};
        return random.nextInt() & 0xFFF00C00
                | f1s[random.nextInt(f1s.length)] << 16
                | f2s[random.nextInt(f2s.length)] << 12
                | next;
    }

    private int randomWord() {
        int[] edges = {0, 1, 0x7FFF, 0x8000, 0xFFFF, 31, 1024, 1023};
        return random.nextBoolean() ? edges[random.nextInt(edges.length)] : random.nextInt(65536);
    }

    private void fill() {
        for (int i = 0; i < 40; i++) {
            int k = random.nextInt(256);
            int v = randomWord();
            x.constant(k, v);
            model.constants.put(k, v);
        }
        for (int i = 0; i < 20; i++) {
            int k = random.nextInt(32);
            int v = randomWord();
            x.set(k, v);
            model.registers.put(k, v);
        }
    }

    private void disturb() {
        int task = random.nextInt(16);
        int v = randomWord();
        switch (random.nextInt(5)) {
            case 0 -> {
                x.port(v);
                model.input = v;
            }
            case 1 -> {
                int place = random.nextInt(PROGRAM);
                x.start(task, place);
                model.place[task] = place;
                model.change[task] = 0;
            }
            case 2 -> {
                int place = random.nextInt(1024);
                x.poke(place, v);
                model.memory.put(place, v);
            }
            default -> Check.due("wake(" + task + ")", x.wake(task), !model.woken.add(task));
        }
    }

    private void compareState() {
        for (int k = 0; k < 32; k++) {
            Check.due("register(" + k + ")", x.register(k), model.registers.getOrDefault(k, 0));
        }
        Check.due("register(32)", x.register(32), model.t);
        Check.due("register(33)", x.register(33), model.l);
        Check.due("register(34)", x.register(34), model.carry);
        Check.due("register(35)", x.register(35), model.mar);
        for (int task = 0; task < 16; task++) {
            Check.due("task(" + task + ", 0)", x.task(task, 0), model.place[task]);
            Check.due("task(" + task + ", 1)", x.task(task, 1), model.change[task]);
            Check.due("task(" + task + ", 2)", x.task(task, 2), model.woken.contains(task) ? 1 : 0);
            Check.due("task(" + task + ", 3)", x.task(task, 3), model.did[task]);
        }
        int[] counts = {model.cycles, model.waited, model.out.size(), model.handovers};
        for (int what = 0; what < 4; what++) {
            Check.due("count(" + what + ")", x.count(what), counts[what]);
        }
        for (int i = 0; i < 50; i++) {
            Check.due("out(" + i + ")", x.out(i), i < model.out.size() ? model.out.get(i) : -1);
        }
        int compared = 0;
        for (int place : model.memory.keySet()) {
            if (compared < 60) {
                Check.due("peek(" + place + ")", x.peek(place), model.memory.get(place));
            }
            compared++;
        }
    }
}
