import java.math.BigInteger;
import java.util.ArrayList;
import java.util.HashMap;
import java.util.List;
import java.util.Map;
import java.util.TreeSet;

/**
 * A second writing of the document, word for word and without a thought of speed: numbers are
 * kept whole and cut to 16 bits at the end, cycles are told by their number since the beginning.
 */
final class Model {
    final Map<Integer, Integer> instructions = new HashMap<>();
    final Map<Integer, Integer> constants = new HashMap<>();
    final Map<Integer, Integer> memory = new HashMap<>();
    final Map<Integer, Integer> registers = new HashMap<>();
    final TreeSet<Integer> woken = new TreeSet<>(List.of(0));
    final int[] place = new int[16];
    final int[] change = new int[16];
    final int[] did = new int[16];
    final List<Integer> out = new ArrayList<>();
    int t;
    int l;
    int carry;
    int mar;
    int input;
    int hand;
    int cycles;
    int waited;
    int handovers;
    Integer began = null;
    boolean handOverBehindNext = false;

    int run(int n) {
        int before = cycles - waited;
        for (int i = 0; i < n; i++) {
            cycle();
        }
        return cycles - waited - before;
    }

    private static int part(String bits, int from, int size) {
        return Integer.parseInt(bits.substring(from, from + size), 2);
    }

    private boolean beganWithin(int n) {
        return began != null && cycles - began < n;
    }

    private static int word(long v) {
        return BigInteger.valueOf(v).mod(BigInteger.valueOf(65536)).intValueExact();
    }

    private static int at(Map<Integer, Integer> row, int k) {
        return row.getOrDefault(k, 0);
    }

    private void cycle() {
        String bits = String.format("%32s", Integer.toBinaryString(at(instructions, place[hand]))).replace(' ', '0');
        int rsel = part(bits, 0, 5);
        int aluf = part(bits, 5, 4);
        int bs = part(bits, 9, 3);
        int f1 = part(bits, 12, 4);
        int f2 = part(bits, 16, 4);
        boolean loadT = part(bits, 20, 1) == 1;
        boolean loadL = part(bits, 21, 1) == 1;
        int next = part(bits, 22, 10);
        boolean constant = f1 == 7 || f2 == 7;

        if (f1 == 1 && beganWithin(5) || bs == 5 && !constant && beganWithin(4) || f2 == 6 && beganWithin(2)) {
            cycles++;
            waited++;
            return;
        }

        int sh = f1 == 4 ? word(2L * l) : f1 == 5 ? l / 2 : f1 == 6 ? l % 256 * 256 + l / 256 : l;
        int[] sources = {at(registers, rsel), 0, 65535, input, hand, at(memory, mar % 1024), l, mar};
        int bus = constant ? at(constants, 8 * rsel + bs) : sources[bs];
        long[] results = {
            bus, t, bus | t, bus & t, bus ^ t, bus + 1L, bus - 1L, (long) bus + t, (long) bus - t, (long) bus - t - 1,
            (long) bus + t + 1, (long) bus + carry, bus & t, bus - (bus & t), 0, 0
        };
        long whole = results[aluf];
        int alu = word(whole);
        boolean adds = aluf == 5 || aluf == 7 || aluf == 10 || aluf == 11;
        boolean takes = aluf == 6 || aluf == 8 || aluf == 9;
        int aluCarry = adds && whole > 65535 || takes && whole >= 0 ? 1 : 0;
        boolean[] tests = {
            false, bus == 0, sh >= 32768, sh == 0, false, carry == 1, false, false, input % 2 == 1,
            false, false, false, false, false, false, false
        };
        int newChange = f2 == 4 ? bus % 1024 : tests[f2] ? 1 : 0;

        if (!constant && bs == 1) {
            registers.put(rsel, sh);
        }
        if (f2 == 6) {
            memory.put(mar % 1024, bus);
        }
        if (loadT) {
            t = List.of(0, 2, 5, 6, 10, 11, 12).contains(aluf) ? alu : bus;
        }
        if (loadL) {
            l = alu;
            carry = aluCarry;
        }
        if (f1 == 1) {
            mar = alu;
            began = cycles;
        }
        if (f1 == 3 && hand != 0) {
            woken.remove(hand);
        }
        if (f1 == 8) {
            out.add(bus);
        }
        place[hand] = next | change[hand];
        change[hand] = newChange;
        did[hand]++;
        if (handOverBehindNext && woken.last() != hand) {
            hand = woken.last();
            handovers++;
        }
        handOverBehindNext = f1 == 2;
        cycles++;
    }
}
