/**
 * Two active starters that can be made to send any word. Node 1's cycle c begins at tick 180 + 80 c, node 0's so
 * many ticks later: -1, 0 or 1, which the two never correct, as half of 1 is 0. Each can send in its slot (m 4 or
 * 14) and, in cycle 2 and behind, at 42, 46, 50, 54 and 58. Frames in slots for which nothing was asked lose their
 * startup: the two still fit each other, and a listener learns no more than that somebody is there.
 */
final class Signals {
    static final int[] MESSAGE_TIMES = {42, 46, 50, 54, 58};

    final Bench bench;
    final SlotBus bus;
    private final int later;

    Signals(int slow, int later) {
        bench = Bench.twoLeaders(slow, later);
        bus = bench.bus;
        this.later = later;
    }

    /** With node 3, which listens from this tick on. */
    static Signals withListener(int slowness, int later, int tick) {
        Signals s = new Signals(slowness << 24, later);
        s.to(tick);
        s.bus.power(3);
        return s;
    }

    int tickOf(int node, int cycle, int m) {
        return 180 + (node == 0 ? later : 0) + 80 * cycle + m;
    }

    /** Runs up to this tick. */
    void to(int tick) {
        while (bench.now < tick) {
            int node = tickOfNextSlot(0) < tickOfNextSlot(1) ? 0 : 1;
            int slot = tickOfNextSlot(node);
            if (slot > tick) {
                bench.to(tick);
            } else {
                bench.to(slot - 1);
                int cycle = (slot - tickOf(node, 0, 0)) / 80 % 64;
                bench.forge(PlainModel.word(node + 1, cycle, 1, 0), PlainModel.word(node + 1, cycle, 0, 0));
                bench.to(slot);
            }
        }
    }

    private int tickOfNextSlot(int node) {
        int first = tickOf(node, 0, 10 * node + 4);
        return bench.now < first ? first : first + ((bench.now - first) / 80 + 1) * 80;
    }

    /** At m of this cycle the node sends, and what is on the bus is this word. */
    void send(int node, int cycle, int m, long word) {
        to(tickOf(node, cycle, m) - 1);
        long due;
        if (m == 10 * node + 4) {
            due = PlainModel.word(node + 1, cycle % 64, 1, 0);
        } else {
            int number = bus.clock(node, 5);
            bus.post(node, number, 0, 0, 1);
            due = PlainModel.word(number, cycle % 64, 0, 0);
        }
        bench.forge(due, word);
        bench.to(tickOf(node, cycle, m));
        if (bus.last() != word) {
            throw new AssertionError("node " + node + " did not send at " + m + " of cycle " + cycle);
        }
    }

    /** The same for a frame with startup. */
    void sendStartup(int node, int cycle, int m, int id, int saidCycle) {
        send(node, cycle, m, PlainModel.word(id, saidCycle, 1, 0));
    }
}
