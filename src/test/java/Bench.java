/** A bus that is run up to a given tick, so that tests can say when things happen. */
final class Bench {
    final SlotBus bus;
    int now = 0;

    Bench(int slow) {
        bus = new SlotBus(slow);
    }

    /**
     * Nodes 0, 1 and 2 without slowness: 0 leads from tick 160 on, so its cycle c begins at tick
     * 160 + 80 c; the others listen from tick 164 on; all are active from tick 940 on.
     */
    static Bench trio() {
        Bench b = new Bench(0);
        b.bus.power(0);
        b.to(164);
        b.bus.power(1);
        b.bus.power(2);
        return b;
    }

    /** The trio and node 3, with the same times. */
    static Bench quartet() {
        Bench b = trio();
        b.bus.power(3);
        return b;
    }

    /** Two active starters with the times of the trio. */
    static Bench duo(int slow) {
        Bench b = new Bench(slow);
        b.bus.power(0);
        b.to(164);
        b.bus.power(1);
        return b;
    }

    /**
     * Both starters lead without having heard each other: node 1's cycle c begins at tick 180 + 80 c, node 0's
     * so many ticks later (-20 .. 3). They stand at the tick at which node 0 was switched on.
     */
    static Bench twoLeaders(int slow, int later) {
        Bench b = new Bench(slow);
        b.bus.power(1);
        b.to(20 + later);
        b.bus.power(0);
        return b;
    }

    /** How many microticks pass in the first so many ticks of a node that was switched on. */
    static int passed(int slowness, int ticks) {
        return (1000 - slowness) * ticks / 1000;
    }

    /** Runs up to this tick; answers how many frames were sent meanwhile. */
    int to(int tick) {
        int sent = 0;
        while (now < tick) {
            int step = Math.min(200, tick - now);
            sent += bus.run(step);
            now += step;
        }
        return sent;
    }

    /** The next word on the bus, due to be the first of these, becomes the second. */
    void forge(long due, long forged) {
        bus.disturb(due ^ forged);
    }
}
