/** The edges of time: ticks, the phase that reaches 1000, slownesses, and who has no time. */
public final class PhaseTest {
    private static final Checks CHECKS = new Checks("PhaseTest");

    public static void main(String[] args) {
        aPhaseOfAThousandIsAMicrotick();
        slownessOfStarters();
        slownessOfTheOthers();
        phaseIsZeroWhenSwitchedOn();
        phaseIsZeroAlsoBehindHalting();
        CHECKS.end();
    }

    // "when it is 1000 or more then, it falls by 1000, and a MICROTICK of the node passes"
    private static void aPhaseOfAThousandIsAMicrotick() {
        Bench b = new Bench(10);
        b.bus.power(0);
        // With a slowness of 10 node 0 leads with microtick 160; in tick 200 its phase is 1000, in tick 201 it is 990.
        int[][] rows = {{198, 36}, {199, 37}, {200, 38}, {201, 38}, {202, 39}};
        for (int[] row : rows) {
            b.to(row[0]);
            CHECKS.due("microtick in tick " + row[0], b.bus.clock(0, 0), row[1]);
        }
        Bench even = new Bench(0);
        even.bus.power(0);
        even.to(160);
        for (int tick = 161; tick < 240; tick++) {
            even.to(tick);
            CHECKS.due("without slowness each tick is a microtick", even.bus.clock(0, 0), tick - 160);
        }
    }

    /** One byte for a node, and others for the other nodes. */
    private static int slow(int node, int value, int others) {
        int all = others * 0x01010101;
        return all & ~(255 << 8 * node) | value << 8 * node;
    }

    // "its SLOWNESS (byte i, from the lowest, of the constructor's argument, as 0 .. 255, modulo 31, for node i)"
    private static void slownessOfStarters() {
        for (int value = 0; value < 256; value++) {
            for (int node = 0; node < 2; node++) {
                Bench b = new Bench(slow(node, value, 255 - value));
                b.bus.power(node);
                b.to(1000);
                int led = 1000 - value % 31 - 160 - 20 * node;
                CHECKS.due("byte " + value + ": microtick", b.bus.clock(node, 0), led % 80);
                CHECKS.due("byte " + value + ": cycle", b.bus.clock(node, 1), led / 80);
            }
        }
    }

    /**
     * A node that is no starter joins node 0 in its second frame, 244 ticks behind node 0's switching on, and then
     * node 0 is gone: up to 60 of its cycle 3 the cycles have one length, and show each microtick that does not pass.
     */
    private static void slownessOfTheOthers() {
        for (int value = 0; value < 256; value++) {
            for (int node = 2; node < 4; node++) {
                for (int joins : new int[] {250, 410, 910}) {
                    microticksOfAJoiner(node, value, joins);
                }
            }
        }
    }

    private static void microticksOfAJoiner(int node, int value, int joins) {
        int slowness = value % 31;
        Bench b = new Bench(slow(node, value, 62));
        b.bus.power(node);
        b.to(joins - 244);
        b.bus.power(0);
        b.to(joins);
        CHECKS.due("byte " + value + ": state", b.bus.state(node), 3);
        b.bus.off(0);
        int before = Bench.passed(slowness, joins);
        int length = before - Bench.passed(slowness, joins - 80);
        for (int tick = joins; tick < joins + 200; tick++) {
            b.to(tick);
            int m = (4 + Bench.passed(slowness, tick) - before) % length;
            CHECKS.due("byte " + value + ": microtick in tick " + tick, b.bus.clock(node, 0), m);
        }
    }

    // "its PHASE (0 when it is switched on)"
    private static void phaseIsZeroWhenSwitchedOn() {
        Bench b = new Bench(30);
        b.bus.power(0);
        b.to(1);
        b.bus.off(0);
        b.bus.power(0);
        // 160 microticks need 165 ticks; with the 970 of the first tick 164 would do.
        b.to(1 + 164);
        CHECKS.due("state", b.bus.state(0), 1);
        b.to(1 + 165);
        CHECKS.due("state", b.bus.state(0), 2);
    }

    /** Node 0, of slowness 30, halts in its 968th tick with a phase of 960. */
    private static void phaseIsZeroAlsoBehindHalting() {
        Bench b = Bench.twoLeaders(30 | 16 << 8, 0);
        b.to(560);
        b.bus.off(1);
        b.to(987);
        CHECKS.due("passive", b.bus.state(0), 5);
        b.to(988);
        CHECKS.due("halted", b.bus.state(0), 6);
        b.to(1000);
        b.bus.power(0);
        b.to(1000 + 164);
        CHECKS.due("state", b.bus.state(0), 1);
        b.to(1000 + 165);
        CHECKS.due("state", b.bus.state(0), 2);
    }
}
