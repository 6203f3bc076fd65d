/** "An object is used for at most 512 calls": the last of them still answers as the first ones do. */
public final class LongUseTest {
    private static final Checks CHECKS = new Checks("LongUseTest");

    public static void main(String[] args) {
        manyRuns();
        manyLosses();
        CHECKS.end();
    }

    /** Four active nodes send 20 frames in 400 ticks, from tick 1000 on, which is at 40 of a cycle. */
    private static void manyRuns() {
        Bench b = Bench.quartet();
        b.to(1000);
        int before = b.bus.frames();
        // Up to here there were 6 runs, 4 calls of power and one of frames.
        for (int i = 0; i < 249; i++) {
            CHECKS.due("400 ticks from " + b.now, b.to(b.now + 400), 20);
        }
        CHECKS.due("call 510: frames", b.bus.frames(), before + 249 * 20);
        CHECKS.due("call 511: cycle", b.bus.clock(3, 1), (b.now - 160) / 80 % 64);
        CHECKS.due("call 512: state", b.bus.state(3), 4);
    }

    // the same with a call that counts
    private static void manyLosses() {
        SlotBus bus = new SlotBus(0);
        for (int call = 1; call < 512; call++) {
            CHECKS.due("call " + call, bus.lose(1), call);
        }
        CHECKS.due("call 512", bus.lose(489), 1000);
    }
}
