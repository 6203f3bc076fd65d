/** Promises 4 (run), 9 (state), 10 (clock), 13 (frames), 14 (last). */
public final class TimeTest {
    private static final Checks CHECKS = new Checks("TimeTest");

    public static void main(String[] args) {
        runRefuses();
        clockRefuses();
        startUp();
        cyclesWrap();
        numbersInACycle();
        leadersAtOnce();
        collisions();
        aLeaderYields();
        aLonelyLeaderGivesUp();
        aJoinerGivesUp();
        passiveAndHalted();
        passiveAndActive();
        slowNodesAreCorrected();
        CHECKS.end();
    }

    private static void clockIs(Bench b, int node, int... wanted) {
        for (int what = 0; what < wanted.length; what++) {
            CHECKS.due("tick " + b.now + ", clock(" + node + ", " + what + ")", b.bus.clock(node, what), wanted[what]);
        }
    }

    private static void stateIs(Bench b, int tick, int node, int before, int then) {
        b.to(tick - 1);
        CHECKS.due("tick " + b.now + ", state(" + node + ")", b.bus.state(node), before);
        b.to(tick);
        CHECKS.due("tick " + b.now + ", state(" + node + ")", b.bus.state(node), then);
    }

    private static void runRefuses() {
        SlotBus bus = new SlotBus(0);
        bus.power(0);
        for (int n : new int[] {0, -1, 201, Integer.MIN_VALUE, Integer.MAX_VALUE}) {
            CHECKS.argument("run(" + n + ")", () -> bus.run(n));
        }
        CHECKS.due("run(200)", bus.run(200), 1);
        CHECKS.due("run(43)", bus.run(43), 0);
        CHECKS.due("run(1)", bus.run(1), 1);
    }

    private static void clockRefuses() {
        Bench b = Bench.trio();
        for (int node : new int[] {-1, 4}) {
            CHECKS.argument("clock of no node", () -> b.bus.clock(node, 0));
        }
        for (int what : new int[] {-1, 6, Integer.MAX_VALUE, Integer.MIN_VALUE}) {
            CHECKS.argument("no such clock", () -> b.bus.clock(0, what));
            CHECKS.argument("no such clock of an off node", () -> b.bus.clock(3, what));
        }
        CHECKS.state("clock of an off node", () -> b.bus.clock(3, 0));
        CHECKS.state("clock of a listening node", () -> b.bus.clock(1, 5));
    }

    private static void startUp() {
        Bench b = new Bench(0);
        b.bus.power(0);
        CHECKS.none("no word yet", () -> b.bus.last());
        stateIs(b, 160, 0, 1, 2);
        clockIs(b, 0, 0, 0, 0, 0, 0, 0);
        CHECKS.due("nothing before 4", b.to(163), 0);
        CHECKS.due("a frame at 4", b.to(164), 1);
        CHECKS.due("frames", b.bus.frames(), 1);
        CHECKS.due("last", b.bus.last(), b.bus.encode(1, 0, true, 0));
        b.bus.power(1);
        b.bus.power(2);
        stateIs(b, 404, 1, 1, 3);
        clockIs(b, 1, 4, 3, 0, 0, -1, 0);
        clockIs(b, 2, 4, 3, 0, 0, -1, 0);
        b.to(459);
        clockIs(b, 1, 59, 3, 0, 0, -1, 9);
        b.to(460);
        clockIs(b, 1, 60, 3, 0, 0, 0, 9);
        b.to(619);
        clockIs(b, 1, 59, 5, 0, 0, 0);
        b.to(620);
        clockIs(b, 1, 60, 5, 0, 0, 1);
        // Only one node was heard: too few for one that is no starter.
        clockIs(b, 2, 60, 5, 0, 0, 0);
        b.to(653);
        CHECKS.due("the leader's frames", b.bus.frames(), 7);
        b.to(654);
        CHECKS.due("a starter that has counted sends", b.bus.last(), b.bus.encode(2, 6, true, 0));
        CHECKS.due("frames", b.bus.frames(), 8);
        stateIs(b, 780, 0, 2, 4);
        CHECKS.due("state(1)", b.bus.state(1), 4);
        CHECKS.due("state(2)", b.bus.state(2), 3);
        clockIs(b, 1, 60, 7, 0, 0, 2);
        clockIs(b, 2, 60, 7, 0, 0, 1);
        CHECKS.due("no starter: it does not send while joining", b.to(939), 4);
        stateIs(b, 940, 2, 3, 4);
        clockIs(b, 2, 60, 9, 0, 0, 2);
        b.to(984);
        CHECKS.due("node 2 sends", b.bus.last(), b.bus.encode(3, 10, false, 0));
    }

    private static void cyclesWrap() {
        Bench b = Bench.trio();
        b.to(5279);
        clockIs(b, 0, 79, 63);
        b.to(5280);
        clockIs(b, 0, 0, 0);
        clockIs(b, 1, 0, 0);
        b.to(5284);
        CHECKS.due("last", b.bus.last(), b.bus.encode(1, 0, true, 0));
        CHECKS.due("state(2)", b.bus.state(2), 4);
    }

    private static void numbersInACycle() {
        Bench b = Bench.trio();
        int[][] rows = {{39, 9}, {40, 5}, {43, 5}, {44, 6}, {47, 6}, {48, 7}, {52, 8}, {55, 8}, {56, 9}, {79, 9}};
        for (int[] row : rows) {
            b.to(960 + row[0]);
            clockIs(b, 0, row[0], 10, 0, 0, 0, row[1]);
            clockIs(b, 1, row[0], 10, 0, 0, 2, row[1]);
        }
    }

    private static void leadersAtOnce() {
        Bench b = new Bench(0);
        b.bus.power(1);
        b.to(20);
        b.bus.power(0);
        b.to(180);
        CHECKS.due("state(0)", b.bus.state(0), 2);
        CHECKS.due("state(1)", b.bus.state(1), 2);
        CHECKS.due("both send in cycle 0", b.to(260), 2);
        CHECKS.due("deviation(0, 1, false)", b.bus.deviation(0, 1, false), 0);
        stateIs(b, 320, 0, 2, 4);
        CHECKS.due("state(1)", b.bus.state(1), 4);
    }

    /** Node 1 leads ten ticks before node 0: their slots fall together. */
    private static void collisions() {
        Bench b = new Bench(0);
        b.bus.power(1);
        b.to(30);
        b.bus.power(0);
        b.bus.disturb(1);
        b.bus.lose(1);
        CHECKS.due("nothing yet", b.to(193), 0);
        CHECKS.due("two at once", b.to(194), 2);
        CHECKS.due("frames", b.bus.frames(), 2);
        CHECKS.none("no word of them", () -> b.bus.last());
        CHECKS.due("none was lost", b.bus.lose(0), 1);
        stateIs(b, 1120, 1, 2, 1);
        stateIs(b, 1130, 0, 2, 1);
        CHECKS.due("frames of twelve cycles", b.bus.frames(), 24);
        stateIs(b, 1290, 0, 1, 2);
        CHECKS.none("no word yet", () -> b.bus.last());
        b.to(1294);
        CHECKS.due("the first word is disturbed", b.bus.last(), b.bus.encode(1, 0, true, 0) ^ 1);
        CHECKS.due("and lost", b.bus.lose(0), 0);
        stateIs(b, 1300, 1, 1, 2);
    }

    private static void aLeaderYields() {
        Bench b = new Bench(0);
        b.bus.power(1);
        b.to(40);
        b.bus.power(0);
        b.bus.lose(1);
        b.to(203);
        CHECKS.due("state(0)", b.bus.state(0), 2);
        stateIs(b, 204, 1, 2, 1);
        CHECKS.due("the other leads on", b.bus.state(0), 2);
        CHECKS.state("no clock", () -> b.bus.clock(1, 0));
    }

    private static void aLonelyLeaderGivesUp() {
        Bench b = new Bench(0);
        b.bus.power(0);
        stateIs(b, 160 + 11 * 80 + 60, 0, 2, 1);
        CHECKS.due("frames", b.bus.frames(), 12);
        stateIs(b, 160 + 11 * 80 + 60 + 160, 0, 1, 2);
        clockIs(b, 0, 0, 0, 0, 0, 0, 0);
    }

    private static void aJoinerGivesUp() {
        Bench b = Bench.trio();
        b.to(500);
        b.bus.off(0);
        b.to(619);
        CHECKS.due("heard in the even cycle", b.bus.deviation(1, 0, false), 0);
        stateIs(b, 620, 1, 3, 1);
        CHECKS.due("state(2)", b.bus.state(2), 1);
        CHECKS.none("no deviation", () -> b.bus.deviation(1, 0, false));
        stateIs(b, 800, 1, 1, 2);
        CHECKS.due("no starter: it listens on", b.bus.state(2), 1);
    }

    private static void passiveAndHalted() {
        Bench b = Bench.trio();
        b.to(960);
        b.bus.off(0);
        b.bus.off(1);
        stateIs(b, 1100, 2, 4, 5);
        clockIs(b, 2, 60, 11, 0, 0, 1);
        int sent = b.bus.frames();
        b.to(1260);
        clockIs(b, 2, 60, 13, 0, 0, 2);
        stateIs(b, 1420, 2, 5, 6);
        CHECKS.due("it was silent", b.bus.frames(), sent);
        CHECKS.state("no clock", () -> b.bus.clock(2, 0));
        b.bus.value(2, 9);
        b.bus.post(2, 5, 9, 0, 1);
        CHECKS.state("a halted node has one message", () -> b.bus.post(2, 5, 9, 0, 1));
        CHECKS.due("it still has what it got", b.bus.got(2, 1), 0);
        CHECKS.due("it stays", b.to(1600), 0);
        CHECKS.due("halted", b.bus.state(2), 6);
        b.bus.power(2);
        CHECKS.due("power", b.bus.state(2), 1);
        CHECKS.none("got", () -> b.bus.got(2, 1));
        b.bus.post(2, 5, 9, 0, 1);
    }

    private static void passiveAndActive() {
        Bench b = Bench.trio();
        b.to(960);
        b.bus.off(0);
        b.bus.off(1);
        b.bus.power(0);
        b.bus.lose(2);
        b.to(1120);
        CHECKS.due("state(2)", b.bus.state(2), 5);
        CHECKS.due("state(0)", b.bus.state(0), 2);
        // Node 0 leads in time with node 2, but counts its cycles from 0.
        b.forge(b.bus.encode(1, 0, true, 0), b.bus.encode(1, 12, true, 1));
        b.to(1124);
        CHECKS.due("a passive node hears", b.bus.got(2, 1), 1);
        CHECKS.due("deviation", b.bus.deviation(2, 0, false), 0);
        b.forge(b.bus.encode(1, 1, true, 0), b.bus.encode(1, 13, true, 2));
        stateIs(b, 1260, 2, 5, 4);
        clockIs(b, 2, 60, 13, 0, 0, 1);
        stateIs(b, 1420, 2, 4, 5);
        clockIs(b, 2, 60, 15, 0, 0, 1);
    }

    private static void slowNodesAreCorrected() {
        Bench b = new Bench(0x1E00000A);
        for (int node = 0; node < 4; node++) {
            b.bus.power(node);
        }
        for (int cycle = 0; cycle < 60; cycle++) {
            b.to(160 + 81 * cycle);
        }
        for (int node = 0; node < 4; node++) {
            CHECKS.due("state(" + node + ")", b.bus.state(node), 4);
        }
        CHECKS.due("the slowest node has the shortest cycle", b.bus.clock(3, 2) < b.bus.clock(1, 2));
        int least = 80;
        int most = 0;
        for (int node = 0; node < 4; node++) {
            least = Math.min(least, b.bus.clock(node, 0));
            most = Math.max(most, b.bus.clock(node, 0));
        }
        CHECKS.due("they are together", most - least <= 3 || most - least >= 75);
    }
}
