/** Promises 1 (a new object), 2 (power), 3 (off), 5 (value), 6 (post), 7 (disturb), 8 (lose). */
public final class HostCallsTest {
    private static final Checks CHECKS = new Checks("HostCallsTest");
    private static final int[] NO_NODES = {-1, 4, Integer.MIN_VALUE, Integer.MAX_VALUE};

    public static void main(String[] args) {
        newObject();
        slownessIsAByteEach();
        lastByteIsNodeThree();
        power();
        powerBeginsAnew();
        offTellsTheState();
        value();
        postRefuses();
        messagesGoByTurns();
        messagesWaitForTheirCycle();
        sameIdAtOnce();
        messageWaitsUntilActive();
        disturb();
        noiseKeepsAListenerQuiet();
        lose();
        lostFramesAreNotHeard();
        CHECKS.end();
    }

    private static void newObject() {
        SlotBus bus = new SlotBus(-1);
        for (int i = 0; i < 4; i++) {
            int node = i;
            CHECKS.due("state of a new node", bus.state(node), 0);
            CHECKS.none("got of a new node", () -> bus.got(node, 1));
            CHECKS.none("deviation of a new node", () -> bus.deviation(node, (node + 1) % 4, true));
            CHECKS.state("clock of a new node", () -> bus.clock(node, 0));
        }
        CHECKS.due("frames", bus.frames(), 0);
        CHECKS.none("last", () -> bus.last());
        CHECKS.due("run", bus.run(200), 0);
        CHECKS.due("to be lost", bus.lose(0), 0);
    }

    /** A starter i leads at the first tick t at which (1000 - slowness) * t reaches 1000 * (160 + 20 i). */
    private static void slownessIsAByteEach() {
        int[][] rows = {{0, 0, 160}, {30, 0, 165}, {31, 0, 160}, {255, 0, 162}, {0x1E00, 0, 160},
            {0x1E00, 1, 186}, {30, 1, 180}, {-1, 1, 182}, {0x1F1F1F1F, 1, 180}};
        for (int[] row : rows) {
            Bench b = new Bench(row[0]);
            b.bus.power(row[1]);
            b.to(row[2] - 1);
            CHECKS.due("slow " + row[0] + ", state before", b.bus.state(row[1]), 1);
            b.to(row[2]);
            CHECKS.due("slow " + row[0] + ", state", b.bus.state(row[1]), 2);
        }
    }

    private static void lastByteIsNodeThree() {
        Bench b = new Bench(0xFF000000);
        b.bus.power(0);
        b.to(163);
        b.bus.power(3);
        b.to(244);
        CHECKS.due("node 3 joins", b.bus.state(3), 3);
        CHECKS.due("with its rate", b.bus.clock(3, 2), 0);
        b.to(324);
        // 255 % 31 = 7: in 161 ticks 159 microticks pass, 80 in the first 81.
        CHECKS.due("node 3 lags", b.bus.deviation(3, 0, false), -1);
    }

    private static void power() {
        SlotBus bus = new SlotBus(0);
        for (int node : NO_NODES) {
            CHECKS.argument("power of no node", () -> bus.power(node));
            CHECKS.argument("off of no node", () -> bus.off(node));
            CHECKS.argument("state of no node", () -> bus.state(node));
        }
        for (int i = 0; i < 4; i++) {
            int node = i;
            bus.power(node);
            CHECKS.due("state", bus.state(node), 1);
            CHECKS.state("power again", () -> bus.power(node));
            CHECKS.due("state after that", bus.state(node), 1);
        }
        bus.run(160);
        CHECKS.state("power of a leader", () -> bus.power(0));
        CHECKS.due("state of the leader", bus.state(0), 2);
    }

    private static void powerBeginsAnew() {
        Bench b = Bench.trio();
        b.to(941);
        b.bus.value(0, 77);
        b.bus.post(0, 5, 1, 0, 1);
        b.to(970);
        CHECKS.due("got before", b.bus.got(0, 2), 0);
        for (int node = 0; node < 3; node++) {
            b.bus.off(node);
        }
        CHECKS.due("off keeps what was got", b.bus.got(0, 2), 0);
        b.to(1000);
        b.bus.power(0);
        CHECKS.none("got after", () -> b.bus.got(0, 2));
        CHECKS.none("deviation after", () -> b.bus.deviation(0, 1, false));
        b.to(1159);
        CHECKS.due("quiet begins anew", b.bus.state(0), 1);
        b.to(1160);
        CHECKS.due("and leads", b.bus.state(0), 2);
        b.to(1164);
        CHECKS.due("value 0 again", b.bus.last(), b.bus.encode(1, 0, true, 0));
        b.bus.post(0, 6, 1, 0, 1);
        CHECKS.state("only this message", () -> b.bus.post(0, 6, 1, 0, 1));
    }

    private static void offTellsTheState() {
        Bench b = Bench.trio();
        CHECKS.due("off of an off node", b.bus.off(3), 0);
        CHECKS.due("off of a listening node", b.bus.off(2), 1);
        CHECKS.due("state then", b.bus.state(2), 0);
        b.bus.power(2);
        b.to(500);
        CHECKS.due("off of a joining node", b.bus.off(2), 3);
        b.to(890);
        CHECKS.due("off of an active node", b.bus.off(1), 4);
        // Node 1 was heard in cycle 8, not in 9: node 0 is passive at 160 + 9 * 80 + 60.
        b.to(940);
        CHECKS.due("passive", b.bus.state(0), 5);
        CHECKS.due("off of a passive node", b.bus.off(0), 5);
        Bench c = Bench.duo(0);
        CHECKS.due("off of a leader", c.bus.off(0), 2);
        CHECKS.due("an off node sends nothing", c.to(340), 0);
        Bench d = Bench.trio();
        d.to(960);
        d.bus.off(0);
        d.bus.off(1);
        d.to(1420);
        CHECKS.due("off of a halted node", d.bus.off(2), 6);
        CHECKS.due("off again", d.bus.off(2), 0);
    }

    private static void value() {
        Bench b = new Bench(0);
        CHECKS.state("value of an off node", () -> b.bus.value(0, 1));
        CHECKS.argument("wrong value of an off node", () -> b.bus.value(0, 1024));
        b.bus.power(0);
        CHECKS.argument("value -1", () -> b.bus.value(0, -1));
        CHECKS.argument("value 1024", () -> b.bus.value(0, 1024));
        for (int node : NO_NODES) {
            CHECKS.argument("value of no node", () -> b.bus.value(node, 0));
        }
        b.bus.value(0, 1023);
        b.to(164);
        CHECKS.due("last", b.bus.last(), b.bus.encode(1, 0, true, 1023));
        b.bus.value(0, 6);
        CHECKS.argument("value 2000", () -> b.bus.value(0, 2000));
        b.to(244);
        CHECKS.due("last", b.bus.last(), b.bus.encode(1, 1, true, 6));
        b.bus.value(0, 0);
        b.to(324);
        CHECKS.due("last", b.bus.last(), b.bus.encode(1, 2, true, 0));
    }

    private static void postRefuses() {
        SlotBus bus = new SlotBus(0);
        CHECKS.state("post to an off node", () -> bus.post(3, 5, 0, 0, 1));
        CHECKS.argument("wrong post to an off node", () -> bus.post(3, 10, 0, 0, 1));
        bus.power(3);
        for (int node : NO_NODES) {
            CHECKS.argument("post to no node", () -> bus.post(node, 5, 0, 0, 1));
        }
        int[][] wrong = {{4, 0, 0, 1}, {10, 0, 0, 1}, {-5, 0, 0, 1}, {5, -1, 0, 1}, {5, 1024, 0, 1}, {5, 0, 0, 0},
            {5, 0, 0, 3}, {5, 0, 0, 5}, {5, 0, 0, 8}, {5, 0, 0, -1}, {5, 0, -1, 1}, {5, 0, 1, 1}, {5, 0, 2, 2},
            {5, 0, 4, 4}, {5, 0, -1, 4}};
        for (int[] w : wrong) {
            CHECKS.argument("post of " + java.util.Arrays.toString(w), () -> bus.post(3, w[0], w[1], w[2], w[3]));
        }
        bus.post(3, 9, 1023, 3, 4);
        CHECKS.state("a second message", () -> bus.post(3, 9, 1023, 3, 4));
        CHECKS.argument("a second one that is wrong", () -> bus.post(3, 9, 1024, 3, 4));
    }

    private static void messagesGoByTurns() {
        Bench b = Bench.trio();
        b.to(995);
        b.bus.post(1, 5, 10, 0, 1);
        b.bus.post(2, 6, 1023, 0, 1);
        b.bus.post(0, 9, 0, 0, 1);
        CHECKS.due("nothing before 42", b.to(1001), 0);
        CHECKS.due("id 5 at 42", b.to(1002), 1);
        CHECKS.due("its word", b.bus.last(), b.bus.encode(5, 10, false, 10));
        CHECKS.due("got by 0", b.bus.got(0, 5), 10);
        CHECKS.due("got by 2", b.bus.got(2, 5), 10);
        CHECKS.none("not by its sender", () -> b.bus.got(1, 5));
        CHECKS.due("nothing before 50", b.to(1009), 0);
        CHECKS.due("id 6 at 50", b.to(1010), 1);
        CHECKS.due("its word", b.bus.last(), b.bus.encode(6, 10, false, 1023));
        // Two messages took a minislot more each, so the turn of 9 does not come: 5, 5, 6, 6, 7.
        for (int node = 0; node < 3; node++) {
            CHECKS.due("number at 50", b.bus.clock(node, 5), 6);
        }
        b.to(1012);
        CHECKS.due("number at 52", b.bus.clock(0, 5), 6);
        b.to(1016);
        CHECKS.due("number at 56", b.bus.clock(0, 5), 7);
        CHECKS.due("nothing more", b.to(1040), 0);
        CHECKS.due("three slots of the next cycle", b.to(1097), 3);
        CHECKS.due("id 9 at 58", b.to(1098), 1);
        CHECKS.due("its word", b.bus.last(), b.bus.encode(9, 11, false, 0));
        CHECKS.due("got by 1", b.bus.got(1, 9), 0);
        CHECKS.due("a message goes once", b.to(1194), 3);
    }

    private static void messagesWaitForTheirCycle() {
        int[][] rows = {{0, 1, 10}, {0, 2, 10}, {1, 2, 11}, {2, 4, 10}, {3, 4, 11}, {0, 4, 12}, {1, 4, 13}};
        for (int[] row : rows) {
            Bench b = Bench.trio();
            b.to(959);
            b.bus.post(0, 7, 5, row[0], row[1]);
            int sendsAt = 160 + 80 * row[2] + 50;
            b.to(sendsAt - 1);
            CHECKS.none("base " + row[0] + " of " + row[1] + ", before", () -> b.bus.got(2, 7));
            b.to(sendsAt);
            CHECKS.due("base " + row[0] + " of " + row[1], b.bus.got(2, 7), 5);
            CHECKS.due("its word", b.bus.last(), b.bus.encode(7, row[2], false, 5));
        }
    }

    private static void sameIdAtOnce() {
        Bench b = Bench.trio();
        b.to(990);
        b.bus.post(0, 5, 1, 0, 1);
        b.bus.post(1, 5, 2, 0, 1);
        b.bus.post(2, 5, 3, 0, 1);
        long last = b.bus.last();
        CHECKS.due("three frames at once", b.to(1002), 3);
        CHECKS.due("no word of them", b.bus.last(), last);
        CHECKS.none("nothing got", () -> b.bus.got(0, 5));
        b.bus.post(0, 5, 4, 0, 1);
        CHECKS.due("the number stands for a turn", b.to(1006), 1);
        CHECKS.due("so the same id goes again", b.bus.got(1, 5), 4);
    }

    private static void messageWaitsUntilActive() {
        Bench b = Bench.trio();
        b.bus.post(0, 5, 1, 0, 1);
        b.bus.post(2, 8, 2, 0, 1);
        b.to(841);
        CHECKS.none("a leader sends no message", () -> b.bus.got(1, 5));
        b.to(842);
        CHECKS.due("an active node does", b.bus.got(1, 5), 1);
        b.to(1013);
        CHECKS.none("a joining node sends no message", () -> b.bus.got(1, 8));
        b.to(1014);
        CHECKS.due("an active node does", b.bus.got(1, 8), 2);
    }

    private static void disturb() {
        Bench b = Bench.trio();
        CHECKS.argument("bit 57", () -> b.bus.disturb(1L << 57));
        CHECKS.argument("bit 63", () -> b.bus.disturb(Long.MIN_VALUE));
        CHECKS.argument("all bits", () -> b.bus.disturb(-1));
        b.to(1041);
        b.bus.value(0, 5);
        b.bus.value(1, 6);
        b.bus.disturb(1L << 56);
        b.bus.disturb(0);
        b.bus.disturb(1L << 56 ^ 1L << 30);
        b.to(1044);
        CHECKS.due("the disturbed word", b.bus.last(), b.bus.encode(1, 11, true, 5) ^ 1L << 30);
        CHECKS.due("is not got", b.bus.got(1, 1), 0);
        CHECKS.none("and has no deviation", () -> b.bus.deviation(1, 0, true));
        b.to(1054);
        CHECKS.due("the next is as sent", b.bus.last(), b.bus.encode(2, 11, true, 6));
        CHECKS.due("and got", b.bus.got(0, 2), 6);
        b.bus.disturb(1L << 40);
        b.to(1064);
        CHECKS.none("the head's check counts, too", () -> b.bus.deviation(0, 2, true));
        b.bus.disturb((1L << 57) - 1);
        b.to(1124);
        CHECKS.due("all bits", b.bus.last(), b.bus.encode(1, 12, true, 5) ^ (1L << 57) - 1);
    }

    private static void noiseKeepsAListenerQuiet() {
        Bench b = Bench.duo(0);
        for (int cycle = 1; cycle < 8; cycle++) {
            b.bus.disturb(1);
            b.to(164 + 80 * cycle);
            CHECKS.due("noise is heard, but no frame", b.bus.state(1), 1);
        }
    }

    private static void lose() {
        SlotBus bus = new SlotBus(0);
        CHECKS.argument("lose(-1)", () -> bus.lose(-1));
        CHECKS.argument("lose(1001)", () -> bus.lose(1001));
        CHECKS.argument("lose(greatest)", () -> bus.lose(Integer.MAX_VALUE));
        CHECKS.due("lose(0)", bus.lose(0), 0);
        CHECKS.due("lose(1)", bus.lose(1), 1);
        CHECKS.argument("lose(1000)", () -> bus.lose(1000));
        CHECKS.argument("lose(greatest)", () -> bus.lose(Integer.MAX_VALUE));
        CHECKS.argument("lose(least)", () -> bus.lose(Integer.MIN_VALUE));
        CHECKS.due("lose(999)", bus.lose(999), 1000);
        CHECKS.due("lose(0)", bus.lose(0), 1000);
        CHECKS.argument("lose(1)", () -> bus.lose(1));
    }

    private static void lostFramesAreNotHeard() {
        Bench b = Bench.trio();
        b.to(1041);
        b.bus.value(0, 5);
        b.bus.lose(2);
        b.bus.disturb(2);
        b.to(1044);
        CHECKS.due("a lost word was on the bus", b.bus.last(), b.bus.encode(1, 11, true, 5) ^ 2);
        CHECKS.due("one fewer", b.bus.lose(0), 1);
        CHECKS.due("it is not got", b.bus.got(1, 1), 0);
        CHECKS.none("and has no deviation", () -> b.bus.deviation(1, 0, true));
        b.to(1064);
        CHECKS.none("nor has the second", () -> b.bus.deviation(0, 1, true));
        CHECKS.due("the third has", b.bus.deviation(0, 2, true), 0);
        CHECKS.due("none to be lost", b.bus.lose(0), 0);
        Bench c = Bench.duo(0);
        c.bus.lose(1000);
        c.to(343);
        CHECKS.due("who hears nothing listens", c.bus.state(1), 1);
        c.to(344);
        CHECKS.due("and leads", c.bus.state(1), 2);
    }
}
