/** Promises 11 (deviation) and 12 (got), and how frames that were forged by a disturbance are heard. */
public final class HearingTest {
    private static final Checks CHECKS = new Checks("HearingTest");

    public static void main(String[] args) {
        refuses();
        deviationsAreForgotten();
        gotIsTheLatest();
        noisyFrames();
        otherCycles();
        frameOfNoStarter();
        frameInAWrongSlot();
        messagesOnlyInMinislots();
        aMessageTakesTheTurn();
        joinsAtSeventy();
        doesNotJoinAtSixtyNine();
        joinsAtNinety();
        anotherFirstOne();
        aFirstOneIsForgotten();
        oldFirstOneGivesWay();
        ninetyIsTheEdge();
        ratesAndOffsets();
        ownIdIsNoDeviation();
        CHECKS.end();
    }

    private static void refuses() {
        SlotBus bus = new SlotBus(0);
        for (int wrong : new int[] {-1, 4, Integer.MIN_VALUE, Integer.MAX_VALUE}) {
            CHECKS.argument("deviation of no node", () -> bus.deviation(wrong, 0, true));
            CHECKS.argument("deviation of no sender", () -> bus.deviation(0, wrong, true));
            CHECKS.argument("got of no node", () -> bus.got(wrong, 1));
        }
        for (int wrong : new int[] {0, 10, -1, Integer.MAX_VALUE, Integer.MIN_VALUE}) {
            CHECKS.argument("got of no id", () -> bus.got(0, wrong));
        }
        for (int id = 1; id <= 9; id++) {
            int asked = id;
            CHECKS.none("nothing got", () -> bus.got(3, asked));
        }
        CHECKS.none("no deviation of itself", () -> bus.deviation(2, 2, false));
        CHECKS.none("no deviation", () -> bus.deviation(2, 3, true));
    }

    private static void deviationsAreForgotten() {
        Bench b = Bench.trio();
        b.to(963);
        CHECKS.none("before", () -> b.bus.deviation(1, 0, false));
        b.to(964);
        CHECKS.due("even", b.bus.deviation(1, 0, false), 0);
        CHECKS.none("odd not yet", () -> b.bus.deviation(1, 0, true));
        CHECKS.none("none of itself", () -> b.bus.deviation(0, 0, false));
        b.to(1044);
        CHECKS.due("odd", b.bus.deviation(1, 0, true), 0);
        b.to(1119);
        CHECKS.due("even to the end", b.bus.deviation(1, 0, false), 0);
        b.to(1120);
        CHECKS.none("even is forgotten", () -> b.bus.deviation(1, 0, false));
        CHECKS.none("odd is forgotten", () -> b.bus.deviation(1, 0, true));
    }

    private static void gotIsTheLatest() {
        Bench b = Bench.trio();
        b.to(404);
        CHECKS.none("what makes it join is not got", () -> b.bus.got(1, 1));
        b.bus.value(0, 3);
        b.to(484);
        CHECKS.due("then it is", b.bus.got(1, 1), 3);
        b.bus.value(0, 4);
        b.to(563);
        CHECKS.due("the latest", b.bus.got(1, 1), 3);
        b.to(564);
        CHECKS.due("the latest", b.bus.got(1, 1), 4);
        CHECKS.none("not from itself", () -> b.bus.got(0, 1));
        b.bus.off(1);
        CHECKS.due("an off node has it still", b.bus.got(1, 1), 4);
        CHECKS.due("and its deviations", b.bus.deviation(1, 0, true), 0);
    }

    /** At tick 964 node 0 sends encode(1, 10, true, 0). */
    private static Bench forged(int id, int cycle, boolean startup, int value) {
        Bench b = Bench.trio();
        b.to(963);
        b.forge(b.bus.encode(1, 10, true, 0), b.bus.encode(id, cycle, startup, value));
        b.to(964);
        CHECKS.due("the forged word", b.bus.last(), b.bus.encode(id, cycle, startup, value));
        return b;
    }

    private static void noisyFrames() {
        Bench right = forged(1, 10, true, 9);
        CHECKS.due("a right frame", right.bus.got(1, 1), 9);
        Bench plain = forged(1, 10, false, 9);
        CHECKS.due("startup 0 is right, too", plain.bus.got(1, 1), 9);
        for (int id : new int[] {0, 10, 31}) {
            Bench b = forged(id, 10, false, 9);
            CHECKS.due("id " + id, b.bus.got(1, 1), 0);
            CHECKS.none("id " + id, () -> b.bus.deviation(1, 0, false));
        }
        // In slot 2 (tick 984) a frame of node 2 that says startup is noise.
        Bench b = Bench.trio();
        b.to(1063);
        b.forge(b.bus.encode(3, 11, false, 0), b.bus.encode(3, 11, true, 9));
        b.to(1064);
        CHECKS.due("id 3 with startup", b.bus.got(0, 3), 0);
        CHECKS.none("id 3 with startup", () -> b.bus.deviation(0, 2, true));
        b.bus.post(0, 5, 0, 0, 1);
        b.to(1081);
        b.forge(b.bus.encode(5, 11, false, 0), b.bus.encode(5, 11, true, 9));
        b.to(1082);
        CHECKS.none("id 5 with startup", () -> b.bus.got(1, 5));
    }

    private static void otherCycles() {
        for (int cycle : new int[] {9, 11, 12, 42}) {
            Bench b = forged(1, cycle, true, 9);
            CHECKS.due("a frame of cycle " + cycle, b.bus.got(1, 1), 0);
            CHECKS.none("a frame of cycle " + cycle, () -> b.bus.deviation(1, 0, false));
            CHECKS.due("an active node stays active", b.bus.state(1), 4);
        }
    }

    /** A leader listens when a startup frame does not fit, and only then. */
    private static void frameOfNoStarter() {
        for (int startup = 0; startup < 2; startup++) {
            Bench b = new Bench(0);
            b.bus.power(1);
            b.to(20);
            b.bus.power(0);
            b.to(183);
            b.forge(b.bus.encode(1, 0, true, 0), b.bus.encode(1, 1, startup == 1, 0));
            b.to(184);
            CHECKS.due("startup " + startup, b.bus.state(1), startup == 1 ? 1 : 2);
        }
    }

    private static void frameInAWrongSlot() {
        Bench b = forged(3, 10, false, 9);
        CHECKS.none("id 3 at 4", () -> b.bus.deviation(1, 2, false));
        CHECKS.none("id 3 at 4", () -> b.bus.got(1, 3));
        Bench c = forged(2, 10, true, 9);
        CHECKS.due("id 2 at 4", c.bus.got(2, 2), 0);
        CHECKS.due("state(2)", c.bus.state(2), 4);
    }

    private static void messagesOnlyInMinislots() {
        Bench b = forged(5, 10, false, 9);
        CHECKS.none("id 5 at 4", () -> b.bus.got(1, 5));
        Bench c = Bench.trio();
        c.to(990);
        c.bus.post(0, 5, 9, 0, 1);
        c.forge(c.bus.encode(5, 10, false, 9), c.bus.encode(5, 11, false, 9));
        c.to(1002);
        CHECKS.none("id 5 of another cycle", () -> c.bus.got(1, 5));
        CHECKS.due("its turn is not taken", c.bus.clock(1, 5), 5);
        c.to(1004);
        CHECKS.due("node 1 goes on", c.bus.clock(1, 5), 6);
        CHECKS.due("the sender holds", c.bus.clock(0, 5), 5);
    }

    private static void aMessageTakesTheTurn() {
        Bench b = Bench.trio();
        b.to(990);
        b.bus.post(0, 5, 9, 0, 1);
        b.bus.post(1, 8, 7, 0, 1);
        b.forge(b.bus.encode(5, 10, false, 9), b.bus.encode(8, 10, false, 6));
        b.to(1002);
        CHECKS.due("number of the sender", b.bus.clock(0, 5), 5);
        CHECKS.due("number of a hearer", b.bus.clock(1, 5), 8);
        CHECKS.due("got", b.bus.got(2, 8), 6);
        b.to(1004);
        CHECKS.due("it holds for a minislot", b.bus.clock(1, 5), 8);
        b.to(1006);
        CHECKS.due("then node 1 sends", b.bus.got(2, 8), 7);
        CHECKS.due("and the sender hears it", b.bus.clock(0, 5), 8);
    }

    /** Node 3 hears slot 0 in tick 964, slot 1 in 974, and those of cycle 11 in 1044 and 1054. */
    private static Bench withListener(int slow) {
        Bench b = Bench.duo(slow);
        b.to(960);
        b.bus.power(3);
        b.to(973);
        return b;
    }

    private static void joinsAtSeventy() {
        Bench b = withListener(0);
        b.forge(b.bus.encode(2, 10, true, 0), b.bus.encode(1, 10, true, 0));
        b.to(1043);
        CHECKS.due("it listens", b.bus.state(3), 1);
        b.to(1044);
        CHECKS.due("it joins", b.bus.state(3), 3);
        CHECKS.due("m", b.bus.clock(3, 0), 4);
        CHECKS.due("cycle", b.bus.clock(3, 1), 11);
        CHECKS.due("rate", b.bus.clock(3, 2), -4);
        // Its cycle of 76 ends in tick 1116: m is 8 in tick 1124, 4 too many.
        b.to(1115);
        CHECKS.due("m", b.bus.clock(3, 0), 75);
        b.to(1116);
        CHECKS.due("m", b.bus.clock(3, 0), 0);
        b.to(1124);
        CHECKS.none("a deviation of 4", () -> b.bus.deviation(3, 0, false));
        CHECKS.none("a deviation of 4", () -> b.bus.got(3, 1));
    }

    private static void doesNotJoinAtSixtyNine() {
        // Slowness 15: of the 70 ticks 69 pass as microticks (13 in 14 ticks, 82 in 84).
        Bench b = withListener(0x0F000000);
        b.forge(b.bus.encode(2, 10, true, 0), b.bus.encode(1, 10, true, 0));
        b.to(1044);
        CHECKS.due("it listens", b.bus.state(3), 1);
    }

    private static void joinsAtNinety() {
        Bench b = withListener(0);
        b.to(1043);
        b.bus.lose(1);
        b.to(1053);
        CHECKS.due("it listens", b.bus.state(3), 1);
        b.forge(b.bus.encode(2, 11, true, 0), b.bus.encode(1, 11, true, 0));
        b.to(1054);
        CHECKS.due("it joins", b.bus.state(3), 3);
        CHECKS.due("m", b.bus.clock(3, 0), 4);
        CHECKS.due("rate", b.bus.clock(3, 2), 4);
        // m is 4 in tick 1054: the cycle of 84 ends in tick 1134.
        b.to(1133);
        CHECKS.due("m", b.bus.clock(3, 0), 83);
        b.to(1134);
        CHECKS.due("m", b.bus.clock(3, 0), 0);
        CHECKS.due("cycle", b.bus.clock(3, 1), 12);
    }

    private static void anotherFirstOne() {
        Bench b = withListener(0);
        b.to(1043);
        CHECKS.due("it listens", b.bus.state(3), 1);
        b.to(1044);
        CHECKS.due("slot 1 between is nothing", b.bus.state(3), 3);
        CHECKS.due("rate", b.bus.clock(3, 2), 0);
        Bench c = withListener(0);
        c.to(1043);
        c.forge(c.bus.encode(1, 11, true, 0), c.bus.encode(1, 13, true, 0));
        c.to(1044);
        CHECKS.due("not the cycle behind", c.bus.state(3), 1);
    }

    private static void aFirstOneIsForgotten() {
        Bench b = withListener(0);
        b.to(1043);
        b.forge(b.bus.encode(1, 11, true, 0), b.bus.encode(1, 11, false, 0));
        b.to(1044);
        CHECKS.due("no startup", b.bus.state(3), 1);
        b.forge(b.bus.encode(2, 11, true, 0), b.bus.encode(1, 11, true, 0));
        b.to(1054);
        CHECKS.due("the first one is still there", b.bus.state(3), 3);
        Bench c = withListener(0);
        c.to(1043);
        c.forge(c.bus.encode(1, 11, true, 0), c.bus.encode(1, 13, true, 0));
        c.to(1044);
        c.forge(c.bus.encode(2, 11, true, 0), c.bus.encode(1, 11, true, 0));
        c.to(1054);
        CHECKS.due("the first one is gone", c.bus.state(3), 1);
    }

    private static void oldFirstOneGivesWay() {
        Bench b = withListener(0);
        // Without startup slot 0 is nothing to a listener: in 1134 the first one is 170 old, slot 1 takes its place.
        for (int cycle = 11; cycle < 13; cycle++) {
            b.to(163 + 80 * cycle);
            b.forge(b.bus.encode(1, cycle, true, 0), b.bus.encode(1, cycle, false, 0));
            b.to(164 + 80 * cycle);
        }
        b.to(1204);
        CHECKS.due("slot 0 of cycle 13 is of another id", b.bus.state(3), 1);
        b.to(1214);
        CHECKS.due("slot 1 of cycle 13", b.bus.state(3), 3);
        CHECKS.due("m", b.bus.clock(3, 0), 14);
        CHECKS.due("cycle", b.bus.clock(3, 1), 13);
    }

    /**
     * Node 3 hears a first one of id 1 in tick 1002, and in tick 1094 the frame of this id and cycle; of the
     * ticks since it was switched on, in 960, a slowness of 22 leaves it 41 and 131, one of 11 leaves it 41 and 132.
     */
    private static Bench secondLate(int slowness, int id, int cycle) {
        Bench b = withListener(slowness << 24);
        b.to(990);
        b.bus.post(0, 5, 1, 0, 2);
        b.bus.post(1, 8, 2, 1, 2);
        b.forge(b.bus.encode(5, 10, false, 1), b.bus.encode(1, 10, true, 0));
        b.to(1043);
        b.forge(b.bus.encode(1, 11, true, 0), b.bus.encode(1, 11, false, 0));
        b.to(1093);
        b.forge(b.bus.encode(8, 11, false, 2), b.bus.encode(id, cycle, true, 0));
        b.to(1094);
        CHECKS.due("the forged word", b.bus.last(), b.bus.encode(id, cycle, true, 0));
        return b;
    }

    private static void ninetyIsTheEdge() {
        Bench joins = secondLate(22, 1, 11);
        CHECKS.due("it joins at 90", joins.bus.state(3), 3);
        CHECKS.due("rate", joins.bus.clock(3, 2), 4);
        CHECKS.due("it does not at 91", secondLate(11, 1, 11).bus.state(3), 1);
        for (int slowness : new int[] {22, 11}) {
            Bench b = secondLate(slowness, 2, 10);
            b.bus.post(0, 6, 3, 0, 4);
            b.to(1133);
            b.forge(b.bus.encode(2, 12, true, 0), b.bus.encode(2, 12, false, 0));
            b.to(1165);
            b.forge(b.bus.encode(6, 12, false, 3), b.bus.encode(2, 11, true, 0));
            b.to(1166);
            CHECKS.due("the forged word", b.bus.last(), b.bus.encode(2, 11, true, 0));
            CHECKS.due("another id is the first one at 91 only", b.bus.state(3), slowness == 22 ? 1 : 3);
        }
    }

    /**
     * Node 3, of slowness 30, joins node 0, which leads without slowness, at its frame in tick 244; the rows
     * say, for the cycles 2 to 5, the deviation (node 3 has passed 97 % of the ticks since it was switched on,
     * rounded down) and, behind each odd one's reflecting, the offset.
     */
    private static void slowJoiner(int switchedOn, int rate, int[] deviations, int[] offsets) {
        Bench b = new Bench(30 << 24);
        b.bus.power(0);
        b.to(switchedOn);
        b.bus.power(3);
        b.to(244);
        CHECKS.due("it joins", b.bus.state(3), 3);
        for (int cycle = 2; cycle < 6; cycle++) {
            b.to(164 + 80 * cycle);
            boolean odd = cycle % 2 == 1;
            CHECKS.due("rate", b.bus.clock(3, 2), rate);
            CHECKS.due("deviation in cycle " + cycle, b.bus.deviation(3, 0, odd), deviations[cycle - 2]);
            CHECKS.due("offset in cycle " + cycle, b.bus.clock(3, 3), offsets[(cycle - 2) / 2]);
            CHECKS.due("m in cycle " + cycle, b.bus.clock(3, 0), 4 + deviations[cycle - 2]);
        }
        b.to(164 + 80 * 5 + 62);
        CHECKS.due("offset at last", b.bus.clock(3, 3), offsets[2]);
        CHECKS.due("one heard node is too few", b.bus.clock(3, 4), 0);
    }

    private static void ratesAndOffsets() {
        slowJoiner(143, -3, new int[] {1, 2, 1, 2}, new int[] {0, 1, 1});
        // Half of -1 is 0: the offset is rounded to zero.
        slowJoiner(150, -2, new int[] {-1, -1, -2, -2}, new int[] {0, 0, -1});
    }

    /** Node 1 is brought to join ten ticks early, so that node 0's frames, forged, fall into its own slot. */
    private static void ownIdIsNoDeviation() {
        Bench b = Bench.duo(0);
        for (int cycle = 1; cycle < 6; cycle++) {
            b.to(163 + 80 * cycle);
            b.forge(b.bus.encode(1, cycle, true, 0), b.bus.encode(2, cycle, true, cycle));
            b.to(164 + 80 * cycle);
        }
        CHECKS.due("m", b.bus.clock(1, 0), 14);
        CHECKS.due("got of its own id", b.bus.got(1, 2), 5);
        CHECKS.none("no deviation of itself, even", () -> b.bus.deviation(1, 1, false));
        CHECKS.none("no deviation of itself, odd", () -> b.bus.deviation(1, 1, true));
        // Hearing and reflecting make no exception of such a frame: it counts.
        b.to(610);
        CHECKS.due("count", b.bus.clock(1, 4), 1);
    }
}
