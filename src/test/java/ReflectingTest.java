/** The edges of reflecting: the middle of some numbers, rounding, limits, lengths, and what becomes of each state. */
public final class ReflectingTest {
    private static final Checks CHECKS = new Checks("ReflectingTest");
    /** Stands in a row for a deviation that there is not. */
    private static final int NO = 99;

    public static void main(String[] args) {
        offsets();
        rates();
        limitsOfTheRate();
        lengthsAtTheLimits();
        greatestOffsets();
        theMiddleOfOneNumber();
        deviationsInOneCycleAlone();
        onlyOddCyclesReflect();
        newRateComesBehindTheOddCycle();
        leading();
        leadingInCycleEleven();
        joiningStarters();
        joiningOthers();
        joinersThatHearNobody();
        activeAndPassive();
        passiveAndHalted();
        passiveAndActiveAgain();
        nodesHeardInOneCycleDoNotCount();
        CHECKS.end();
    }

    /**
     * Node 3 joins by two frames of node 0 or 1, and hears in its cycles 4 and 5 forged frames of the ids 1, 2 and 3
     * with wanted deviations. A row says: how many ticks node 0 is behind node 1; sender and m of the first frame,
     * then of the second; their id; the three deviations in the even cycle, then in the odd one; the rate up to
     * then, the offset, and the rate behind it.
     */
    private static final class Row {
        final int[] row;
        final String name;
        final Signals signals;
        final SlotBus bus;
        final int joinedAt;
        final int joinedM;
        final int rate;

        Row(int... row) {
            this.row = row;
            name = java.util.Arrays.toString(row);
            signals = Signals.withListener(0, row[0], 330);
            bus = signals.bus;
            signals.sendStartup(row[1], 2, row[2], row[5], 2);
            signals.sendStartup(row[3], 3, row[4], row[5], 3);
            joinedAt = signals.tickOf(row[3], 3, row[4]);
            joinedM = 10 * row[5] - 6;
            rate = row[12];
        }

        int tickOf(int cycle, int m) {
            return joinedAt + (cycle - 3) * (80 + rate) + m - joinedM;
        }

        void play() {
            CHECKS.due(name + ": rate", bus.clock(3, 2), rate);
            // In the order of time: a node that is later sends behind the other.
            int sooner = row[0] > 0 ? 1 : 0;
            for (int cycle = 4; cycle <= 6; cycle++) {
                for (int m : Signals.MESSAGE_TIMES) {
                    hearIfWanted(sooner, cycle, m);
                    hearIfWanted(1 - sooner, cycle, m);
                }
            }
            signals.to(tickOf(5, 59));
            deviationsAre();
            CHECKS.due(name + ": offset before", bus.clock(3, 3), 0);
            signals.to(tickOf(5, 60));
            CHECKS.due(name + ": offset", bus.clock(3, 3), row[13]);
            int length = 80 + rate + row[13];
            signals.to(tickOf(5, length - 1));
            clockIs(length - 1, 5, rate, row[13]);
            signals.to(tickOf(5, length));
            clockIs(0, 6, row[14], row[13]);
        }

        private void hearIfWanted(int node, int cycle, int m) {
            int tick = signals.tickOf(node, cycle, m);
            for (int k = 0; k < 6; k++) {
                int own = 4 + k / 3;
                int id = 1 + k % 3;
                if (row[6 + k] != NO && signals.bench.now < tick && tickOf(own, 10 * id - 6 + row[6 + k]) == tick) {
                    signals.send(node, cycle, m, PlainModel.word(id, own, 0, 0));
                }
            }
        }

        private void deviationsAre() {
            for (int k = 0; k < 6; k++) {
                int sender = k % 3;
                boolean odd = k >= 3;
                String got = Checks.outcome(() -> bus.deviation(3, sender, odd));
                String want = row[6 + k] == NO ? "NoSuchElementException" : Integer.toString(row[6 + k]);
                CHECKS.dueText(name + ": deviation(3, " + sender + ", " + odd + ")", got, want);
            }
        }

        void clockIs(int... wanted) {
            for (int what = 0; what < wanted.length; what++) {
                CHECKS.due(name + ": clock(3, " + what + ")", bus.clock(3, what), wanted[what]);
            }
        }
    }

    private static void play(int[][] rows) {
        for (int[] row : rows) {
            new Row(row).play();
        }
    }

    // "The offset is the middle of 0 and of all deviations in the odd cycle"; "when there are three or more, one that
    // is least and one that is greatest are left out; it is half the sum of the least and the greatest of the others
    // (rounded to zero)"
    private static void offsets() {
        play(new int[][] {
            {-1, 1, 42, 1, 42, 1, 3, NO, NO, 0, NO, NO, 0, 0, -1},
            {-1, 1, 42, 1, 42, 1, NO, 2, NO, NO, 1, NO, 0, 0, 0},
            {-1, 0, 42, 0, 42, 1, NO, 3, NO, NO, -1, NO, 0, 0, -2},
            {-1, 0, 42, 0, 42, 1, NO, 3, NO, NO, 2, NO, 0, 1, 0},
            {-1, 0, 42, 0, 42, 1, NO, 3, NO, NO, -2, NO, 0, -1, -2},
            {-1, 0, 42, 0, 42, 1, NO, 3, NO, NO, 3, NO, 0, 1, 0},
            {-1, 1, 42, 1, 42, 1, NO, 2, NO, NO, -3, NO, 0, -1, -2},
            {-1, 0, 42, 0, 42, 1, NO, 3, NO, NO, -2, -3, 0, -2, -2},
            {-1, 1, 42, 1, 42, 1, NO, 2, NO, -1, -3, NO, 0, -1, -2},
            {-1, 1, 42, 1, 42, 1, NO, 2, NO, -1, -2, NO, 0, -1, -2},
            {-1, 1, 42, 1, 42, 1, NO, 2, NO, 3, -3, NO, 0, 0, -2},
            {-1, 0, 42, 0, 42, 1, NO, 3, NO, 1, -2, NO, 0, 0, -2},
            {-1, 0, 42, 0, 42, 1, 1, NO, NO, 0, 3, NO, 0, 0, 0},
            {-1, 0, 42, 0, 42, 1, NO, 3, NO, 1, 2, NO, 0, 1, 0},
            {-1, 1, 42, 1, 42, 1, NO, 2, NO, 3, 1, NO, 0, 1, 0},
            {-1, 1, 42, 1, 42, 1, NO, 2, NO, 3, 2, NO, 0, 2, 0},
            {-1, 0, 42, 0, 42, 1, NO, 3, NO, 0, -2, -3, 0, -1, -2},
            {-1, 0, 42, 0, 42, 1, NO, 3, NO, 1, -2, -3, 0, -1, -2},
            {-1, 0, 42, 0, 42, 1, NO, 3, NO, 0, -1, -3, 0, 0, -2},
            {-1, 0, 50, 0, 50, 2, NO, 1, NO, 2, -3, -1, 0, 0, -2},
            {-1, 0, 46, 1, 46, 2, NO, 3, NO, 3, 1, 0, 1, 0, 0},
            {-1, 0, 46, 1, 46, 2, NO, NO, 1, 3, 2, 0, 1, 1, 1},
            {-1, 0, 46, 1, 46, 2, NO, NO, 1, 3, 2, -1, 1, 1, 0},
            {-1, 0, 50, 0, 50, 2, NO, NO, -1, 3, 1, -1, 0, 0, 0},
            {-1, 1, 50, 1, 50, 2, NO, NO, -2, 2, 3, -3, 0, 1, 0},
            {-1, 1, 50, 1, 50, 2, NO, 3, NO, 2, 0, -2, 0, 0, -1}});
    }

    // "The new rate is the rate + the middle of 0 and, for each node with a deviation in both cycles, the odd one less
    // the even one"
    private static void rates() {
        play(new int[][] {
            {-1, 1, 42, 1, 42, 1, NO, 2, NO, 0, -3, NO, 0, 0, -2},
            {-1, 0, 46, 0, 46, 1, 1, NO, NO, -3, NO, NO, 0, -1, -2},
            {-1, 0, 46, 0, 46, 1, 0, NO, NO, -3, NO, NO, 0, -1, -1},
            {-1, 1, 42, 1, 42, 1, NO, -2, NO, NO, -3, NO, 0, -1, 0},
            {-1, 0, 42, 0, 42, 1, NO, NO, -3, NO, NO, -3, 0, -1, 0},
            {-1, 1, 42, 1, 42, 1, NO, -3, NO, NO, -2, NO, 0, -1, 0},
            {-1, 0, 46, 0, 46, 1, -3, NO, NO, 0, NO, NO, 0, 0, 1},
            {-1, 0, 46, 0, 46, 1, -3, NO, NO, 1, NO, NO, 0, 0, 2},
            {-1, 1, 42, 1, 42, 1, NO, -3, NO, NO, 2, NO, 0, 1, 2},
            {-1, 0, 46, 0, 46, 1, 0, 2, NO, -3, -2, NO, 0, -2, -3},
            {-1, 0, 46, 0, 46, 1, 0, 2, NO, -3, -1, NO, 0, -1, -3},
            {-1, 0, 46, 0, 46, 1, 0, -2, NO, -3, 2, NO, 0, 0, 0},
            {-1, 0, 46, 0, 46, 1, -3, -1, NO, 0, 2, NO, 0, 0, 3},
            {-1, 1, 42, 1, 42, 1, -1, -2, NO, 3, -3, NO, 0, 0, 0},
            {-1, 0, 42, 0, 42, 1, NO, -2, -3, NO, 3, -3, 0, 0, 0},
            {-1, 0, 42, 0, 42, 1, NO, 3, -3, NO, -2, -3, 0, -2, 0},
            {-1, 1, 42, 1, 42, 1, -1, -3, NO, 0, -2, NO, 0, 0, 1},
            {-1, 1, 42, 1, 42, 1, 0, -2, NO, -1, -3, NO, 0, -1, -1},
            {-1, 0, 46, 0, 46, 1, -3, -2, NO, 1, 2, NO, 0, 1, 4},
            {-1, 0, 46, 0, 46, 1, 1, 2, NO, -3, -2, NO, 0, -2, -4},
            {-1, 0, 46, 0, 46, 1, -3, -2, NO, 1, 3, NO, 0, 1, 4},
            {-1, 0, 46, 0, 46, 1, 1, 3, NO, -3, -2, NO, 0, -2, -4},
            {-1, 0, 42, 0, 42, 1, 1, 3, -3, 0, -2, -3, 0, -1, 0},
            {-1, 0, 42, 0, 42, 1, 0, -2, -3, 1, 3, -3, 0, 0, 0},
            {-1, 0, 42, 0, 42, 1, 0, -2, -3, 1, 2, -3, 0, 0, 0},
            {-1, 1, 42, 0, 42, 1, 1, -1, -3, 3, 1, -2, -1, 0, 0},
            {-1, 1, 42, 0, 42, 1, 1, 3, -3, 3, -3, -2, -1, -1, -1},
            {-1, 0, 42, 0, 42, 1, 0, -2, -3, 0, -2, -3, 0, -1, 0},
            {-1, 1, 50, 1, 50, 2, 1, -1, -3, 2, 0, -2, 0, 0, 1}});
    }

    // "(limited to -4 .. 4)"
    private static void limitsOfTheRate() {
        play(new int[][] {
            {-1, 1, 42, 0, 46, 1, -2, NO, NO, -2, NO, NO, 3, -1, 3},
            {-1, 1, 42, 0, 46, 1, -3, NO, NO, -1, NO, NO, 3, 0, 4},
            {-1, 0, 42, 1, 42, 1, NO, -3, NO, NO, 3, NO, 1, 1, 4},
            {-1, 1, 42, 0, 46, 1, -2, NO, NO, 2, NO, NO, 3, 1, 4},
            {-1, 0, 42, 1, 42, 1, -2, -3, NO, 2, 3, NO, 1, 2, 4},
            {-1, 1, 42, 0, 46, 1, -3, NO, NO, 3, NO, NO, 3, 1, 4},
            {-1, 0, 42, 0, 50, 2, -1, -3, NO, 2, 0, NO, 4, 0, 4},
            {-1, 0, 42, 0, 50, 2, -2, -3, NO, 2, 1, NO, 4, 1, 4},
            {-1, 0, 46, 1, 42, 1, NO, NO, -2, NO, NO, -3, -3, -1, -3},
            {-1, 0, 46, 1, 42, 1, NO, NO, -1, NO, NO, -3, -3, -1, -4},
            {-1, 1, 42, 0, 42, 1, NO, 3, NO, NO, -3, NO, -1, -1, -4},
            {-1, 0, 54, 1, 50, 1, 2, NO, NO, -3, NO, NO, -3, -1, -4},
            {-1, 1, 46, 0, 46, 1, 2, 3, NO, -2, -3, NO, -1, -2, -4},
            {-1, 0, 54, 1, 50, 1, 3, NO, NO, -3, NO, NO, -3, -1, -4},
            {-1, 0, 46, 0, 42, 1, NO, 3, 0, NO, -2, -3, -4, -2, -4},
            {-1, 0, 46, 0, 42, 1, NO, 3, 1, NO, -2, -3, -4, -2, -4}});
    }

    // "The cycle's LENGTH is 80 + rate, in an odd cycle + offset."
    private static void lengthsAtTheLimits() {
        play(new int[][] {
            {-1, 0, 46, 0, 42, 1, NO, 3, NO, NO, -2, -3, -4, -2, -4},
            {-1, 0, 50, 1, 42, 1, NO, 2, NO, NO, 2, 3, -4, 2, -4},
            {-1, 0, 42, 0, 46, 2, 3, NO, NO, -2, -3, NO, 4, -2, 2},
            {-1, 0, 42, 1, 46, 2, NO, 3, NO, 2, 3, NO, 4, 2, 4},
            {-1, 0, 46, 0, 42, 1, NO, 3, NO, NO, -1, NO, -4, 0, -4},
            {-1, 0, 42, 0, 46, 2, 3, NO, NO, -1, NO, NO, 4, 0, 2}});
    }

    /**
     * As deviations are -3 .. 3, so is their middle: the limits of -6 and 6 are never reached. A row says: the
     * slownesses, the ticks at which the four nodes are switched on, the node, the tick in which it is at 60, its
     * even and odd deviations, rate, offset and new rate.
     */
    private static void greatestOffsets() {
        int[][] rows = {
            {0x0503031D, 0, 252, 247, 543, 3, 1471, -1, -1, -2, NO, -3, -3, -3, NO, 4, -3, 3},
            {0x1C0E0002, 5, 282, 110, 101, 3, 1426, 1, 2, 2, NO, 3, NO, 3, NO, -4, 3, -3},
            {0x0F0C0111, 5, 73, 40, 576, 3, 1126, 1, 2, 2, NO, 3, NO, 3, NO, 0, 3, 1},
            {0x0C120C06, 253, 210, 5, 503, 2, 1185, NO, -2, NO, -3, NO, -3, NO, -3, 0, -3, 0},
            {0x0103101D, 0, 146, 579, 162, 2, 1301, 3, NO, NO, NO, 3, 3, NO, NO, 3, 3, 3},
            {0x0E1E0804, 26, 18, 72, 81, 2, 970, -2, NO, NO, -3, -3, -3, NO, -3, -3, -3, -3}};
        for (int[] row : rows) {
            Bench b = new Bench(row[0]);
            for (int tick = 0; tick < 600; tick++) {
                for (int node = 0; node < 4; node++) {
                    if (row[1 + node] == tick) {
                        b.to(tick);
                        b.bus.power(node);
                    }
                }
            }
            greatestOffset(b, row);
        }
    }

    private static void greatestOffset(Bench b, int[] row) {
        int node = row[5];
        b.to(row[6] - 1);
        for (int k = 0; k < 8; k++) {
            int sender = k % 4;
            boolean odd = k >= 4;
            String got = Checks.outcome(() -> b.bus.deviation(node, sender, odd));
            String want = row[7 + k] == NO ? "NoSuchElementException" : Integer.toString(row[7 + k]);
            CHECKS.dueText("deviation(" + node + ", " + sender + ", " + odd + ")", got, want);
        }
        b.to(row[6]);
        CHECKS.due("m", b.bus.clock(node, 0), 60);
        CHECKS.due("rate", b.bus.clock(node, 2), row[15]);
        CHECKS.due("offset", b.bus.clock(node, 3), row[16]);
        int before = 60;
        while (b.bus.clock(node, 0) >= 60) {
            before = b.bus.clock(node, 0);
            b.to(b.now + 1);
        }
        CHECKS.due("the last microtick", before, 80 + row[15] + row[16] - 1);
        CHECKS.due("the first one", b.bus.clock(node, 0), 0);
        CHECKS.due("the new rate", b.bus.clock(node, 2), row[17]);
    }

    private static void clockIs(Bench b, int node, int... wanted) {
        for (int what = 0; what < wanted.length; what++) {
            CHECKS.due("tick " + b.now + ": clock(" + node + ", " + what + ")", b.bus.clock(node, what), wanted[what]);
        }
    }

    private static void stateIs(Bench b, int tick, int node, int before, int then) {
        b.to(tick - 1);
        CHECKS.due("tick " + b.now + ": state(" + node + ")", b.bus.state(node), before);
        b.to(tick);
        CHECKS.due("tick " + b.now + ": state(" + node + ")", b.bus.state(node), then);
    }

    // without any deviation it is "the middle of 0" alone
    private static void theMiddleOfOneNumber() {
        Bench b = Bench.duo(30 << 8);
        b.to(1282);
        CHECKS.due("rate before", b.bus.clock(1, 2), -3);
        CHECKS.due("offset before", b.bus.clock(1, 3), 1);
        b.bus.off(0);
        b.to(1420);
        CHECKS.due("passive", b.bus.state(1), 5);
        clockIs(b, 1, 62, 15, -3, 0, 1);
        b.to(1440);
        CHECKS.due("the next cycle", b.bus.clock(1, 1), 16);
        CHECKS.due("the rate stays", b.bus.clock(1, 2), -3);
    }

    // the rate needs "a deviation in both cycles", the offset those "in the odd cycle"
    private static void deviationsInOneCycleAlone() {
        // Node 1 hears node 0 three too late in both cycles, or in one of them alone.
        for (int heard = 0; heard < 4; heard++) {
            Bench b = Bench.twoLeaders(0, 3);
            for (int cycle = 0; cycle < 2; cycle++) {
                b.to(180 + 80 * cycle);
                if ((heard >> cycle & 1) == 0) {
                    b.bus.lose(1);
                }
                b.to(180 + 80 * cycle + 8);
            }
            b.to(180 + 80 + 60);
            CHECKS.due("heard " + heard + ": state", b.bus.state(1), heard == 3 ? 4 : 2);
            CHECKS.due("heard " + heard + ": offset", b.bus.clock(1, 3), heard >= 2 ? 1 : 0);
            b.to(180 + 160 + 2);
            CHECKS.due("heard " + heard + ": rate", b.bus.clock(1, 2), 0);
        }
    }

    // "At 60 of an odd cycle it REFLECTS."
    private static void onlyOddCyclesReflect() {
        Bench b = Bench.twoLeaders(0, 0);
        b.to(180 + 60);
        CHECKS.due("cycle 0: it leads on", b.bus.state(0), 2);
        stateIs(b, 180 + 80 + 60, 0, 2, 4);
        b.bus.off(1);
        b.to(180 + 160 + 79);
        CHECKS.due("cycle 2: it is active", b.bus.state(0), 4);
        stateIs(b, 180 + 240 + 60, 0, 4, 5);
        b.to(180 + 320 + 79);
        clockIs(b, 0, 79, 4, 0, 0, 1);
        b.to(180 + 400 + 59);
        clockIs(b, 0, 59, 5, 0, 0, 1);
        b.to(180 + 400 + 60);
        clockIs(b, 0, 60, 5, 0, 0, 2);
    }

    // "behind an odd cycle the rate is the new one (below), and all DEVIATIONS are forgotten"
    private static void newRateComesBehindTheOddCycle() {
        // Changes of 4 and 5: their middle, with 0, is 4; the offset is 1.
        Row r = new Row(-1, 0, 46, 0, 46, 1, -3, -2, NO, 1, 3, NO, 0, 1, 4);
        r.play();
        CHECKS.none("even is forgotten", () -> r.bus.deviation(3, 0, false));
        CHECKS.none("odd is forgotten", () -> r.bus.deviation(3, 0, true));
        CHECKS.due("count", r.bus.clock(3, 4), 1);
        // The even cycle 6 is of 84, without the offset, and behind it the rate stays.
        int begin = r.signals.bench.now;
        r.signals.to(begin + 83);
        r.clockIs(83, 6, 4, 1);
        r.signals.to(begin + 84);
        r.clockIs(0, 7, 4, 1);
    }

    // "LEADING: active when n is above 0; otherwise it listens when its cycle is 11 or more."
    private static void leading() {
        Bench alone = new Bench(0);
        alone.bus.power(1);
        for (int cycle = 0; cycle < 11; cycle++) {
            alone.to(180 + 80 * cycle + 60);
            CHECKS.due("cycle " + cycle, alone.bus.state(1), 2);
        }
        stateIs(alone, 180 + 80 * 11 + 60, 1, 2, 1);
        stateIs(alone, 180 + 80 * 11 + 60 + 180, 1, 1, 2);
        Bench two = Bench.twoLeaders(0, 1);
        stateIs(two, 180 + 80 + 60, 1, 2, 4);
        stateIs(two, 181 + 80 + 60, 0, 2, 4);
        clockIs(two, 0, 60, 1, 0, 0, 0);
    }

    /** Node 0 leads from tick 160 on and hears nobody before its cycle 10, in which node 1 leads in time with it. */
    private static void leadingInCycleEleven() {
        Bench b = new Bench(0);
        b.bus.power(0);
        b.to(780);
        b.bus.power(1);
        b.bus.lose(3);
        b.to(964);
        CHECKS.due("state(1)", b.bus.state(1), 2);
        b.forge(PlainModel.word(2, 0, 1, 0), PlainModel.word(2, 10, 1, 0));
        b.to(974);
        CHECKS.due("even", b.bus.deviation(0, 1, false), 0);
        b.bus.lose(1);
        b.to(1044);
        b.forge(PlainModel.word(2, 1, 1, 0), PlainModel.word(2, 11, 1, 0));
        b.to(1054);
        CHECKS.due("odd", b.bus.deviation(0, 1, true), 0);
        stateIs(b, 1100, 0, 2, 4);
    }

    // "JOINING: when the count is -1, it is 0 from now on; otherwise it listens when n is 0; otherwise, if it is a
    // starter or n is above 1, the count grows by 1, and with 2 it is active."
    private static void joiningStarters() {
        Bench b = Bench.duo(0);
        b.to(459);
        clockIs(b, 1, 59, 3, 0, 0, -1);
        b.to(460);
        clockIs(b, 1, 60, 3, 0, 0, 0);
        CHECKS.due("no deviation yet in the even cycle, and it joins on", b.bus.state(1), 3);
        b.to(619);
        clockIs(b, 1, 59, 5, 0, 0, 0);
        b.to(620);
        clockIs(b, 1, 60, 5, 0, 0, 1);
        CHECKS.due("one node is enough for a starter", b.bus.state(1), 3);
        stateIs(b, 780, 1, 3, 4);
        clockIs(b, 1, 60, 7, 0, 0, 2);
        Bench c = Bench.duo(0);
        c.to(640);
        c.bus.off(0);
        stateIs(c, 780, 1, 3, 1);
    }

    // "otherwise, if it is a starter or n is above 1, the count grows by 1, and with 2 it is active"
    private static void joiningOthers() {
        // Node 0 alone is heard up to cycle 5, nodes 0 and 1 from cycle 6 on.
        Bench b = Bench.trio();
        b.to(460);
        clockIs(b, 2, 60, 3, 0, 0, 0);
        b.to(620);
        clockIs(b, 2, 60, 5, 0, 0, 0);
        CHECKS.due("n is 1: it joins on", b.bus.state(2), 3);
        b.to(780);
        clockIs(b, 2, 60, 7, 0, 0, 1);
        CHECKS.due("n is 2", b.bus.state(2), 3);
        stateIs(b, 940, 2, 3, 4);
        clockIs(b, 2, 60, 9, 0, 0, 2);
        // When node 0's frame of cycle 8 is lost, nodes 1 and 0 are passive by turns: n is 1, and the count stays.
        Bench c = Bench.trio();
        c.to(803);
        c.bus.lose(1);
        for (int cycle = 9; cycle <= 15; cycle += 2) {
            c.to(160 + 80 * cycle + 60);
            clockIs(c, 2, 60, cycle, 0, 0, 1);
            CHECKS.due("it joins on", c.bus.state(2), 3);
        }
    }

    // "otherwise it listens when n is 0"
    private static void joinersThatHearNobody() {
        // With a count of 1 both frames of cycle 8 are lost.
        Bench b = Bench.trio();
        b.to(800);
        b.bus.lose(2);
        stateIs(b, 940, 2, 3, 1);
        CHECKS.none("no deviations", () -> b.bus.deviation(2, 0, true));
        CHECKS.state("no clock", () -> b.bus.clock(2, 0));
        // With a count of 0 the frame of cycle 5 is lost, that of 4 was heard.
        Bench c = Bench.trio();
        c.to(500);
        c.bus.lose(1);
        stateIs(c, 620, 1, 3, 1);
    }

    // "ACTIVE: with n 0 it is passive, with count 1."
    private static void activeAndPassive() {
        Bench b = Bench.duo(0);
        b.to(940);
        clockIs(b, 1, 60, 9, 0, 0, 2);
        CHECKS.due("n is 1: active", b.bus.state(1), 4);
        b.bus.off(0);
        stateIs(b, 1100, 1, 4, 5);
        clockIs(b, 1, 60, 11, 0, 0, 1);
    }

    // "PASSIVE: active when n is above 0, otherwise the count grows by 1, and with 3 it is halted."
    private static void passiveAndHalted() {
        Bench b = Bench.duo(0);
        b.to(940);
        b.bus.off(0);
        b.to(1100);
        clockIs(b, 1, 60, 11, 0, 0, 1);
        b.to(1259);
        clockIs(b, 1, 59, 13, 0, 0, 1);
        b.to(1260);
        clockIs(b, 1, 60, 13, 0, 0, 2);
        CHECKS.due("count 2", b.bus.state(1), 5);
        stateIs(b, 1420, 1, 5, 6);
        CHECKS.state("no clock", () -> b.bus.clock(1, 0));
    }

    /** Node 2 is passive with count 2 in tick 1260; node 0, in time with it, is heard in its cycles 14 and 15. */
    private static void passiveAndActiveAgain() {
        Bench b = Bench.trio();
        b.to(960);
        b.bus.off(0);
        b.bus.off(1);
        b.to(1120);
        b.bus.power(0);
        b.to(1260);
        clockIs(b, 2, 60, 13, 0, 0, 2);
        b.to(1280);
        b.forge(PlainModel.word(1, 0, 1, 0), PlainModel.word(1, 14, 1, 0));
        b.to(1360);
        b.forge(PlainModel.word(1, 1, 1, 0), PlainModel.word(1, 15, 1, 0));
        stateIs(b, 1420, 2, 5, 4);
        clockIs(b, 2, 60, 15, 0, 0, 2);
        stateIs(b, 1580, 2, 4, 5);
        clockIs(b, 2, 60, 17, 0, 0, 1);
    }

    // "Let n be how many nodes have a deviation in both cycles."
    private static void nodesHeardInOneCycleDoNotCount() {
        // Node 0 hears node 1 in the even cycle 10 alone, or in the odd cycle 11 alone.
        for (int lost = 10; lost <= 11; lost++) {
            Bench b = Bench.duo(0);
            b.to(170 + 80 * lost);
            b.bus.lose(1);
            b.to(175 + 80 * lost);
            b.to(1099);
            CHECKS.due("state before", b.bus.state(0), 4);
            b.to(1100);
            CHECKS.due("lost in cycle " + lost, b.bus.state(0), 5);
            CHECKS.due("node 1 has heard node 0", b.bus.state(1), 4);
        }
        // Of three nodes one is heard in the even cycle, another in the odd one: n is 0.
        Bench b = Bench.trio();
        b.to(970);
        b.bus.lose(1);
        b.to(1060);
        b.bus.lose(1);
        b.to(1100);
        CHECKS.due("node 0 heard 2 in cycle 10 and 1 in cycle 11", b.bus.state(0), 5);
        CHECKS.due("node 1 heard 0 in both", b.bus.state(1), 4);
        CHECKS.due("node 2 heard 0 in both", b.bus.state(2), 4);
    }
}
