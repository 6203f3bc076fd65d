/** The edges of hearing for a node that is not listening: deviations, cycles, minislots, noise, and leaders. */
public final class InTimeHearingTest {
    private static final Checks CHECKS = new Checks("InTimeHearingTest");

    public static void main(String[] args) {
        deviationsOfThreeAreTaken();
        deviationsAreKeptByParity();
        onlyTheNodesCycleIsTaken();
        leadersListenBeyondThree();
        leadersListenAtAnotherCycle();
        onlyLeadersListen();
        messagesAreTakenFromFortyToFiftyNine();
        messagesOfAnotherCycleAreNot();
        everyMessageIdIsTaken();
        everyIdInASlot();
        startupOfHigherIdsIsNoise();
        wordsWithAWrongCheckAreNoise();
        noiseDoesNothingToALeader();
        valuesFromZeroToTheGreatest();
        CHECKS.end();
    }

    /**
     * Node 3, brought in time by frames of node 0 that are forged to be of a given id. Joined so at any m of node
     * 0's, its slots fall anywhere among the senders' times; its cycles are of 80, as theirs are.
     */
    private record Joined(Signals signals, int later, int joinedAt, int joinedM) {
        static Joined by(int later, int m, int id) {
            Signals s = Signals.withListener(0, later, 330);
            s.sendStartup(0, 2, m, id, 2);
            s.sendStartup(0, 3, m, id, 3);
            CHECKS.due("node 3 joins", s.bus.state(3), 3);
            return new Joined(s, later, s.tickOf(0, 3, m), 10 * id - 6);
        }

        /** Node 3's microticks from the beginning of its cycle 0 on, if it had been in time then. */
        int timeAt(int tick) {
            return 240 + joinedM + tick - joinedAt;
        }

        int mAt(int tick) {
            return timeAt(tick) % 80;
        }

        int cycleAt(int tick) {
            return timeAt(tick) / 80;
        }
    }

    // "When d is -3 .. 3, and the cycle is the node's: d is the sender's deviation"
    private static void deviationsOfThreeAreTaken() {
        int[] tried = new int[13];
        for (int later = -1; later <= 1; later++) {
            for (int joinM : Signals.MESSAGE_TIMES) {
                for (int joinId = 1; joinId <= 2; joinId++) {
                    for (int sender = 0; sender < 2; sender++) {
                        for (int m : Signals.MESSAGE_TIMES) {
                            tryDeviation(tried, later, joinM, joinId, sender, m);
                        }
                    }
                }
            }
        }
        for (int d = -6; d <= 6; d++) {
            CHECKS.due("a deviation of " + d + " was tried", tried[d + 6] > 0);
        }
    }

    private static void tryDeviation(int[] tried, int later, int joinM, int joinId, int sender, int m) {
        for (int id = 1; id <= 3; id++) {
            for (int cycle = 4; cycle <= 5; cycle++) {
                Joined j = Joined.by(later, joinM, joinId);
                int tick = j.signals.tickOf(sender, cycle, m);
                int d = j.mAt(tick) - (10 * id - 6);
                if (d >= -6 && d <= 6 && j.cycleAt(tick) == cycle) {
                    tried[d + 6]++;
                    j.signals.send(sender, cycle, m, PlainModel.word(id, cycle, 0, 700 + id));
                    deviationIs(j.signals.bus, id, cycle == 5, d);
                }
            }
        }
    }

    private static void deviationIs(SlotBus bus, int id, boolean odd, int d) {
        if (d < -3 || d > 3) {
            CHECKS.none("a deviation of " + d, () -> bus.deviation(3, id - 1, odd));
            CHECKS.none("got with a deviation of " + d, () -> bus.got(3, id));
        } else {
            CHECKS.due("a deviation of " + d, bus.deviation(3, id - 1, odd), d);
            CHECKS.due("got with a deviation of " + d, bus.got(3, id), 700 + id);
        }
        CHECKS.none("none in the other cycle", () -> bus.deviation(3, id - 1, !odd));
    }

    // "d is the sender's deviation in the even or odd cycle"; the latest counts
    private static void deviationsAreKeptByParity() {
        // Node 3 is at 4 when node 0 is at 42; node 1 is one tick ahead of node 0.
        Joined j = Joined.by(1, 42, 1);
        j.signals.send(1, 4, 42, PlainModel.word(1, 4, 0, 10));
        CHECKS.due("even", j.signals.bus.deviation(3, 0, false), -1);
        j.signals.send(1, 4, 46, PlainModel.word(1, 4, 0, 11));
        CHECKS.due("even, again", j.signals.bus.deviation(3, 0, false), 3);
        CHECKS.due("got, again", j.signals.bus.got(3, 1), 11);
        j.signals.send(0, 5, 42, PlainModel.word(1, 5, 0, 12));
        CHECKS.due("odd", j.signals.bus.deviation(3, 0, true), 0);
        CHECKS.due("even stays", j.signals.bus.deviation(3, 0, false), 3);
        CHECKS.due("got, at last", j.signals.bus.got(3, 1), 12);
        j.signals.send(0, 5, 46, PlainModel.word(1, 5, 0, 13));
        CHECKS.due("4 is too much: odd stays", j.signals.bus.deviation(3, 0, true), 0);
        CHECKS.due("4 is too much: got stays", j.signals.bus.got(3, 1), 12);
        CHECKS.none("of node 1", () -> j.signals.bus.deviation(3, 1, true));
        CHECKS.none("of itself", () -> j.signals.bus.deviation(3, 3, true));
    }

    // "and the cycle is the node's"
    private static void onlyTheNodesCycleIsTaken() {
        for (int cycle = 0; cycle < 64; cycle++) {
            Joined j = Joined.by(0, 42, 1);
            j.signals.send(0, 4, 42, PlainModel.word(1, cycle, 1, 9));
            if (cycle == 4) {
                CHECKS.due("cycle 4", j.signals.bus.deviation(3, 0, false), 0);
                CHECKS.due("cycle 4", j.signals.bus.got(3, 1), 9);
            } else {
                CHECKS.none("cycle " + cycle, () -> j.signals.bus.deviation(3, 0, false));
                CHECKS.none("cycle " + cycle, () -> j.signals.bus.got(3, 1));
            }
            CHECKS.none("not in the odd cycle", () -> j.signals.bus.deviation(3, 0, true));
            CHECKS.due("a joining node goes on", j.signals.bus.state(3), 3);
        }
    }

    // "Otherwise, if the node is leading and startup is 1: it listens."
    private static void leadersListenBeyondThree() {
        // Node 0 sends its first frame so many ticks behind 4 of node 1's cycle.
        for (int later = -4; later <= 9; later++) {
            Bench b = Bench.twoLeaders(0, later);
            b.to(180 + later + 4);
            boolean fits = later >= -3 && later <= 3;
            CHECKS.due(later + " later: state(0)", b.bus.state(0), 2);
            CHECKS.due(later + " later: state(1)", b.bus.state(1), fits ? 2 : 1);
            if (fits) {
                CHECKS.due(later + " later: deviation", b.bus.deviation(1, 0, false), later);
            } else {
                CHECKS.none(later + " later: deviation", () -> b.bus.deviation(1, 0, false));
            }
        }
        for (int later = -4; later <= 9; later++) {
            Bench b = Bench.twoLeaders(0, later);
            b.forge(PlainModel.word(1, 0, 1, 0), PlainModel.word(1, 0, 0, 0));
            b.to(180 + later + 4);
            CHECKS.due(later + " later, without startup: state(1)", b.bus.state(1), 2);
        }
    }

    // "and the cycle is the node's: ... Otherwise, if the node is leading and startup is 1: it listens."
    private static void leadersListenAtAnotherCycle() {
        for (int cycle = 0; cycle < 64; cycle++) {
            for (int startup = 0; startup < 2; startup++) {
                Bench b = Bench.twoLeaders(0, 0);
                b.forge(PlainModel.word(1, 0, 1, 0), PlainModel.word(1, cycle, startup, 0));
                b.to(184);
                CHECKS.due("cycle " + cycle + ", startup " + startup, b.bus.state(1),
                    startup == 1 && cycle > 0 ? 1 : 2);
            }
        }
        // The other ids of a slot have no startup that is not noise.
        for (int id = 3; id <= 4; id++) {
            Bench b = Bench.twoLeaders(0, 0);
            b.forge(PlainModel.word(1, 0, 1, 0), PlainModel.word(id, 1, 0, 0));
            b.to(184);
            CHECKS.due("id " + id, b.bus.state(1), 2);
        }
        // It begins to listen anew: it leads again 180 ticks behind that, if all others are gone.
        Bench b = Bench.twoLeaders(0, 4);
        b.to(188);
        b.bus.off(0);
        b.to(188 + 179);
        CHECKS.due("it listens", b.bus.state(1), 1);
        b.to(188 + 180);
        CHECKS.due("it leads", b.bus.state(1), 2);
    }

    // "if the node is leading": the others stay as they are
    private static void onlyLeadersListen() {
        // Node 3 joins, node 1 is active: a frame with startup of a wrong cycle, and one at a wrong time.
        Joined j = Joined.by(0, 42, 1);
        j.signals.sendStartup(0, 4, 42, 1, 7);
        j.signals.sendStartup(0, 4, 46, 1, 4);
        CHECKS.due("joining", j.signals.bus.state(3), 3);
        CHECKS.due("active", j.signals.bus.state(1), 4);
        // Node 2 is passive from tick 1100 on; node 0, in time with it, sends in 1124 a frame of its cycle 0.
        Bench b = Bench.trio();
        b.to(960);
        b.bus.off(0);
        b.bus.off(1);
        b.bus.power(0);
        b.bus.lose(2);
        b.to(1124);
        CHECKS.due("a frame of cycle 0", b.bus.last(), PlainModel.word(1, 0, 1, 0));
        CHECKS.due("passive", b.bus.state(2), 5);
        CHECKS.none("no deviation", () -> b.bus.deviation(2, 0, false));
    }

    /** Brings node 3 in time by one node's slots, so that it hears messages of the same cycle ten too early or late. */
    private static Signals joinedBySlot(int later, int node, int id) {
        Signals s = Signals.withListener(0, later, 330);
        s.sendStartup(node, 2, 10 * node + 4, id, 2);
        s.sendStartup(node, 3, 10 * node + 4, id, 3);
        CHECKS.due("node 3 joins", s.bus.state(3), 3);
        return s;
    }

    // "A frame with an id from 5 to 9 and the node's cycle, while m is 40 .. 59"
    private static void messagesAreTakenFromFortyToFiftyNine() {
        int[] tried = new int[80];
        for (int later = -1; later <= 1; later++) {
            for (int node = 0; node < 2; node++) {
                for (int id = 1; id <= 2; id++) {
                    for (int sender = 0; sender < 2; sender++) {
                        for (int m : Signals.MESSAGE_TIMES) {
                            tryMessage(tried, joinedBySlot(later, node, id), node, id, sender, m);
                        }
                    }
                }
            }
        }
        for (int m : new int[] {37, 39, 40, 41, 58, 59, 60, 61}) {
            CHECKS.due("a message at " + m + " was tried", tried[m] > 0);
        }
    }

    private static void tryMessage(int[] tried, Signals s, int joinedBy, int joinedId, int sender, int m) {
        int behind = s.tickOf(sender, 3, m) - s.tickOf(joinedBy, 3, 10 * joinedBy + 4);
        int heardAt = 10 * joinedId - 6 + behind;
        tried[heardAt]++;
        s.send(sender, 3, m, PlainModel.word(7, 3, 0, 44));
        CHECKS.due("m", s.bus.clock(3, 0), heardAt);
        if (heardAt < 40 || heardAt > 59) {
            CHECKS.none("a message at " + heardAt, () -> s.bus.got(3, 7));
            CHECKS.due("the number at " + heardAt, s.bus.clock(3, 5), heardAt < 40 ? 0 : 9);
        } else {
            CHECKS.due("a message at " + heardAt, s.bus.got(3, 7), 44);
            CHECKS.due("the number at " + heardAt, s.bus.clock(3, 5), 7);
            // It holds: at the next beginning of a minislot the number stays.
            s.to(s.bench.now + 4);
            CHECKS.due("the number at " + (heardAt + 4), s.bus.clock(3, 5), 7);
        }
    }

    // "A frame with an id from 5 to 9 and the node's cycle"
    private static void messagesOfAnotherCycleAreNot() {
        for (int cycle = 0; cycle < 64; cycle++) {
            Signals s = new Signals(0, 0);
            s.send(0, 3, 46, PlainModel.word(9, cycle, 0, 5));
            if (cycle == 3) {
                CHECKS.due("the node's cycle", s.bus.got(1, 9), 5);
                CHECKS.due("its number", s.bus.clock(1, 5), 9);
            } else {
                CHECKS.none("cycle " + cycle, () -> s.bus.got(1, 9));
                CHECKS.due("number with cycle " + cycle, s.bus.clock(1, 5), 6);
                s.to(s.bench.now + 2);
                CHECKS.due("it holds nothing", s.bus.clock(1, 5), 7);
            }
        }
    }

    // "its value is the one that the node has got under this id; its number is the id, and it holds"
    private static void everyMessageIdIsTaken() {
        for (int id = 5; id < 32; id++) {
            int heard = id;
            for (int m : Signals.MESSAGE_TIMES) {
                Signals s = new Signals(0, 0);
                s.send(0, 2, m, PlainModel.word(id, 2, 0, 600 + id));
                for (int other = 5; other <= 9; other++) {
                    int asked = other;
                    if (other == id) {
                        CHECKS.due("id " + id + " at " + m, s.bus.got(1, id), 600 + id);
                    } else {
                        CHECKS.none("id " + id + " at " + m, () -> s.bus.got(1, asked));
                    }
                }
                CHECKS.due("the number at " + m, s.bus.clock(1, 5), heard <= 9 ? heard : 5 + (m - 40) / 4);
                CHECKS.due("the state", s.bus.state(1), 4);
            }
        }
    }

    // "A frame with an id from 1 to 4"; "a frame whose id is not 1 .. 9" is noise
    private static void everyIdInASlot() {
        for (int slot = 0; slot < 4; slot++) {
            for (int id = 0; id < 32; id++) {
                Bench b = Bench.quartet();
                b.to(160 + 80 * 12 + 10 * slot + 3);
                b.forge(PlainModel.word(slot + 1, 12, slot < 2 ? 1 : 0, 0), PlainModel.word(id, 12, 0, 800 + id));
                b.to(b.now + 1);
                int hearer = slot == 0 ? 1 : 0;
                boolean fits = id == slot + 1;
                int sender = slot;
                if (fits) {
                    CHECKS.due("id " + id + " in slot " + slot, b.bus.deviation(hearer, slot, false), 0);
                } else {
                    CHECKS.none("id " + id + " in slot " + slot, () -> b.bus.deviation(hearer, sender, false));
                }
                CHECKS.due("got in slot " + slot, b.bus.got(hearer, slot + 1), fits ? 800 + id : 0);
                for (int other = 5; other <= 9; other++) {
                    int asked = other;
                    CHECKS.none("no message", () -> b.bus.got(hearer, asked));
                }
            }
        }
    }

    // "or that has startup 1 and an id above 2"
    private static void startupOfHigherIdsIsNoise() {
        for (int slot = 0; slot < 4; slot++) {
            for (int startup = 0; startup < 2; startup++) {
                Bench b = Bench.quartet();
                b.to(160 + 80 * 12 + 10 * slot + 3);
                b.forge(PlainModel.word(slot + 1, 12, slot < 2 ? 1 : 0, 0), PlainModel.word(slot + 1, 12, startup, 5));
                b.to(b.now + 1);
                int hearer = slot == 0 ? 1 : 0;
                boolean noise = startup == 1 && slot >= 2;
                CHECKS.due("id " + (slot + 1) + ", startup " + startup, b.bus.got(hearer, slot + 1), noise ? 0 : 5);
            }
        }
        for (int id = 5; id <= 9; id++) {
            int said = id;
            Signals s = new Signals(0, 0);
            s.send(0, 2, 50, PlainModel.word(id, 2, 1, 600));
            CHECKS.none("id " + id + " with startup", () -> s.bus.got(1, said));
            CHECKS.due("the number", s.bus.clock(1, 5), 7);
        }
    }

    // "A word of which a check is not right is NOISE"
    private static void wordsWithAWrongCheckAreNoise() {
        long right = PlainModel.word(1, 10, 1, 5);
        for (int bit = 0; bit < 57; bit++) {
            slotIsNoise("bit " + bit, right ^ 1L << bit);
        }
        // The check of 24 bits alone is right here.
        for (int bit = 0; bit < 11; bit++) {
            slotIsNoise("bit " + bit + " of the first check", PlainModel.wordWithWrongHead(1, 10, 1, 5, 1 << bit));
        }
        slotIsNoise("no bits", 0);
        slotIsNoise("all bits", (1L << 57) - 1);
    }

    private static void slotIsNoise(String what, long word) {
        Bench b = Bench.trio();
        b.to(963);
        b.forge(PlainModel.word(1, 10, 1, 0), word);
        b.to(964);
        CHECKS.due(what + ": the word", b.bus.last(), word);
        for (int node = 1; node < 3; node++) {
            int hearer = node;
            CHECKS.none(what + ": deviation", () -> b.bus.deviation(hearer, 0, false));
            CHECKS.due(what + ": got", b.bus.got(hearer, 1), 0);
        }
    }

    // "A node that is not listening: noise does nothing."
    private static void noiseDoesNothingToALeader() {
        long[] noises = {PlainModel.word(0, 1, 1, 0), PlainModel.word(3, 1, 1, 0), PlainModel.word(10, 1, 1, 0),
            PlainModel.word(1, 1, 1, 0) ^ 1, PlainModel.wordWithWrongHead(1, 1, 1, 0, 1)};
        for (long noise : noises) {
            Bench b = Bench.twoLeaders(0, 0);
            b.forge(PlainModel.word(1, 0, 1, 0), noise);
            b.to(184);
            CHECKS.due("noise " + noise, b.bus.state(1), 2);
            CHECKS.due("m", b.bus.clock(1, 0), 4);
        }
    }

    // "its value the one that the node has GOT": "value (10)" bits are 0 .. 1023
    private static void valuesFromZeroToTheGreatest() {
        for (int value : new int[] {0, 1, 511, 512, 1023}) {
            Signals s = new Signals(0, 0);
            s.send(0, 2, 42, PlainModel.word(5, 2, 0, value));
            CHECKS.due("got under an id", s.bus.got(1, 5), value);
            s.send(0, 3, 4, PlainModel.word(1, 3, 1, value));
            CHECKS.due("got from a node", s.bus.got(1, 1), value);
        }
    }
}
