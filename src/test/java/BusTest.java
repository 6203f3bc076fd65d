/** The edges of the bus: several senders in one tick, words that are disturbed or lost, and who hears. */
public final class BusTest {
    private static final Checks CHECKS = new Checks("BusTest");
    private static final long ALL_BITS = (1L << 57) - 1;

    public static void main(String[] args) {
        severalSendersAreNoWord();
        severalSendersLeaveDisturbanceAndLosses();
        disturbancesJoin();
        aDisturbanceIsForOneWord();
        aDisturbedWordCanBeAnother();
        lostWordsAreOneFewer();
        lostWordsWereOnTheBus();
        theSenderDoesNotHear();
        offAndHaltedNodesDoNotHear();
        offNodesSendNothing();
        framesAreCountedInEveryCase();
        CHECKS.end();
    }

    /** The trio in tick 1001, one before a minislot's sending, with messages of id 5 in so many nodes. */
    private static Bench senders(int many) {
        Bench b = Bench.trio();
        b.to(1001);
        for (int node = 0; node < many; node++) {
            b.bus.post(node, 5, 100 + node, 0, 1);
        }
        return b;
    }

    // "When several have sent, nobody hears anything."
    private static void severalSendersAreNoWord() {
        for (int many = 0; many <= 3; many++) {
            Bench b = senders(many);
            long before = b.bus.last();
            int frames = b.bus.frames();
            CHECKS.due(many + " at once", b.to(1002), many);
            CHECKS.due(many + " at once: frames", b.bus.frames(), frames + many);
            CHECKS.due(many + " at once: last", b.bus.last(), many == 1 ? PlainModel.word(5, 10, 0, 100) : before);
            for (int node = 0; node < 3; node++) {
                int hearer = node;
                if (many == 1 && node > 0) {
                    CHECKS.due("one is heard", b.bus.got(hearer, 5), 100);
                } else {
                    CHECKS.none(many + " at once: got", () -> b.bus.got(hearer, 5));
                }
            }
            b.to(1004);
            // Who has sent or heard holds the number for a minislot, the others go on.
            for (int node = 0; node < 3; node++) {
                CHECKS.due(many + " at once: number", b.bus.clock(node, 5), many == 1 || node < many ? 5 : 6);
            }
        }
    }

    // a word is on the bus, disturbed or lost only "when in a tick just one node has sent"
    private static void severalSendersLeaveDisturbanceAndLosses() {
        for (int many = 2; many <= 3; many++) {
            Bench b = senders(many);
            b.bus.disturb(6);
            b.bus.lose(1);
            b.to(1002);
            CHECKS.due(many + " at once: to be lost", b.bus.lose(0), 1);
            b.to(1044);
            CHECKS.due("the next word is disturbed", b.bus.last(), PlainModel.word(1, 11, 1, 0) ^ 6);
            CHECKS.due("and lost", b.bus.lose(0), 0);
            b.to(1054);
            CHECKS.due("the one behind it is not disturbed", b.bus.last(), PlainModel.word(2, 11, 1, 0));
            CHECKS.due("nor lost", b.bus.deviation(0, 1, true), 0);
        }
    }

    // "joined by ^ with those told before"
    private static void disturbancesJoin() {
        long[][] rows = {{0, 0, 0}, {1, 0, 1}, {0, 1, 1}, {1, 1, 0}, {1, 2, 3}, {3, 1, 2}, {1L << 56, 1, 1L << 56 | 1},
            {ALL_BITS, 0, ALL_BITS}, {ALL_BITS, ALL_BITS, 0}, {ALL_BITS, 1L << 56, ALL_BITS >>> 1}};
        for (long[] row : rows) {
            Bench b = Bench.trio();
            b.to(960);
            b.bus.disturb(row[0]);
            b.bus.disturb(row[1]);
            b.to(964);
            CHECKS.due(row[0] + " and " + row[1], b.bus.last(), PlainModel.word(1, 10, 1, 0) ^ row[2]);
            if (row[2] == 0) {
                CHECKS.due("undisturbed after all", b.bus.deviation(1, 0, false), 0);
            } else {
                CHECKS.none("disturbed", () -> b.bus.deviation(1, 0, false));
            }
        }
    }

    // "joined by ^ with what it is DISTURBED by (0 from then on)"
    private static void aDisturbanceIsForOneWord() {
        for (int bit = 0; bit < 57; bit++) {
            Bench b = Bench.trio();
            b.to(960);
            b.bus.disturb(1L << bit);
            b.to(964);
            CHECKS.due("bit " + bit, b.bus.last(), PlainModel.word(1, 10, 1, 0) ^ 1L << bit);
            CHECKS.none("bit " + bit + " makes noise", () -> b.bus.deviation(1, 0, false));
            b.to(974);
            CHECKS.due("the next word", b.bus.last(), PlainModel.word(2, 10, 1, 0));
            CHECKS.due("is heard", b.bus.deviation(0, 1, false), 0);
        }
    }

    // "its word is on the bus, joined by ^ with what it is DISTURBED by": that can be a right word, too
    private static void aDisturbedWordCanBeAnother() {
        Bench b = Bench.trio();
        b.to(960);
        b.forge(PlainModel.word(1, 10, 1, 0), PlainModel.word(1, 10, 1, 1023));
        b.to(964);
        CHECKS.due("got", b.bus.got(1, 1), 1023);
        CHECKS.due("got", b.bus.got(2, 1), 1023);
    }

    // "when frames are to be LOST, that is one fewer, and nobody hears it"
    private static void lostWordsAreOneFewer() {
        Bench b = Bench.quartet();
        b.to(959);
        for (int node = 0; node < 4; node++) {
            b.bus.value(node, 50 + node);
        }
        b.bus.lose(2);
        CHECKS.due("none yet", b.bus.lose(0), 2);
        b.to(964);
        CHECKS.due("one", b.bus.lose(0), 1);
        b.to(974);
        CHECKS.due("the last", b.bus.lose(0), 0);
        b.to(994);
        CHECKS.due("no fewer than 0", b.bus.lose(0), 0);
        for (int node = 0; node < 4; node++) {
            for (int sender = 0; sender < 4; sender++) {
                int from = sender;
                int hearer = node;
                if (sender < 2) {
                    CHECKS.none("lost", () -> b.bus.deviation(hearer, from, false));
                } else if (node != sender) {
                    CHECKS.due("not lost", b.bus.deviation(node, sender, false), 0);
                    CHECKS.due("not lost", b.bus.got(node, sender + 1), 50 + sender);
                }
            }
        }
        CHECKS.due("got before", b.bus.got(3, 1), 0);
    }

    // "The latest word that was on the bus (as it was disturbed, also when it was lost)."
    private static void lostWordsWereOnTheBus() {
        Bench b = new Bench(0);
        b.bus.power(0);
        b.bus.lose(1);
        b.bus.disturb(ALL_BITS);
        b.to(163);
        CHECKS.none("no word yet", () -> b.bus.last());
        b.to(164);
        CHECKS.due("the first word", b.bus.last(), PlainModel.word(1, 0, 1, 0) ^ ALL_BITS);
        b.to(243);
        CHECKS.due("still", b.bus.last(), PlainModel.word(1, 0, 1, 0) ^ ALL_BITS);
        b.to(244);
        CHECKS.due("the next", b.bus.last(), PlainModel.word(1, 1, 1, 0));
        b.bus.off(0);
        b.to(400);
        CHECKS.due("it stays", b.bus.last(), PlainModel.word(1, 1, 1, 0));
        // A word of which no bit is left is a word, too.
        Bench zero = new Bench(0);
        zero.bus.power(0);
        zero.bus.disturb(PlainModel.word(1, 0, 1, 0));
        zero.to(164);
        CHECKS.due("no bits", zero.bus.last(), 0);
    }

    // "all other nodes that are not off or halted HEAR it"
    private static void theSenderDoesNotHear() {
        Bench b = Bench.trio();
        b.to(963);
        b.forge(PlainModel.word(1, 10, 1, 0), PlainModel.word(1, 10, 1, 5));
        b.to(964);
        CHECKS.none("node 0 in its slot", () -> b.bus.got(0, 1));
        b.to(1001);
        b.bus.post(0, 5, 8, 0, 1);
        b.forge(PlainModel.word(5, 10, 0, 8), PlainModel.word(9, 10, 0, 8));
        b.to(1002);
        CHECKS.none("node 0 in a minislot", () -> b.bus.got(0, 9));
        CHECKS.due("its number", b.bus.clock(0, 5), 5);
        CHECKS.due("node 1 hears", b.bus.got(1, 9), 8);
        CHECKS.due("node 2 hears", b.bus.got(2, 9), 8);
    }

    // "all other nodes that are not off or halted HEAR it"
    private static void offAndHaltedNodesDoNotHear() {
        Bench off = Bench.quartet();
        off.to(960);
        off.bus.off(2);
        off.bus.value(0, 9);
        off.to(964);
        CHECKS.due("node 1 hears", off.bus.got(1, 1), 9);
        CHECKS.due("node 2, off, does not", off.bus.got(2, 1), 0);
        CHECKS.due("nor is it switched on", off.bus.state(2), 0);
        CHECKS.none("nor has it a deviation", () -> off.bus.deviation(2, 0, false));
        // Node 2 halts in tick 1420; node 0, in time with it, sends in 1444.
        Bench b = Bench.trio();
        b.to(960);
        b.bus.off(0);
        b.bus.off(1);
        b.to(1280);
        b.bus.power(0);
        b.to(1420);
        CHECKS.due("halted", b.bus.state(2), 6);
        b.to(1440);
        b.forge(PlainModel.word(1, 0, 1, 0), PlainModel.word(1, 16, 1, 9));
        b.to(1444);
        CHECKS.due("a frame", b.bus.last(), PlainModel.word(1, 16, 1, 9));
        CHECKS.due("node 2 does not hear it", b.bus.got(2, 1), 0);
        CHECKS.none("nor has it a deviation", () -> b.bus.deviation(2, 0, false));
        b.to(1700);
        CHECKS.due("it stays halted", b.bus.state(2), 6);
    }

    // "In each, for each node that is not off or halted"
    private static void offNodesSendNothing() {
        Bench b = Bench.trio();
        b.to(959);
        b.bus.post(2, 5, 1, 0, 1);
        b.bus.off(2);
        CHECKS.due("two frames in a cycle", b.to(1039), 2);
        b.bus.off(1);
        CHECKS.due("one frame", b.to(1119), 1);
        b.bus.off(0);
        int frames = b.bus.frames();
        CHECKS.due("no frame", b.to(1399), 0);
        CHECKS.due("frames stay", b.bus.frames(), frames);
    }

    // "How many frames were sent so far. (Also those sent at once with others.)"
    private static void framesAreCountedInEveryCase() {
        Bench b = senders(3);
        int frames = b.bus.frames();
        CHECKS.due("three at once", b.to(1003), 3);
        CHECKS.due("frames", b.bus.frames(), frames + 3);
        b.bus.lose(1);
        CHECKS.due("a lost one", b.to(1044), 1);
        b.bus.disturb(1);
        CHECKS.due("a disturbed one", b.to(1054), 1);
        CHECKS.due("an ordinary one", b.to(1064), 1);
        CHECKS.due("frames", b.bus.frames(), frames + 6);
        b.bus.off(0);
        b.bus.off(1);
        b.bus.off(2);
        b.bus.power(0);
        CHECKS.due("switching on and off leaves them", b.bus.frames(), frames + 6);
    }
}
