/** The edges of a cycle: its length, its slots and minislots, numbers, holding, and who sends when. */
public final class CycleTest {
    private static final Checks CHECKS = new Checks("CycleTest");

    public static void main(String[] args) {
        zeroFollowsSixtyThree();
        offsetLengthensOddCyclesAlone();
        eachSlotHasItsTime();
        eachMinislotHasItsNumber();
        aMessageThatComesTooLateWaits();
        basesAcrossTheWrap();
        atFortyNothingIsHeld();
        numbersGoOnBehindAHeardFrame();
        whoHoldsDoesNotSend();
        leadersAndJoinersSendNoMessages();
        joiningStartersSendWithACountAboveZero();
        joinersThatAreNoStartersDoNotSend();
        passiveNodesSendNothing();
        CHECKS.end();
    }

    private static void clockIs(Bench b, int node, int... wanted) {
        for (int what = 0; what < wanted.length; what++) {
            CHECKS.due("tick " + b.now + ": clock(" + node + ", " + what + ")", b.bus.clock(node, what), wanted[what]);
        }
    }

    private static void sends(String what, Bench b, int tick, long word) {
        CHECKS.due(what + ": nothing before " + tick, b.to(tick - 1), 0);
        CHECKS.due(what + ": a frame in " + tick, b.to(tick), 1);
        CHECKS.due(what + ": its word", b.bus.last(), word);
    }

    // "m is 0, the cycle one more (0 after 63)"
    private static void zeroFollowsSixtyThree() {
        Bench b = Bench.trio();
        b.to(160 + 80 * 63 - 1);
        clockIs(b, 2, 79, 62);
        b.to(160 + 80 * 63);
        clockIs(b, 2, 0, 63);
        b.to(160 + 80 * 64 - 1);
        clockIs(b, 2, 79, 63);
        CHECKS.due("deviation in the odd cycle", b.bus.deviation(2, 0, true), 0);
        b.to(160 + 80 * 64);
        clockIs(b, 2, 0, 0);
        CHECKS.none("63 is odd: deviations are forgotten", () -> b.bus.deviation(2, 0, true));
        sends("cycle 0", b, 160 + 80 * 64 + 4, PlainModel.word(1, 0, 1, 0));
        CHECKS.due("deviation in the even cycle", b.bus.deviation(2, 0, false), 0);
        b.to(160 + 80 * 65);
        clockIs(b, 2, 0, 1);
    }

    // "The cycle's LENGTH is 80 + rate, in an odd cycle + offset."
    private static void offsetLengthensOddCyclesAlone() {
        Bench b = Bench.twoLeaders(0, 2);
        b.to(319);
        clockIs(b, 1, 59, 1, 0, 0);
        b.to(320);
        // Node 1 hears node 0 two too late, node 0 hears node 1 two too early: half of it is the offset.
        clockIs(b, 1, 60, 1, 0, 1);
        b.to(322);
        clockIs(b, 0, 60, 1, 0, -1);
        b.to(340);
        clockIs(b, 1, 80, 1, 0, 1);
        clockIs(b, 0, 78, 1, 0, -1);
        b.to(341);
        clockIs(b, 1, 0, 2, 0, 1);
        clockIs(b, 0, 0, 2, 0, -1);
        b.to(420);
        clockIs(b, 1, 79, 2, 0, 1);
        clockIs(b, 0, 79, 2, 0, -1);
        b.to(421);
        clockIs(b, 1, 0, 3, 0, 1);
        clockIs(b, 0, 0, 3, 0, -1);
        b.to(480);
        clockIs(b, 1, 59, 3, 0, 1);
        b.to(481);
        clockIs(b, 1, 60, 3, 0, 0);
        clockIs(b, 0, 60, 3, 0, 0);
    }

    // "SLOT s (0 .. 3) is node s's; its frame is due at m = 10 s + 4."
    private static void eachSlotHasItsTime() {
        Bench b = Bench.quartet();
        b.to(959);
        for (int node = 0; node < 4; node++) {
            b.bus.value(node, 1020 + node);
        }
        for (int cycle = 10; cycle < 12; cycle++) {
            for (int node = 0; node < 4; node++) {
                sends("slot " + node, b, 160 + 80 * cycle + 10 * node + 4,
                    PlainModel.word(node + 1, cycle, node < 2 ? 1 : 0, 1020 + node));
                for (int hearer = 0; hearer < 4; hearer++) {
                    if (hearer != node) {
                        CHECKS.due("deviation", b.bus.deviation(hearer, node, cycle == 11), 0);
                        CHECKS.due("got", b.bus.got(hearer, node + 1), 1020 + node);
                    }
                }
            }
        }
    }

    // "The five MINISLOTS begin at 40, 44, .. 56."; "Two microticks behind the beginning of a minislot, ..."
    private static void eachMinislotHasItsNumber() {
        for (int id = 5; id <= 9; id++) {
            Bench b = Bench.trio();
            b.to(990);
            b.bus.post(2, id, 1000 + id, 0, 1);
            int begin = 1000 + 4 * (id - 5);
            CHECKS.due("id " + id + ": nothing before its minislot", b.to(begin - 1), 0);
            clockIs(b, 2, begin - 961, 10, 0, 0, 2, id == 5 ? 9 : id - 1);
            CHECKS.due("id " + id + ": nothing at its beginning", b.to(begin), 0);
            clockIs(b, 2, begin - 960, 10, 0, 0, 2, id);
            sends("id " + id, b, begin + 2, PlainModel.word(id, 10, 0, 1000 + id));
            CHECKS.due("id " + id + ": no more in this cycle", b.to(1043), 0);
        }
    }

    // a message "whose id is the number" when the minislot is two microticks old, not behind that
    private static void aMessageThatComesTooLateWaits() {
        Bench early = Bench.trio();
        early.to(1001);
        early.bus.post(2, 5, 1, 0, 1);
        sends("given at 41", early, 1002, PlainModel.word(5, 10, 0, 1));
        Bench late = Bench.trio();
        late.to(1002);
        late.bus.post(2, 5, 1, 0, 1);
        CHECKS.due("given at 42", late.to(1043), 0);
        late.to(1070);
        sends("in the next cycle", late, 1082, PlainModel.word(5, 11, 0, 1));
        // "From 60 on is the PAUSE": the number is 9 up to 40 of the next cycle, but there is no minislot.
        Bench pause = Bench.trio();
        pause.to(1018);
        pause.bus.post(2, 9, 1, 0, 1);
        CHECKS.due("number", pause.bus.clock(2, 5), 9);
        CHECKS.due("nothing in the pause", pause.to(1040), 0);
        CHECKS.due("three slots", pause.to(1079), 3);
        CHECKS.due("number", pause.bus.clock(2, 5), 9);
        sends("in the next cycle", pause, 1098, PlainModel.word(9, 11, 0, 1));
    }

    // "the cycle modulo the message's EVERY is its BASE"
    private static void basesAcrossTheWrap() {
        int[][] rows = {{3, 4, 63}, {0, 4, 64}, {1, 4, 65}, {2, 4, 66}, {1, 2, 63}, {0, 2, 64}, {0, 1, 63}};
        for (int[] row : rows) {
            Bench b = Bench.trio();
            b.to(160 + 80 * 63);
            b.bus.post(0, 5, 7, row[0], row[1]);
            int due = 160 + 80 * row[2] + 42;
            b.to(due - 1);
            CHECKS.none("base " + row[0] + " of " + row[1] + ", before", () -> b.bus.got(1, 5));
            b.to(due);
            CHECKS.due("base " + row[0] + " of " + row[1], b.bus.last(), PlainModel.word(5, row[2] % 64, 0, 7));
        }
    }

    // "At 40 the node's NUMBER is 5 and it HOLDS nothing"
    private static void atFortyNothingIsHeld() {
        Bench b = Bench.trio();
        b.to(1000);
        b.bus.post(1, 9, 1, 0, 1);
        sends("id 9", b, 1018, PlainModel.word(9, 10, 0, 1));
        // All hold from 58 on, and nothing ends that before 40 of the next cycle.
        b.to(1079);
        clockIs(b, 0, 39, 11, 0, 0, 0, 9);
        clockIs(b, 1, 39, 11, 0, 0, 2, 9);
        b.bus.post(0, 5, 2, 0, 1);
        b.bus.post(1, 6, 3, 0, 1);
        b.to(1080);
        clockIs(b, 0, 40, 11, 0, 0, 0, 5);
        clockIs(b, 1, 40, 11, 0, 0, 2, 5);
        sends("a hearer sends at 42", b, 1082, PlainModel.word(5, 11, 0, 2));
        b.to(1088);
        clockIs(b, 1, 48, 11, 0, 0, 2, 6);
        Bench sender = Bench.trio();
        sender.to(1000);
        sender.bus.post(1, 9, 1, 0, 1);
        sender.to(1018);
        sender.bus.post(1, 5, 2, 0, 1);
        sender.to(1080);
        sends("the sender sends at 42, too", sender, 1082, PlainModel.word(5, 11, 0, 2));
        Bench silent = Bench.trio();
        silent.to(1000);
        silent.bus.post(1, 9, 1, 0, 1);
        silent.to(1084);
        for (int node = 0; node < 3; node++) {
            CHECKS.due("the number goes on at 44", silent.bus.clock(node, 5), 6);
        }
    }

    // "at 44, 48, 52, 56: if it holds, it holds no more, otherwise the number is one more"
    private static void numbersGoOnBehindAHeardFrame() {
        int[][] rows = {{42, 9}, {43, 9}, {44, 9}, {47, 9}, {48, 10}, {52, 11}, {56, 12}, {59, 12}, {79, 12}};
        Signals s = new Signals(0, 0);
        s.send(0, 2, 42, PlainModel.word(9, 2, 0, 3));
        for (int[] row : rows) {
            s.to(s.tickOf(1, 2, row[0]));
            clockIs(s.bench, 1, row[0], 2, 0, 0, 0, row[1]);
        }
        s.to(s.tickOf(1, 3, 39));
        CHECKS.due("up to 39", s.bus.clock(1, 5), 12);
        s.to(s.tickOf(1, 3, 40));
        CHECKS.due("and 5 again", s.bus.clock(1, 5), 5);
        // The sender itself holds the number 5 for one minislot more.
        Signals own = new Signals(0, 0);
        own.send(0, 2, 42, PlainModel.word(9, 2, 0, 3));
        int[][] ownRows = {{42, 5}, {44, 5}, {47, 5}, {48, 6}, {52, 7}, {56, 8}, {79, 8}};
        for (int[] row : ownRows) {
            own.to(own.tickOf(0, 2, row[0]));
            clockIs(own.bench, 0, row[0], 2, 0, 0, 0, row[1]);
        }
        // A number can go back, too.
        Signals back = new Signals(0, 0);
        back.send(0, 2, 58, PlainModel.word(5, 2, 0, 3));
        CHECKS.due("5 behind 9", back.bus.clock(1, 5), 5);
    }

    // "if it is active, holds nothing, and has a message of the host whose id is the number"
    private static void whoHoldsDoesNotSend() {
        // Node 0 is one tick behind node 1, and hears at 45 what node 1 sends at 46.
        Signals s = new Signals(0, 1);
        s.to(s.tickOf(1, 2, 40));
        s.bus.post(0, 6, 1, 0, 1);
        s.bus.post(1, 6, 2, 0, 1);
        sends("node 1", s.bench, s.tickOf(1, 2, 46), PlainModel.word(6, 2, 0, 2));
        clockIs(s.bench, 0, 45, 2, 0, 0, 0, 6);
        CHECKS.due("node 0 does not at 46", s.bench.to(s.tickOf(0, 2, 49)), 0);
        clockIs(s.bench, 0, 49, 2, 0, 0, 0, 6);
        sends("it does at 50", s.bench, s.tickOf(0, 2, 50), PlainModel.word(6, 2, 0, 1));
    }

    // "if it is active"
    private static void leadersAndJoinersSendNoMessages() {
        Bench b = Bench.trio();
        b.to(390);
        for (int node = 0; node < 3; node++) {
            b.bus.post(node, 5 + node, node, 0, 1);
        }
        // Up to tick 780 node 0 leads and nodes 1 and 2 join; then there are two active nodes, 2 joins up to 940.
        b.to(700);
        CHECKS.due("two frames in slots, no message", b.to(780), 2);
        b.to(814);
        sends("node 0, active", b, 842, PlainModel.word(5, 8, 0, 0));
        sends("node 1, active", b, 850, PlainModel.word(6, 8, 0, 1));
        CHECKS.due("node 2, joining", b.to(883), 0);
        b.to(995);
        sends("node 2, active", b, 1010, PlainModel.word(7, 10, 0, 2));
    }

    // "or a starter that is joining and whose COUNT is above 0"
    private static void joiningStartersSendWithACountAboveZero() {
        // Node 1 leads, its cycle c begins at tick 180 + 80 c; node 0 hears cycle 2 first, and joins in 3.
        Bench b = new Bench(0);
        b.bus.power(1);
        b.to(200);
        b.bus.power(0);
        b.to(434);
        clockIs(b, 0, 14, 3, 0, 0, -1, 0);
        b.to(480);
        clockIs(b, 0, 60, 3, 0, 0, 0, 9);
        CHECKS.due("count 0: nothing in slot 0 of cycle 4", b.to(513), 0);
        CHECKS.due("but in slot 1", b.to(580), 1);
        CHECKS.due("count 0: nothing in slot 0 of cycle 5", b.to(593), 0);
        b.to(639);
        clockIs(b, 0, 59, 5, 0, 0, 0, 9);
        b.to(640);
        clockIs(b, 0, 60, 5, 0, 0, 1, 9);
        CHECKS.due("it joins", b.bus.state(0), 3);
        sends("count 1", b, 664, PlainModel.word(1, 6, 1, 0));
        // With a count of -1: node 1 joins at 4 of cycle 3, ahead of its slot, and sends nothing there.
        Bench c = Bench.duo(0);
        c.to(404);
        clockIs(c, 1, 4, 3, 0, 0, -1, 0);
        CHECKS.due("count -1: nothing in slot 1 of cycle 3", c.to(459), 0);
        clockIs(c, 1, 59, 3, 0, 0, -1, 9);
    }

    // "or a starter that is joining": another joiner is none
    private static void joinersThatAreNoStartersDoNotSend() {
        Bench b = Bench.quartet();
        b.to(780);
        clockIs(b, 2, 60, 7, 0, 0, 1, 9);
        clockIs(b, 3, 60, 7, 0, 0, 1, 9);
        b.to(814);
        CHECKS.due("count 1, but no starters", b.to(883), 0);
        b.to(939);
        CHECKS.due("state(3)", b.bus.state(3), 3);
        b.to(940);
        CHECKS.due("state(3)", b.bus.state(3), 4);
        b.to(974);
        sends("node 2, active", b, 984, PlainModel.word(3, 10, 0, 0));
        sends("node 3, active", b, 994, PlainModel.word(4, 10, 0, 0));
    }

    // a passive node is neither "leading or active" nor joining
    private static void passiveNodesSendNothing() {
        Bench b = Bench.trio();
        b.to(960);
        b.bus.off(0);
        b.bus.off(1);
        b.bus.power(0);
        b.bus.lose(2);
        b.to(1100);
        CHECKS.due("state(2)", b.bus.state(2), 5);
        b.bus.post(2, 5, 77, 0, 1);
        b.to(1120);
        // Node 0 leads in time with node 2, but counts its cycles from 0.
        for (int cycle = 12; cycle < 14; cycle++) {
            b.forge(PlainModel.word(1, cycle - 12, 1, 0), PlainModel.word(1, cycle, 1, 0));
            sends("node 0", b, 164 + 80 * cycle, PlainModel.word(1, cycle, 1, 0));
            CHECKS.due("node 2, passive", b.to(219 + 80 * cycle), 0);
        }
        CHECKS.due("state(2)", b.bus.state(2), 5);
        b.to(1260);
        CHECKS.due("state(2)", b.bus.state(2), 4);
        sends("node 0", b, 1284, PlainModel.word(1, 2, 1, 0));
        sends("node 2, active", b, 1304, PlainModel.word(3, 14, 0, 0));
        sends("its message", b, 1322, PlainModel.word(5, 14, 0, 77));
    }
}
