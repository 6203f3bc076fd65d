/** The edges of listening: quiet, since, the first one, joining, and what is noise to a listener. */
public final class ListeningTest {
    private static final Checks CHECKS = new Checks("ListeningTest");

    public static void main(String[] args) {
        startersLeadWhenQuietLongEnough();
        othersNeverLead();
        quietBeginsAnewWithAllThatIsHeard();
        quietIsLookedAtBeforeHearing();
        severalSendersAreNotHeard();
        joinsWhileSinceIsSeventyToNinety();
        rateOfAJoinerIsLimited();
        joinsByEitherStarter();
        onlyTheCycleBehindJoins();
        theCycleBehindSixtyTwo();
        anOddCycleIsNoFirstOne();
        anotherIdIsNothingUpToNinety();
        theSameIdReplacesTheFirstOne();
        theSameIdTooEarlyEndsTheFirstOne();
        framesWithoutStartupAreNothing();
        noiseIsNoFirstOneAndNoSecond();
        noiseLeavesTheFirstOne();
        switchingOnForgetsTheFirstOne();
        listeningAgainForgetsTheFirstOne();
        joiningAgainBeginsAnew();
        leadingAgainBeginsAnew();
        CHECKS.end();
    }

    // "a starter whose quiet is 160 + 20 times its number then is leading, with m 0, cycle 0, ..."
    private static void startersLeadWhenQuietLongEnough() {
        for (int node = 0; node < 2; node++) {
            Bench b = new Bench(0);
            b.bus.power(node);
            b.to(159 + 20 * node);
            CHECKS.due("state(" + node + ") one tick before", b.bus.state(node), 1);
            b.to(160 + 20 * node);
            CHECKS.due("state(" + node + ")", b.bus.state(node), 2);
            for (int what = 0; what < 6; what++) {
                CHECKS.due("clock(" + node + ", " + what + ")", b.bus.clock(node, what), 0);
            }
        }
    }

    // "0 and 1 are STARTERS"
    private static void othersNeverLead() {
        Bench b = new Bench(0);
        b.bus.power(2);
        b.bus.power(3);
        for (int tick : new int[] {160, 180, 200, 220, 1000}) {
            b.to(tick);
            CHECKS.due("state(2) at " + tick, b.bus.state(2), 1);
            CHECKS.due("state(3) at " + tick, b.bus.state(3), 1);
        }
        CHECKS.due("frames", b.bus.frames(), 0);
    }

    /** Node 1 leads from tick 180 on and sends in 194; node 0 is switched on at the given tick. */
    private static Bench beforeTheFirstFrame(int switchedOn) {
        Bench b = new Bench(0);
        b.bus.power(1);
        b.to(switchedOn);
        b.bus.power(0);
        b.to(193);
        return b;
    }

    private static void leadsAt(String what, Bench b, int tick) {
        b.bus.off(1);
        b.to(tick - 1);
        CHECKS.due(what + ", one tick before " + tick, b.bus.state(0), 1);
        b.to(tick);
        CHECKS.due(what + ", at " + tick, b.bus.state(0), 2);
    }

    // "A listening node: its quiet is 0; noise does nothing else."
    private static void quietBeginsAnewWithAllThatIsHeard() {
        long due = PlainModel.word(2, 0, 1, 0);
        long[] words = {due, PlainModel.word(2, 1, 1, 0), PlainModel.word(2, 0, 0, 0), PlainModel.word(5, 0, 0, 7),
            PlainModel.word(0, 0, 0, 0), PlainModel.word(10, 0, 0, 0), PlainModel.word(3, 0, 1, 0), due ^ 1,
            PlainModel.wordWithWrongHead(2, 0, 1, 0, 1), 0};
        for (long word : words) {
            Bench b = beforeTheFirstFrame(100);
            b.forge(due, word);
            b.to(194);
            leadsAt("having heard " + word, b, 194 + 160);
        }
        Bench lost = beforeTheFirstFrame(100);
        lost.bus.lose(1);
        lost.to(194);
        leadsAt("having heard nothing", lost, 100 + 160);
    }

    // "When in a tick, after all this, just one node has sent, ..."
    private static void quietIsLookedAtBeforeHearing() {
        Bench at159 = beforeTheFirstFrame(35);
        at159.to(194);
        CHECKS.due("quiet was 159", at159.bus.state(0), 1);
        leadsAt("quiet was 159", at159, 194 + 160);
        Bench at160 = beforeTheFirstFrame(34);
        at160.bus.lose(1);
        at160.to(194);
        CHECKS.due("quiet was 160, nothing heard", at160.bus.state(0), 2);
        Bench plain = beforeTheFirstFrame(34);
        plain.forge(PlainModel.word(2, 0, 1, 0), PlainModel.word(2, 0, 0, 0));
        plain.to(194);
        CHECKS.due("quiet was 160, a frame without startup", plain.bus.state(0), 2);
        Bench startup = beforeTheFirstFrame(34);
        startup.to(194);
        CHECKS.due("quiet was 160, a frame with startup", startup.bus.state(0), 1);
        leadsAt("quiet was 160, a frame with startup", startup, 194 + 160);
    }

    // "When several have sent, nobody hears anything."
    private static void severalSendersAreNotHeard() {
        Bench b = Bench.trio();
        b.to(961);
        b.bus.off(0);
        b.bus.power(0);
        b.bus.lose(1000);
        b.bus.post(1, 5, 1, 0, 1);
        b.bus.post(2, 5, 2, 0, 1);
        b.to(1001);
        CHECKS.due("two at once", b.to(1002), 2);
        b.to(1120);
        CHECKS.due("one tick before", b.bus.state(0), 1);
        b.to(1121);
        CHECKS.due("160 ticks behind its switching on", b.bus.state(0), 2);
    }

    /** Times of two messages of node 0, in cycles 2 and 3, between which a node's since grows by a given number. */
    private record Gap(int firstM, int secondM, int slowness, int switchedOn) {
        static Gap of(int since) {
            for (int slowness = 0; slowness < 31; slowness++) {
                for (int on = 321; on < 340; on++) {
                    for (int first : Signals.MESSAGE_TIMES) {
                        for (int second : Signals.MESSAGE_TIMES) {
                            int till = Bench.passed(slowness, 420 + second - on);
                            if (till - Bench.passed(slowness, 340 + first - on) == since) {
                                return new Gap(first, second, slowness, on);
                            }
                        }
                    }
                }
            }
            throw new AssertionError("no gap of " + since);
        }

        Signals begin() {
            return Signals.withListener(slowness, 0, switchedOn);
        }
    }

    // "A frame with startup 1, with the id of the FIRST one and the cycle behind that one's, while since is 70 .. 90"
    private static void joinsWhileSinceIsSeventyToNinety() {
        for (int since = 66; since <= 96; since++) {
            Gap gap = Gap.of(since);
            Signals s = gap.begin();
            s.sendStartup(0, 2, gap.firstM, 1, 2);
            CHECKS.due("it listens", s.bus.state(3), 1);
            s.sendStartup(0, 3, gap.secondM, 1, 3);
            CHECKS.due("state with since " + since, s.bus.state(3), since < 70 || since > 90 ? 1 : 3);
        }
    }

    // "the rate since - 80 (but -4 when that is less, 4 when more), offset 0, ..., count -1, number 0"
    private static void rateOfAJoinerIsLimited() {
        int[][] rows = {{70, -4}, {75, -4}, {76, -4}, {77, -3}, {79, -1}, {80, 0}, {81, 1}, {83, 3}, {84, 4}, {85, 4},
            {90, 4}};
        for (int[] row : rows) {
            Gap gap = Gap.of(row[0]);
            Signals s = gap.begin();
            s.sendStartup(0, 2, gap.firstM, 1, 2);
            s.sendStartup(0, 3, gap.secondM, 1, 3);
            clockIs("since " + row[0], s.bus, 4, 3, row[1], 0, -1, 0);
        }
    }

    private static void clockIs(String when, SlotBus bus, int... wanted) {
        for (int what = 0; what < wanted.length; what++) {
            CHECKS.due(when + ": clock(3, " + what + ")", bus.clock(3, what), wanted[what]);
        }
    }

    // "its cycle is the frame's, m is 10 * (id - 1) + 4"
    private static void joinsByEitherStarter() {
        for (int id = 1; id <= 2; id++) {
            Signals s = Signals.withListener(0, 0, 330);
            s.sendStartup(0, 2, 46, id, 20);
            s.sendStartup(0, 3, 46, id, 21);
            CHECKS.due("state with id " + id, s.bus.state(3), 3);
            clockIs("id " + id, s.bus, 10 * id - 6, 21, 0, 0, -1, 0);
            for (int sender = 0; sender < 4; sender++) {
                int other = sender;
                CHECKS.none("no deviation yet", () -> s.bus.deviation(3, other, true));
                CHECKS.none("nothing got yet", () -> s.bus.got(3, other + 1));
            }
        }
    }

    // "and the cycle behind that one's"
    private static void onlyTheCycleBehindJoins() {
        for (int cycle = 0; cycle < 64; cycle++) {
            Signals s = Signals.withListener(0, 0, 330);
            s.sendStartup(0, 2, 46, 1, 30);
            s.sendStartup(0, 3, 46, 1, cycle);
            CHECKS.due("30, then " + cycle, s.bus.state(3), cycle == 31 ? 3 : 1);
        }
    }

    // "a CYCLE (0 .. 63)"; "(0 after 63)"
    private static void theCycleBehindSixtyTwo() {
        Signals s = Signals.withListener(0, 0, 330);
        s.sendStartup(0, 2, 46, 1, 62);
        s.sendStartup(0, 3, 46, 1, 63);
        clockIs("62, then 63", s.bus, 4, 63, 0, 0, -1, 0);
        s.to(s.tickOf(0, 3, 46) + 75);
        clockIs("the last microtick", s.bus, 79, 63);
        s.to(s.tickOf(0, 3, 46) + 76);
        clockIs("the wrap", s.bus, 0, 0);
    }

    // "Otherwise a frame with startup 1 and an even cycle is the first one, since is 0; another ...: there is no first"
    private static void anOddCycleIsNoFirstOne() {
        int[][] rows = {{61, 62}, {63, 0}, {1, 2}};
        for (int[] row : rows) {
            Signals s = Signals.withListener(0, 0, 330);
            s.sendStartup(0, 2, 46, 1, row[0]);
            s.sendStartup(0, 3, 46, 1, row[1]);
            CHECKS.due(row[0] + ", then " + row[1], s.bus.state(3), 1);
            s.sendStartup(0, 4, 46, 1, row[1] + 1);
            CHECKS.due("the even one was a first one", s.bus.state(3), 3);
        }
        Signals zero = Signals.withListener(0, 0, 330);
        zero.sendStartup(0, 2, 46, 2, 0);
        zero.sendStartup(0, 3, 46, 2, 1);
        CHECKS.due("0, then 1", zero.bus.state(3), 3);
    }

    // "Otherwise, while there is a first one of another id and since is not above 90, nothing."
    private static void anotherIdIsNothingUpToNinety() {
        for (int since = 66; since <= 96; since++) {
            Gap gap = Gap.of(since);
            Signals s = gap.begin();
            s.sendStartup(0, 2, gap.firstM, 1, 2);
            s.sendStartup(0, 3, gap.secondM, 2, 2);
            s.sendStartup(0, 4, gap.secondM, 2, 3);
            CHECKS.due("id 2 with since " + since + " was a first one", s.bus.state(3), since > 90 ? 3 : 1);
        }
        int[][] between = {{2, 2}, {2, 3}, {2, 62}, {2, 63}};
        for (int[] other : between) {
            Signals s = Signals.withListener(0, 0, 330);
            s.sendStartup(0, 2, 46, 1, 2);
            s.sendStartup(0, 2, 54, other[0], other[1]);
            s.sendStartup(0, 3, 46, 1, 3);
            CHECKS.due("joins by id 1", s.bus.state(3), 3);
            clockIs("joins by id 1", s.bus, 4, 3, 0);
        }
        Signals both = Signals.withListener(0, 0, 330);
        both.sendStartup(0, 2, 46, 1, 2);
        both.sendStartup(0, 3, 46, 2, 3);
        CHECKS.due("the cycle behind of another id", both.bus.state(3), 1);
        both.sendStartup(0, 3, 54, 1, 3);
        CHECKS.due("the first one is still there", both.bus.state(3), 3);
        clockIs("since is 88", both.bus, 4, 3, 4);
    }

    // "Otherwise a frame with startup 1 and an even cycle is the first one, since is 0"
    private static void theSameIdReplacesTheFirstOne() {
        Signals s = Signals.withListener(0, 0, 330);
        s.sendStartup(0, 2, 46, 1, 2);
        s.sendStartup(0, 2, 50, 1, 2);
        s.sendStartup(0, 3, 46, 1, 3);
        CHECKS.due("the same one again", s.bus.state(3), 3);
        clockIs("since is 76, not 80", s.bus, 4, 3, -4);
        Signals late = Signals.withListener(0, 0, 330);
        late.sendStartup(0, 2, 46, 1, 2);
        late.sendStartup(0, 3, 46, 1, 4);
        CHECKS.due("4 is not behind 2", late.bus.state(3), 1);
        late.sendStartup(0, 4, 46, 1, 5);
        CHECKS.due("5 is behind 4", late.bus.state(3), 3);
        Signals other = Signals.withListener(0, 0, 330);
        other.sendStartup(0, 2, 46, 1, 2);
        other.sendStartup(0, 3, 58, 2, 8);
        other.sendStartup(0, 4, 58, 2, 9);
        CHECKS.due("another id, since above 90", other.bus.state(3), 3);
        clockIs("by the other id", other.bus, 14, 9, 0);
    }

    // "another frame with startup 1: there is no first one"
    private static void theSameIdTooEarlyEndsTheFirstOne() {
        Signals s = Signals.withListener(0, 0, 330);
        s.sendStartup(0, 2, 42, 1, 2);
        s.sendStartup(0, 2, 58, 1, 3);
        CHECKS.due("since is 16", s.bus.state(3), 1);
        s.sendStartup(0, 3, 42, 1, 3);
        CHECKS.due("there is no first one any more", s.bus.state(3), 1);
        Signals free = Signals.withListener(0, 0, 330);
        free.sendStartup(0, 2, 42, 1, 2);
        free.sendStartup(0, 2, 46, 1, 3);
        free.sendStartup(0, 2, 50, 2, 2);
        free.sendStartup(0, 3, 50, 2, 3);
        CHECKS.due("so another id can be the first one", free.bus.state(3), 3);
    }

    // only "a frame with startup 1" joins, is a first one, or ends one
    private static void framesWithoutStartupAreNothing() {
        Signals first = Signals.withListener(0, 0, 330);
        first.send(0, 2, 46, PlainModel.word(1, 2, 0, 0));
        first.sendStartup(0, 3, 46, 1, 3);
        CHECKS.due("it is no first one", first.bus.state(3), 1);
        Signals second = Signals.withListener(0, 0, 330);
        second.sendStartup(0, 2, 46, 1, 2);
        second.send(0, 3, 46, PlainModel.word(1, 3, 0, 0));
        CHECKS.due("it does not join", second.bus.state(3), 1);
        second.sendStartup(0, 3, 50, 1, 3);
        CHECKS.due("it leaves the first one", second.bus.state(3), 3);
        clockIs("since is 84", second.bus, 4, 3, 4);
        Signals between = Signals.withListener(0, 0, 330);
        between.sendStartup(0, 2, 46, 1, 2);
        between.send(0, 2, 50, PlainModel.word(1, 2, 0, 0));
        between.send(0, 2, 54, PlainModel.word(5, 2, 0, 0));
        between.send(0, 2, 58, PlainModel.word(1, 3, 0, 0));
        between.sendStartup(0, 3, 46, 1, 3);
        CHECKS.due("since goes on", between.bus.state(3), 3);
        clockIs("since is 80", between.bus, 4, 3, 0);
    }

    // "A word of which a check is not right is NOISE, and so is a frame whose id is not 1 .. 9, or that has startup 1
    // and an id above 2."
    private static void noiseIsNoFirstOneAndNoSecond() {
        for (int id = 0; id < 32; id++) {
            Signals s = Signals.withListener(0, 0, 330);
            s.sendStartup(0, 2, 46, id, 2);
            s.sendStartup(0, 3, 46, id, 3);
            CHECKS.due("id " + id + " with startup", s.bus.state(3), id == 1 || id == 2 ? 3 : 1);
        }
        long first = PlainModel.word(1, 2, 1, 0);
        long second = PlainModel.word(1, 3, 1, 0);
        long[][] rows = {{first ^ 1, second}, {first, second ^ 1}, {first ^ 1L << 23, second},
            {first, second ^ 1L << 23}, {first ^ 1L << 24, second}, {first, second ^ 1L << 33},
            {PlainModel.wordWithWrongHead(1, 2, 1, 0, 1), second},
            {first, PlainModel.wordWithWrongHead(1, 3, 1, 0, 1)},
            {PlainModel.wordWithWrongHead(1, 2, 1, 0, 0x400), second},
            {first, PlainModel.wordWithWrongHead(1, 3, 1, 0, 0x400)}};
        for (long[] row : rows) {
            Signals s = Signals.withListener(0, 0, 330);
            s.send(0, 2, 46, row[0]);
            s.send(0, 3, 46, row[1]);
            CHECKS.due("words " + row[0] + " and " + row[1], s.bus.state(3), 1);
        }
    }

    // "noise does nothing else"
    private static void noiseLeavesTheFirstOne() {
        long[] noises = {PlainModel.word(3, 2, 1, 0), PlainModel.word(0, 2, 1, 0), PlainModel.word(10, 2, 1, 0),
            PlainModel.word(1, 2, 1, 0) ^ 1, PlainModel.word(1, 3, 1, 0) ^ 1,
            PlainModel.wordWithWrongHead(1, 2, 1, 0, 1), PlainModel.wordWithWrongHead(1, 3, 1, 0, 1)};
        for (long noise : noises) {
            Signals s = Signals.withListener(0, 0, 330);
            s.sendStartup(0, 2, 46, 1, 2);
            s.send(0, 2, 54, noise);
            s.sendStartup(0, 3, 46, 1, 3);
            CHECKS.due("state behind the noise " + noise, s.bus.state(3), 3);
            clockIs("since is 80", s.bus, 4, 3, 0);
        }
    }

    // "A node that begins to LISTEN (also when it is switched on) has quiet and since 0, no first one"
    private static void switchingOnForgetsTheFirstOne() {
        Signals s = Signals.withListener(0, 0, 330);
        s.sendStartup(0, 2, 46, 1, 2);
        s.bus.off(3);
        s.bus.power(3);
        s.sendStartup(0, 3, 46, 1, 3);
        CHECKS.due("no first one", s.bus.state(3), 1);
        Bench b = new Bench(0);
        b.bus.power(0);
        b.to(159);
        b.bus.off(0);
        b.bus.power(0);
        b.to(159 + 159);
        CHECKS.due("quiet 159", b.bus.state(0), 1);
        b.to(159 + 160);
        CHECKS.due("quiet 160", b.bus.state(0), 2);
    }

    /** Node 3 joins in tick 466, is at 60 of its cycle 5 in tick 682, and listens there, as it has heard nobody. */
    private static Signals listensAgain() {
        Signals s = Signals.withListener(0, 0, 330);
        s.sendStartup(0, 2, 46, 1, 2);
        s.sendStartup(0, 3, 46, 1, 3);
        // A deviation of 2 in the odd cycle alone: it gives an offset of 1, but nobody was heard in both cycles.
        s.send(0, 5, 58, PlainModel.word(2, 5, 0, 0));
        CHECKS.due("the deviation", s.bus.deviation(3, 1, true), 2);
        s.to(681);
        clockIs("just before", s.bus, 59, 5, 0, 0, 0, 9);
        CHECKS.due("just before", s.bus.state(3), 3);
        s.to(682);
        CHECKS.due("it listens", s.bus.state(3), 1);
        CHECKS.none("no deviations", () -> s.bus.deviation(3, 1, true));
        return s;
    }

    // "A node that begins to LISTEN has quiet and since 0, no first one, and no deviations."
    private static void listeningAgainForgetsTheFirstOne() {
        Signals s = listensAgain();
        // Slot 1 of cycle 7 is in tick 754, 72 behind.
        s.sendStartup(1, 7, 14, 1, 3);
        CHECKS.due("no first one", s.bus.state(3), 1);
    }

    // "offset 0, no deviations, count -1, number 0, and it holds nothing"
    private static void joiningAgainBeginsAnew() {
        Signals s = listensAgain();
        s.sendStartup(0, 8, 42, 2, 8);
        s.sendStartup(0, 9, 46, 2, 9);
        CHECKS.due("it joins again", s.bus.state(3), 3);
        clockIs("it joins again", s.bus, 14, 9, 4, 0, -1, 0);
    }

    // "is leading, with m 0, cycle 0, rate and offset 0, no deviations, count and number 0"
    private static void leadingAgainBeginsAnew() {
        Bench b = Bench.duo(0x1E00);
        b.to(640);
        int[] before = {1, 6, -3, 1, 1, 9};
        for (int what = 0; what < 6; what++) {
            CHECKS.due("clock(1, " + what + ") of a joiner", b.bus.clock(1, what), before[what]);
        }
        b.bus.off(0);
        // It has passed 461 microticks then, and listens with 597, at 60 of cycle 7, its cycles being of 77.
        b.to(779);
        CHECKS.due("it joins", b.bus.state(1), 3);
        b.to(780);
        CHECKS.due("it listens", b.bus.state(1), 1);
        // 777 microticks are passed in 802 ticks.
        b.to(164 + 801);
        CHECKS.due("it listens", b.bus.state(1), 1);
        b.to(164 + 802);
        CHECKS.due("it leads", b.bus.state(1), 2);
        for (int what = 0; what < 6; what++) {
            CHECKS.due("clock(1, " + what + ") of a leader", b.bus.clock(1, what), 0);
        }
    }
}
