import java.util.ArrayList;
import java.util.List;
import java.util.function.Supplier;

/**
 * For every call the last numbers that are taken, the first that are refused, and by which exception; and "A call that
 * throws changes nothing": a bus to which a refused call was made goes on like its twin to which none was made.
 */
public final class RefusedCallsTest {
    private static final Checks CHECKS = new Checks("RefusedCallsTest");
    private static final String ARGUMENT = "IllegalArgumentException";
    private static final String STATE = "IllegalStateException";
    private static final String NONE = "NoSuchElementException";
    private static final int[] NO_NODES = {-1, 4, Integer.MIN_VALUE, Integer.MAX_VALUE};

    /** A call on a bus; a call that answers nothing answers 0 here. */
    private interface Call {
        long on(SlotBus bus);
    }

    private record Refused(String name, String exception, Call call) {
    }

    private record Situation(String name, Supplier<Bench> make, List<Refused> refused) {
        void refuses(String call, String exception, Call made) {
            refused.add(new Refused(call, exception, made));
        }
    }

    public static void main(String[] args) {
        takenAndRefused();
        messagesTakenAndRefused();
        wordsTakenAndRefused();
        argumentsComeFirst();
        for (Situation situation : situations()) {
            for (Refused refused : situation.refused) {
                changesNothing(situation, refused);
            }
            for (Refused refused : refusedAlways()) {
                changesNothing(situation, refused);
            }
            questionsChangeNothing(situation);
        }
        CHECKS.end();
    }

    private static long power(SlotBus bus, int node) {
        bus.power(node);
        return 0;
    }

    private static long value(SlotBus bus, int node, int value) {
        bus.value(node, value);
        return 0;
    }

    private static long post(SlotBus bus, int node, int id, int value, int base, int every) {
        bus.post(node, id, value, base, every);
        return 0;
    }

    private static long disturb(SlotBus bus, long bits) {
        bus.disturb(bits);
        return 0;
    }

    private static void is(String call, SlotBus bus, String want, Call made) {
        CHECKS.dueText(call, Checks.outcome(() -> made.on(bus)), want);
    }

    private static Bench halted() {
        Bench b = Bench.trio();
        b.to(960);
        b.bus.off(0);
        b.bus.off(1);
        b.to(1430);
        return b;
    }

    private static Bench passive() {
        Bench b = Bench.trio();
        b.to(960);
        b.bus.off(0);
        b.bus.off(1);
        b.to(1110);
        return b;
    }

    // "NODES 0 .. 3"; "IllegalArgumentException: no such node"
    private static void takenAndRefused() {
        for (int node = -1; node <= 4; node++) {
            int n = node;
            boolean there = node >= 0 && node <= 3;
            SlotBus bus = new SlotBus(0);
            is("state(" + n + ")", bus, there ? "0" : ARGUMENT, b -> b.state(n));
            is("off(" + n + ") of an off node", bus, there ? "0" : ARGUMENT, b -> b.off(n));
            is("value(" + n + ", 0) of an off node", bus, there ? STATE : ARGUMENT, b -> value(b, n, 0));
            is("post(" + n + ", ..) to an off node", bus, there ? STATE : ARGUMENT, b -> post(b, n, 5, 0, 0, 1));
            is("clock(" + n + ", 0) of an off node", bus, there ? STATE : ARGUMENT, b -> b.clock(n, 0));
            is("deviation(" + n + ", 1, ..)", bus, there ? NONE : ARGUMENT, b -> b.deviation(n, 1, false));
            is("deviation(1, " + n + ", ..)", bus, there ? NONE : ARGUMENT, b -> b.deviation(1, n, true));
            is("got(" + n + ", 1)", bus, there ? NONE : ARGUMENT, b -> b.got(n, 1));
            is("power(" + n + ")", bus, there ? "0" : ARGUMENT, b -> power(b, n));
            is("power(" + n + ") again", bus, there ? STATE : ARGUMENT, b -> power(b, n));
            is("value(" + n + ", 0)", bus, there ? "0" : ARGUMENT, b -> value(b, n, 0));
            is("post(" + n + ", ..)", bus, there ? "0" : ARGUMENT, b -> post(b, n, 5, 0, 0, 1));
            is("post(" + n + ", ..) again", bus, there ? STATE : ARGUMENT, b -> post(b, n, 5, 0, 0, 1));
            is("clock(" + n + ", 0) of a listening node", bus, there ? STATE : ARGUMENT, b -> b.clock(n, 0));
            is("off(" + n + ") of a listening node", bus, there ? "1" : ARGUMENT, b -> b.off(n));
        }
        numbersTakenAndRefused();
        statesTakenAndRefused();
    }

    // "n is not 1 .. 200"; "value not 0 .. 1023"; "no such node or id"; "bits above bit 56";
    // "n is below 0, or it would be more than 1000"
    private static void numbersTakenAndRefused() {
        SlotBus bus = new SlotBus(0);
        for (int n : new int[] {Integer.MIN_VALUE, -1, 0, 1, 2, 199, 200, 201, 202, Integer.MAX_VALUE}) {
            is("run(" + n + ")", bus, n >= 1 && n <= 200 ? "0" : ARGUMENT, b -> b.run(n));
        }
        bus.power(2);
        for (int v : new int[] {Integer.MIN_VALUE, -1, 0, 1, 1022, 1023, 1024, Integer.MAX_VALUE}) {
            is("value(2, " + v + ")", bus, v >= 0 && v <= 1023 ? "0" : ARGUMENT, b -> value(b, 2, v));
        }
        for (int id = -1; id <= 11; id++) {
            int asked = id;
            is("got(2, " + id + ")", bus, id >= 1 && id <= 9 ? NONE : ARGUMENT, b -> b.got(2, asked));
        }
        for (int bit = 0; bit < 64; bit++) {
            long bits = 1L << bit;
            is("disturb, bit " + bit, bus, bit <= 56 ? "0" : ARGUMENT, b -> disturb(b, bits));
        }
        is("disturb, all bits", bus, "0", b -> disturb(b, (1L << 57) - 1));
        is("disturb, none", bus, "0", b -> disturb(b, 0));
        is("disturb, one more", bus, ARGUMENT, b -> disturb(b, 1L << 57));
        is("disturb, all of a long", bus, ARGUMENT, b -> disturb(b, -1));
        for (int before : new int[] {0, 1, 500, 999, 1000}) {
            SlotBus fresh = new SlotBus(0);
            is("lose(" + before + ")", fresh, Integer.toString(before), b -> b.lose(before));
            is("one too many", fresh, ARGUMENT, b -> b.lose(1001 - before));
            is("very many", fresh, ARGUMENT, b -> b.lose(Integer.MAX_VALUE));
            is("one below 0", fresh, ARGUMENT, b -> b.lose(-1));
            is("far below 0", fresh, ARGUMENT, b -> b.lose(Integer.MIN_VALUE));
            is("none more", fresh, Integer.toString(before), b -> b.lose(0));
            is("all that are left", fresh, "1000", b -> b.lose(1000 - before));
            is("full", fresh, ARGUMENT, b -> b.lose(1));
        }
    }

    // "it is neither off nor halted"; "the node is off"; "(Also of a halted one.)"; "it is off, listening or halted"
    private static void statesTakenAndRefused() {
        Bench b = Bench.trio();
        b.to(300);
        is("power of a listening node", b.bus, STATE, x -> power(x, 1));
        is("power of a leading node", b.bus, STATE, x -> power(x, 0));
        for (int what = -2; what <= 7; what++) {
            int asked = what;
            boolean there = what >= 0 && what <= 5;
            CHECKS.due("clock(0, " + what + ") is refused",
                Checks.outcome(() -> b.bus.clock(0, asked)).equals(ARGUMENT) != there);
            is("clock(3, " + what + ") of an off node", b.bus, there ? STATE : ARGUMENT, x -> x.clock(3, asked));
            is("clock(1, " + what + ") of a listening node", b.bus, there ? STATE : ARGUMENT, x -> x.clock(1, asked));
        }
        b.to(600);
        is("power of a joining node", b.bus, STATE, x -> power(x, 1));
        is("value of a joining node", b.bus, "0", x -> value(x, 1, 1));
        b.to(1000);
        is("power of an active node", b.bus, STATE, x -> power(x, 1));
        Bench p = passive();
        is("power of a passive node", p.bus, STATE, x -> power(x, 2));
        is("value of a passive node", p.bus, "0", x -> value(x, 2, 1));
        is("post to a passive node", p.bus, "0", x -> post(x, 2, 5, 1, 0, 1));
        Bench h = halted();
        is("value of a halted node", h.bus, "0", x -> value(x, 2, 1));
        is("post to a halted node", h.bus, "0", x -> post(x, 2, 5, 1, 0, 1));
        is("post to it again", h.bus, STATE, x -> post(x, 2, 5, 1, 0, 1));
        is("clock of a halted node", h.bus, STATE, x -> x.clock(2, 0));
        is("clock of a halted node, and of nothing", h.bus, ARGUMENT, x -> x.clock(2, 6));
        is("power of a halted node", h.bus, "0", x -> power(x, 2));
        is("power of it again", h.bus, STATE, x -> power(x, 2));
    }

    // "id not 5 .. 9, value not 0 .. 1023, every not 1, 2 or 4, or base not 0 .. every - 1"
    private static void messagesTakenAndRefused() {
        for (int id = -1; id <= 32; id++) {
            messageIs(id >= 5 && id <= 9, id, 0, 0, 1);
        }
        for (int value : new int[] {Integer.MIN_VALUE, -1, 0, 1023, 1024, Integer.MAX_VALUE}) {
            messageIs(value >= 0 && value <= 1023, 5, value, 0, 1);
        }
        for (int every = -4; every <= 9; every++) {
            for (int base = -2; base <= 9; base++) {
                boolean everyIsRight = every == 1 || every == 2 || every == 4;
                messageIs(everyIsRight && base >= 0 && base < every, 9, 1023, base, every);
            }
        }
        messageIs(false, 5, 0, 0, Integer.MIN_VALUE);
        messageIs(false, 5, 0, 0, Integer.MAX_VALUE);
        messageIs(false, 5, 0, Integer.MIN_VALUE, 4);
        messageIs(false, 5, 0, Integer.MAX_VALUE, 4);
    }

    private static void messageIs(boolean taken, int id, int value, int base, int every) {
        SlotBus bus = new SlotBus(0);
        bus.power(3);
        String call = "post(3, " + id + ", " + value + ", " + base + ", " + every + ")";
        is(call, bus, taken ? "0" : ARGUMENT, b -> post(b, 3, id, value, base, every));
        is("post behind " + call, bus, taken ? STATE : "0", b -> post(b, 3, 5, 0, 0, 1));
    }

    // "id is not 0 .. 31, cycle not 0 .. 63, or value not 0 .. 1023"; "bits above bit 56"
    private static void wordsTakenAndRefused() {
        int[] numbers = {Integer.MIN_VALUE, -1, 0, 1, 31, 32, 63, 64, 1023, 1024, Integer.MAX_VALUE};
        for (int id : numbers) {
            for (int cycle : numbers) {
                for (int value : numbers) {
                    boolean taken = id >= 0 && id <= 31 && cycle >= 0 && cycle <= 63 && value >= 0 && value <= 1023;
                    for (int startup = 0; startup < 2; startup++) {
                        boolean said = startup == 1;
                        String want = taken ? Long.toString(PlainModel.word(id, cycle, startup, value)) : ARGUMENT;
                        is("encode(" + id + ", " + cycle + ", " + said + ", " + value + ")", new SlotBus(0), want,
                            b -> b.encode(id, cycle, said, value));
                    }
                }
            }
        }
        SlotBus bus = new SlotBus(0);
        long least = PlainModel.word(0, 0, 0, 0);
        long most = PlainModel.word(31, 63, 1, 1023);
        is("decode of nothing but 0", bus, "0", b -> b.decode(least));
        is("decode of the greatest", bus, "4194303", b -> b.decode(most));
        for (int bit = 57; bit < 64; bit++) {
            long above = 1L << bit;
            is("decode, bit " + bit, bus, ARGUMENT, b -> b.decode(least | above));
            is("decode, bit " + bit, bus, ARGUMENT, b -> b.decode(most | above));
        }
        for (int bit = 0; bit < 11; bit++) {
            long wrong = PlainModel.wordWithWrongHead(9, 40, 0, 513, 1 << bit);
            is("decode, the check of 11 bits alone is wrong", bus, ARGUMENT, b -> b.decode(wrong));
            is("decode, both checks are wrong", bus, ARGUMENT, b -> b.decode(wrong ^ 1));
        }
        for (int bit = 0; bit < 24; bit++) {
            long wrong = PlainModel.word(9, 40, 0, 513) ^ 1L << bit;
            is("decode, the check of 24 bits alone is wrong", bus, STATE, b -> b.decode(wrong));
        }
    }

    // the document names IllegalArgumentException first; where both would be due, it comes
    private static void argumentsComeFirst() {
        SlotBus bus = new SlotBus(0);
        is("value of an off node", bus, ARGUMENT, b -> value(b, 0, 1024));
        is("post to an off node", bus, ARGUMENT, b -> post(b, 0, 4, 0, 0, 1));
        is("clock of an off node", bus, ARGUMENT, b -> b.clock(0, 6));
        bus.power(0);
        bus.post(0, 5, 0, 0, 1);
        is("post of a second message", bus, ARGUMENT, b -> post(b, 0, 5, 0, 1, 1));
        is("clock of a listening node", bus, ARGUMENT, b -> b.clock(0, -1));
    }

    private static List<Refused> refusedAlways() {
        Situation all = new Situation("", null, new ArrayList<>());
        for (int node : NO_NODES) {
            all.refuses("power(" + node + ")", ARGUMENT, b -> power(b, node));
            all.refuses("off(" + node + ")", ARGUMENT, b -> b.off(node));
            all.refuses("value(" + node + ", 9)", ARGUMENT, b -> value(b, node, 9));
            all.refuses("post(" + node + ", 5, 9, 0, 1)", ARGUMENT, b -> post(b, node, 5, 9, 0, 1));
            all.refuses("state(" + node + ")", ARGUMENT, b -> b.state(node));
            all.refuses("clock(" + node + ", 0)", ARGUMENT, b -> b.clock(node, 0));
            all.refuses("deviation(" + node + ", 0, true)", ARGUMENT, b -> b.deviation(node, 0, true));
            all.refuses("deviation(0, " + node + ", true)", ARGUMENT, b -> b.deviation(0, node, true));
            all.refuses("got(" + node + ", 1)", ARGUMENT, b -> b.got(node, 1));
        }
        for (int n : new int[] {0, -1, 201, Integer.MIN_VALUE, Integer.MAX_VALUE}) {
            all.refuses("run(" + n + ")", ARGUMENT, b -> b.run(n));
        }
        for (int n : new int[] {-1, -1000, 1001, Integer.MIN_VALUE, Integer.MAX_VALUE}) {
            all.refuses("lose(" + n + ")", ARGUMENT, b -> b.lose(n));
        }
        for (long bits : new long[] {1L << 57, -1, Long.MIN_VALUE, Long.MAX_VALUE, 1L << 57 | 1}) {
            all.refuses("disturb(" + bits + ")", ARGUMENT, b -> disturb(b, bits));
        }
        for (int i = 0; i < 4; i++) {
            int node = i;
            all.refuses("value(" + i + ", -1)", ARGUMENT, b -> value(b, node, -1));
            all.refuses("value(" + i + ", 1024)", ARGUMENT, b -> value(b, node, 1024));
            all.refuses("post(" + i + ", 4, 9, 0, 1)", ARGUMENT, b -> post(b, node, 4, 9, 0, 1));
            all.refuses("post(" + i + ", 10, 9, 0, 1)", ARGUMENT, b -> post(b, node, 10, 9, 0, 1));
            all.refuses("post(" + i + ", 5, -1, 0, 1)", ARGUMENT, b -> post(b, node, 5, -1, 0, 1));
            all.refuses("post(" + i + ", 5, 1024, 0, 1)", ARGUMENT, b -> post(b, node, 5, 1024, 0, 1));
            all.refuses("post(" + i + ", 5, 9, 0, 3)", ARGUMENT, b -> post(b, node, 5, 9, 0, 3));
            all.refuses("post(" + i + ", 5, 9, 0, 0)", ARGUMENT, b -> post(b, node, 5, 9, 0, 0));
            all.refuses("post(" + i + ", 5, 9, 1, 1)", ARGUMENT, b -> post(b, node, 5, 9, 1, 1));
            all.refuses("post(" + i + ", 5, 9, -1, 4)", ARGUMENT, b -> post(b, node, 5, 9, -1, 4));
            all.refuses("clock(" + i + ", -1)", ARGUMENT, b -> b.clock(node, -1));
            all.refuses("clock(" + i + ", 6)", ARGUMENT, b -> b.clock(node, 6));
            all.refuses("got(" + i + ", 0)", ARGUMENT, b -> b.got(node, 0));
            all.refuses("got(" + i + ", 10)", ARGUMENT, b -> b.got(node, 10));
            all.refuses("deviation(" + i + ", " + i + ", true)", NONE, b -> b.deviation(node, node, true));
        }
        all.refuses("encode(32, 0, true, 0)", ARGUMENT, b -> b.encode(32, 0, true, 0));
        all.refuses("encode(0, 64, true, 0)", ARGUMENT, b -> b.encode(0, 64, true, 0));
        all.refuses("encode(0, 0, true, 1024)", ARGUMENT, b -> b.encode(0, 0, true, 1024));
        all.refuses("decode(0)", ARGUMENT, b -> b.decode(0));
        all.refuses("decode(-1)", ARGUMENT, b -> b.decode(-1));
        all.refuses("decode of a wrong check", STATE, b -> b.decode(PlainModel.word(1, 2, 0, 3) ^ 1));
        return all.refused;
    }

    private static Bench disturbedAndLossy(Bench b) {
        b.bus.disturb(6);
        b.bus.lose(1);
        return b;
    }

    private static List<Situation> situations() {
        List<Situation> all = new ArrayList<>();
        all.add(situation("new", () -> new Bench(0x05030201), "0000"));
        all.add(situation("about to lead", () -> {
            Bench b = new Bench(0x05030200);
            b.bus.power(0);
            b.bus.power(3);
            b.bus.value(0, 8);
            b.to(159);
            return b;
        }, "1001"));
        all.add(situation("a first one was heard", () -> {
            Bench b = new Bench(0);
            b.bus.power(0);
            b.bus.power(3);
            b.to(200);
            return b;
        }, "2001"));
        all.add(situation("joining", () -> {
            Bench b = Bench.trio();
            b.bus.value(1, 3);
            b.bus.post(2, 6, 4, 1, 2);
            b.to(500);
            return disturbedAndLossy(b);
        }, "2330"));
        all.add(situation("about to send", () -> {
            Bench b = Bench.trio();
            b.to(1001);
            b.bus.value(0, 8);
            b.bus.post(0, 5, 4, 0, 1);
            b.bus.post(1, 6, 4, 1, 2);
            b.bus.disturb(6L << 24);
            return b;
        }, "4440"));
        all.add(situation("passive", () -> {
            Bench b = passive();
            b.bus.post(2, 6, 4, 1, 2);
            b.bus.power(1);
            return disturbedAndLossy(b);
        }, "0150"));
        all.add(situation("halted", () -> {
            Bench b = halted();
            b.bus.power(1);
            return disturbedAndLossy(b);
        }, "0160"));
        all.add(situation("four slow ones", () -> {
            Bench b = new Bench(0x1C0E0002);
            for (int node = 0; node < 4; node++) {
                b.bus.power(node);
                b.to(b.now + 90);
            }
            b.to(1425);
            return disturbedAndLossy(b);
        }, "4444"));
        return all;
    }

    /** Adds the calls that are refused because of the states that the four nodes are in. */
    private static Situation situation(String name, Supplier<Bench> make, String states) {
        Situation s = new Situation(name, make, new ArrayList<>());
        SlotBus made = make.get().bus;
        for (int i = 0; i < 4; i++) {
            int node = i;
            char state = states.charAt(i);
            CHECKS.due(name + ": state(" + i + ")", made.state(i), state - '0');
            if (state == '0') {
                s.refuses("value(" + i + ", 9)", STATE, b -> value(b, node, 9));
                s.refuses("post(" + i + ", 5, 9, 0, 1)", STATE, b -> post(b, node, 5, 9, 0, 1));
            }
            if (state == '0' || state == '1' || state == '6') {
                for (int what = 0; what < 6; what++) {
                    int asked = what;
                    s.refuses("clock(" + i + ", " + what + ")", STATE, b -> b.clock(node, asked));
                }
            }
            if (state != '0' && state != '6') {
                s.refuses("power(" + i + ")", STATE, b -> power(b, node));
            }
        }
        if (name.equals("about to send")) {
            s.refuses("post(0, ..) of a second message", STATE, b -> post(b, 0, 7, 9, 0, 1));
            s.refuses("post(1, ..) of a second message", STATE, b -> post(b, 1, 6, 4, 0, 1));
            s.refuses("deviation(0, 3, true)", NONE, b -> b.deviation(0, 3, true));
            s.refuses("got(0, 5)", NONE, b -> b.got(0, 5));
        }
        if (name.equals("passive") || name.equals("joining")) {
            s.refuses("post(2, ..) of a second message", STATE, b -> post(b, 2, 7, 9, 0, 1));
        }
        if (name.equals("new")) {
            s.refuses("last()", NONE, b -> b.last());
            s.refuses("got(0, 1)", NONE, b -> b.got(0, 1));
            s.refuses("deviation(0, 1, false)", NONE, b -> b.deviation(0, 1, false));
        }
        return s;
    }

    private static void changesNothing(Situation situation, Refused refused) {
        String name = situation.name + ", " + refused.name;
        Bench twin = situation.make.get();
        Bench asked = situation.make.get();
        is(name, asked.bus, refused.exception, refused.call);
        CHECKS.dueText(name + ": what is seen at once", seen(asked.bus), seen(twin.bus));
        goOnAlike(name, asked, twin);
    }

    // a question that is answered changes nothing, either
    private static void questionsChangeNothing(Situation situation) {
        Bench twin = situation.make.get();
        Bench asked = situation.make.get();
        seen(asked.bus);
        asked.bus.encode(31, 63, true, 1023);
        asked.bus.decode(PlainModel.word(31, 63, 1, 1023));
        asked.bus.disturb(0);
        goOnAlike(situation.name + ", questions", asked, twin);
    }

    private static void goOnAlike(String name, Bench asked, Bench twin) {
        for (int step = 0; step < 30; step++) {
            int ticks = step < 5 ? 1 : 31;
            int tick = twin.now + ticks;
            CHECKS.due(name + ": frames up to tick " + tick, asked.to(tick), twin.to(tick));
            CHECKS.dueText(name + ": last in tick " + tick, Checks.outcome(() -> asked.bus.last()),
                Checks.outcome(() -> twin.bus.last()));
        }
        CHECKS.dueText(name + ": what is seen at last", seen(asked.bus), seen(twin.bus));
    }

    /** All that can be asked, in some hundred calls. */
    private static String seen(SlotBus bus) {
        StringBuilder text = new StringBuilder();
        for (int i = 0; i < 4; i++) {
            int node = i;
            text.append(" node ").append(bus.state(node));
            for (int k = 0; k < 6; k++) {
                int what = k;
                text.append(' ').append(Checks.outcome(() -> bus.clock(node, what)));
            }
            for (int k = 0; k < 8; k++) {
                int sender = k / 2;
                boolean odd = k % 2 == 1;
                text.append(' ').append(Checks.outcome(() -> bus.deviation(node, sender, odd)));
            }
            for (int k = 1; k <= 9; k++) {
                int id = k;
                text.append(' ').append(Checks.outcome(() -> bus.got(node, id)));
            }
        }
        text.append(" frames ").append(bus.frames()).append(" last ").append(Checks.outcome(() -> bus.last()));
        return text.append(" to be lost ").append(bus.lose(0)).toString();
    }
}
