import java.util.Random;

/** All promises: the program and the plain model answer the same to many runs of calls (always the same ones). */
public final class RandomRunsTest {
    private static final int OBJECTS = 4000;
    private static final int MOST_CALLS = 512;
    private static final int CALLS_OF_A_LOOK = 4 * (1 + 6 + 8 + 9) + 2;
    private static final Checks CHECKS = new Checks("RandomRunsTest");

    private final Random random;
    private final SlotBus bus;
    private final PlainModel model;
    private final String name;
    private int calls = 0;
    private int forgedFrom = 0;
    private int forgedTo = 0;

    private RandomRunsTest(int seed) {
        random = new Random(seed);
        int slow = switch (random.nextInt(4)) {
            case 0 -> 0;
            case 1 -> random.nextInt() & 0x07070707;
            case 2 -> random.nextInt(31) * 0x01010101;
            default -> random.nextInt();
        };
        bus = new SlotBus(slow);
        model = new PlainModel(slow);
        name = "object " + seed + " (slow " + slow + "), call ";
    }

    public static void main(String[] args) {
        for (int seed = 0; seed < OBJECTS; seed++) {
            new RandomRunsTest(seed).play();
        }
        CHECKS.end();
    }

    private void play() {
        int style = random.nextInt(4);
        forgedFrom = 1 + random.nextInt(2);
        forgedTo = 1 + random.nextInt(4);
        for (int node = 0; node < 4; node++) {
            if (random.nextInt(4) > 0) {
                power(node);
                run(1 + random.nextInt(random.nextBoolean() ? 30 : 200));
            }
        }
        int looks = 2;
        while (calls + CALLS_OF_A_LOOK * looks < MOST_CALLS - 10) {
            step(style);
            if (looks == 2 && calls > 100) {
                look();
                looks--;
            }
        }
        look();
    }

    private void step(int style) {
        int kind = random.nextInt(100);
        if (kind < 45) {
            run(ticks());
        } else if (kind < 60) {
            post();
        } else if (kind < 65) {
            setValue();
        } else if (kind < (style == 0 ? 66 : 85)) {
            if (style == 3) {
                forgeSteadily();
            } else {
                forge();
            }
        } else if (kind < 87) {
            long bits = random.nextBoolean() ? 1L << random.nextInt(64) : random.nextLong() >>> random.nextInt(30);
            disturb(bits);
        } else if (kind < 89) {
            lose(random.nextInt(random.nextInt(20) == 0 ? 1200 : 4) - random.nextInt(2));
        } else if (kind < 92) {
            power(random.nextInt(6) - 1);
        } else if (kind < 93) {
            off(random.nextInt(6) - 1);
        } else {
            ask();
        }
    }

    private int ticks() {
        return switch (random.nextInt(6)) {
            case 0 -> random.nextInt(10);
            case 1 -> 1 + random.nextInt(40);
            case 2 -> 80;
            case 3 -> 160;
            case 4 -> 1 + random.nextInt(202);
            default -> 200;
        };
    }

    private void same(String call, String got, String want) {
        CHECKS.dueText(name + calls + ": " + call, got, want);
        calls++;
    }

    private void power(int node) {
        same("power(" + node + ")", Checks.outcomeOf(() -> bus.power(node)), model.power(node));
    }

    private void off(int node) {
        same("off(" + node + ")", Checks.outcome(() -> bus.off(node)), model.off(node));
    }

    private void run(int n) {
        same("run(" + n + ")", Checks.outcome(() -> bus.run(n)), model.run(n));
    }

    private void lose(int n) {
        same("lose(" + n + ")", Checks.outcome(() -> bus.lose(n)), model.lose(n));
    }

    private void disturb(long bits) {
        same("disturb(" + bits + ")", Checks.outcomeOf(() -> bus.disturb(bits)), model.disturb(bits));
    }

    private void setValue() {
        int node = random.nextInt(5);
        int value = random.nextInt(1030) - 3;
        same("value(" + node + ", " + value + ")", Checks.outcomeOf(() -> bus.value(node, value)),
            model.value(node, value));
    }

    private void post() {
        int node = random.nextInt(4);
        int id = 4 + random.nextInt(random.nextInt(5) == 0 ? 7 : 4);
        int value = random.nextInt(1026) - 1;
        int every = 1 << random.nextInt(3);
        int base = random.nextInt(every + 1) - random.nextInt(20) / 19;
        same("post(" + node + ", " + id + ", " + value + ", " + base + ", " + every + ")",
            Checks.outcomeOf(() -> bus.post(node, id, value, base, every)),
            model.post(node, id, value, base, every));
    }

    /** How many ticks on the next word is on the bus, and which; {0, 0} when it is far off. */
    private long[] nextWord() {
        PlainModel ahead = model.copy();
        for (int n = 1; n <= 200; n++) {
            ahead.tick();
            if (ahead.lastSender >= 0) {
                return new long[] {n, ahead.last};
            }
        }
        return new long[] {0, 0};
    }

    /** Runs up to a word and makes it another right word, mostly one that is near to fit. */
    private void forge() {
        long[] next = nextWord();
        if (next[0] == 0) {
            return;
        }
        String frame = model.decode(next[1]);
        int f = frame.startsWith("I") ? random.nextInt(1 << 22) : Integer.parseInt(frame);
        int id = f % 32;
        int cycle = f / 32 % 64;
        int startup = f / 2048 % 2;
        switch (random.nextInt(6)) {
            case 0 -> id = random.nextInt(11);
            case 1 -> cycle = (cycle + 63 + random.nextInt(3)) % 64;
            case 2 -> startup = 1 - startup;
            case 3 -> {
                id = 1 + random.nextInt(2);
                startup = 1;
                cycle = (cycle + random.nextInt(2)) % 64;
            }
            case 4 -> cycle = model.cycle[random.nextInt(4)];
            default -> {
                id = 1 + random.nextInt(4);
                startup = id > 2 ? 0 : random.nextInt(2);
                cycle = model.cycle[random.nextInt(4)];
            }
        }
        disturb(next[1] ^ PlainModel.word(id, cycle, startup, random.nextInt(1024)));
        run((int) next[0]);
    }

    /** For some words on end the frames of one node are made another's. */
    private void forgeSteadily() {
        for (int k = 0; k < 4; k++) {
            long[] next = nextWord();
            if (next[0] == 0) {
                return;
            }
            String frame = model.decode(next[1]);
            if (!frame.startsWith("I")) {
                int f = Integer.parseInt(frame);
                if (f % 32 == forgedFrom) {
                    int startup = forgedTo > 2 ? 0 : f / 2048 % 2;
                    disturb(next[1] ^ PlainModel.word(forgedTo, f / 32 % 64, startup, f / 4096));
                }
            }
            run((int) next[0]);
        }
    }

    private void ask() {
        int node = random.nextInt(6) - 1;
        int other = random.nextInt(12) - 1;
        boolean odd = random.nextBoolean();
        switch (random.nextInt(8)) {
            case 0 -> askState(node);
            case 1 -> askClock(node, other);
            case 2 -> askDeviation(node, other, odd);
            case 3 -> askGot(node, other);
            case 4 -> askFrames();
            case 5 -> askLast();
            case 6 -> askWord();
            default -> askFrame();
        }
    }

    private void askState(int node) {
        same("state(" + node + ")", Checks.outcome(() -> bus.state(node)), model.state(node));
    }

    private void askClock(int node, int what) {
        same("clock(" + node + ", " + what + ")", Checks.outcome(() -> bus.clock(node, what)),
            model.clock(node, what));
    }

    private void askDeviation(int node, int sender, boolean odd) {
        same("deviation(" + node + ", " + sender + ", " + odd + ")",
            Checks.outcome(() -> bus.deviation(node, sender, odd)), model.deviation(node, sender, odd));
    }

    private void askGot(int node, int id) {
        same("got(" + node + ", " + id + ")", Checks.outcome(() -> bus.got(node, id)), model.got(node, id));
    }

    private void askFrames() {
        same("frames()", Checks.outcome(() -> bus.frames()), model.frames());
    }

    private void askLast() {
        same("last()", Checks.outcome(() -> bus.last()), model.last());
    }

    private void askWord() {
        int id = random.nextInt(34) - 1;
        int cycle = random.nextInt(66) - 1;
        int value = random.nextInt(1030) - 3;
        boolean startup = random.nextBoolean();
        same("encode(" + id + ", " + cycle + ", " + startup + ", " + value + ")",
            Checks.outcome(() -> bus.encode(id, cycle, startup, value)), model.encode(id, cycle, startup, value));
    }

    private void askFrame() {
        long word = PlainModel.word(random.nextInt(32), random.nextInt(64), random.nextInt(2), random.nextInt(1024))
            ^ (random.nextBoolean() ? 0 : 1L << random.nextInt(64));
        same("decode(" + word + ")", Checks.outcome(() -> bus.decode(word)), model.decode(word));
    }

    /** Asks for all that can be seen. */
    private void look() {
        for (int node = 0; node < 4; node++) {
            askState(node);
            for (int what = 0; what < 6; what++) {
                askClock(node, what);
            }
            for (int sender = 0; sender < 4; sender++) {
                askDeviation(node, sender, false);
                askDeviation(node, sender, true);
            }
            for (int id = 1; id < 10; id++) {
                askGot(node, id);
            }
        }
        askFrames();
        askLast();
    }
}
