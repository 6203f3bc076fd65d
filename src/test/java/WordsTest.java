/** Promises 15 (encode) and 16 (decode). */
public final class WordsTest {
    private static final Checks CHECKS = new Checks("WordsTest");
    private static final SlotBus BUS = new SlotBus(0);

    public static void main(String[] args) {
        knownWords();
        everyFrameComesBack();
        everyFlippedBitIsSeen();
        wrongArguments();
        CHECKS.end();
    }

    private static void knownWords() {
        CHECKS.due("encode(1, 0, true, 0)", BUS.encode(1, 0, true, 0), 4557252371774013L);
        CHECKS.due("encode(31, 63, false, 1023)", BUS.encode(31, 63, false, 1023), 144047791436605659L);
        CHECKS.due("encode(0, 0, false, 0)", BUS.encode(0, 0, false, 0), PlainModel.word(0, 0, 0, 0));
        CHECKS.due("decode of a word", BUS.decode(41755285529326632L), 2101801);
        CHECKS.due("the id is on top", BUS.encode(31, 0, false, 0) >>> 52, 31);
        CHECKS.due("then the cycle", BUS.encode(0, 63, false, 0) >>> 46, 63);
        CHECKS.due("then startup", BUS.encode(0, 0, true, 0) >>> 45, 1);
        CHECKS.due("then the check, and the value", BUS.encode(0, 0, false, 1023) >>> 24 & 1023, 1023);
    }

    private static void everyFrameComesBack() {
        for (int id = 0; id < 32; id++) {
            for (int cycle = 0; cycle < 64; cycle++) {
                int value = (id * 33 + cycle * 17) % 1024;
                for (int startup = 0; startup < 2; startup++) {
                    SlotBus bus = new SlotBus(0);
                    long word = bus.encode(id, cycle, startup == 1, value);
                    CHECKS.due("encode", word, PlainModel.word(id, cycle, startup, value));
                    CHECKS.due("decode", bus.decode(word), id + 32 * cycle + 2048 * startup + 4096 * value);
                }
            }
        }
    }

    private static void everyFlippedBitIsSeen() {
        SlotBus bus = new SlotBus(0);
        long word = bus.encode(9, 40, false, 513);
        for (int bit = 0; bit < 64; bit++) {
            long flipped = word ^ 1L << bit;
            // The value stands between the two checks: the head's check does not see it.
            if (bit < 34) {
                CHECKS.state("decode with bit " + bit + " flipped", () -> bus.decode(flipped));
            } else {
                CHECKS.argument("decode with bit " + bit + " flipped", () -> bus.decode(flipped));
            }
        }
        CHECKS.argument("both checks wrong", () -> bus.decode(word ^ 1L ^ 1L << 40));
        CHECKS.argument("a right word with a bit above 56", () -> bus.decode(word | 1L << 57));
    }

    private static void wrongArguments() {
        SlotBus bus = new SlotBus(0);
        CHECKS.argument("id -1", () -> bus.encode(-1, 0, true, 0));
        CHECKS.argument("id 32", () -> bus.encode(32, 0, true, 0));
        CHECKS.argument("cycle -1", () -> bus.encode(1, -1, true, 0));
        CHECKS.argument("cycle 64", () -> bus.encode(1, 64, true, 0));
        CHECKS.argument("value -1", () -> bus.encode(1, 0, true, -1));
        CHECKS.argument("value 1024", () -> bus.encode(1, 0, true, 1024));
        CHECKS.argument("decode(0)", () -> bus.decode(0));
        CHECKS.argument("decode(-1)", () -> bus.decode(-1));
        CHECKS.argument("decode(least)", () -> bus.decode(Long.MIN_VALUE));
    }
}
