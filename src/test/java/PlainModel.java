/**
 * The document once more, in the order of its words and in another shape than the program's:
 * answers are texts, an exception is its name. Written only to be compared with.
 */
final class PlainModel {
    static final String ARGUMENT = "IllegalArgumentException";
    static final String STATE = "IllegalStateException";
    static final String NO_ELEMENT = "NoSuchElementException";

    final int[] slow = new int[4];
    final int[] state = new int[4];
    final int[] phase = new int[4];
    final int[] m = new int[4];
    final int[] cycle = new int[4];
    final int[] rate = new int[4];
    final int[] newRate = new int[4];
    final int[] offset = new int[4];
    final int[] count = new int[4];
    final int[] number = new int[4];
    final boolean[] holds = new boolean[4];
    final int[] quiet = new int[4];
    final int[] since = new int[4];
    final int[] firstId = new int[4];
    final int[] firstCycle = new int[4];
    final int[] value = new int[4];
    final int[][] message = new int[4][];
    final Integer[][][] dev = new Integer[4][4][2];
    final Integer[][] got = new Integer[4][10];
    long disturbed = 0;
    int lost = 0;
    int frames = 0;
    Long last = null;
    int lastSender = -1;

    PlainModel(int slowness) {
        for (int i = 0; i < 4; i++) {
            slow[i] = ((slowness >> (8 * i)) & 0xFF) % 31;
        }
    }

    PlainModel copy() {
        PlainModel c = new PlainModel(0);
        int[][] from = {slow, state, phase, m, cycle, rate, newRate, offset, count, number, quiet, since,
            firstId, firstCycle, value};
        int[][] to = {c.slow, c.state, c.phase, c.m, c.cycle, c.rate, c.newRate, c.offset, c.count, c.number,
            c.quiet, c.since, c.firstId, c.firstCycle, c.value};
        for (int k = 0; k < from.length; k++) {
            System.arraycopy(from[k], 0, to[k], 0, 4);
        }
        for (int i = 0; i < 4; i++) {
            c.holds[i] = holds[i];
            c.message[i] = message[i];
            for (int j = 0; j < 4; j++) {
                c.dev[i][j] = dev[i][j].clone();
            }
            c.got[i] = got[i].clone();
        }
        c.disturbed = disturbed;
        c.lost = lost;
        c.frames = frames;
        c.last = last;
        return c;
    }

    // ---- words, by texts of bits

    private static String bits(long number, int length) {
        StringBuilder b = new StringBuilder();
        for (int i = length - 1; i >= 0; i--) {
            b.append((number >> i) & 1);
        }
        return b.toString();
    }

    private static String check(String bits, int size, int begin, int join) {
        String register = bits(begin, size);
        for (char bit : bits.toCharArray()) {
            char out = register.charAt(0);
            register = register.substring(1) + "0";
            if (out != bit) {
                register = bits(Long.parseLong(register, 2) ^ join, size);
            }
        }
        return register;
    }

    static long word(int id, int cycle, int startup, int value) {
        String head = bits(id, 5) + bits(cycle, 6) + startup;
        String all = head + check(head, 11, 0x1A, 0x385) + bits(value, 10);
        return Long.parseLong(all + check(all, 24, 0xFEDCBA, 0x5D6DCB), 2);
    }

    /** A word whose check of 11 bits is wrong in these bits, while that of 24 bits is right. */
    static long wordWithWrongHead(int id, int cycle, int startup, int value, int wrongBits) {
        String head = bits(id, 5) + bits(cycle, 6) + startup;
        long headCheck = Long.parseLong(check(head, 11, 0x1A, 0x385), 2) ^ wrongBits;
        String all = head + bits(headCheck, 11) + bits(value, 10);
        return Long.parseLong(all + check(all, 24, 0xFEDCBA, 0x5D6DCB), 2);
    }

    String decode(long word) {
        if (word < 0 || word >= 1L << 57) {
            return ARGUMENT;
        }
        String b = bits(word, 57);
        if (!check(b.substring(0, 12), 11, 0x1A, 0x385).equals(b.substring(12, 23))) {
            return ARGUMENT;
        }
        if (!check(b.substring(0, 33), 24, 0xFEDCBA, 0x5D6DCB).equals(b.substring(33))) {
            return STATE;
        }
        return "" + (Integer.parseInt(b.substring(0, 5), 2) + 32 * Integer.parseInt(b.substring(5, 11), 2)
            + 2048 * Integer.parseInt(b.substring(11, 12), 2) + 4096 * Integer.parseInt(b.substring(23, 33), 2));
    }

    String encode(int id, int c, boolean startup, int v) {
        if (id < 0 || id > 31 || c < 0 || c > 63 || v < 0 || v > 1023) {
            return ARGUMENT;
        }
        return "" + word(id, c, startup ? 1 : 0, v);
    }

    // ---- the host's calls

    private static boolean noNode(int node) {
        return node < 0 || node > 3;
    }

    String power(int i) {
        if (noNode(i)) {
            return ARGUMENT;
        }
        if (state[i] != 0 && state[i] != 6) {
            return STATE;
        }
        phase[i] = 0;
        got[i] = new Integer[10];
        value[i] = 0;
        message[i] = null;
        listen(i);
        return "0";
    }

    String off(int i) {
        if (noNode(i)) {
            return ARGUMENT;
        }
        int was = state[i];
        state[i] = 0;
        return "" + was;
    }

    String run(int n) {
        if (n < 1 || n > 200) {
            return ARGUMENT;
        }
        int before = frames;
        for (int k = 0; k < n; k++) {
            tick();
        }
        return "" + (frames - before);
    }

    String value(int i, int v) {
        if (noNode(i) || v < 0 || v > 1023) {
            return ARGUMENT;
        }
        if (state[i] == 0) {
            return STATE;
        }
        value[i] = v;
        return "0";
    }

    String post(int i, int id, int v, int base, int every) {
        if (noNode(i) || id < 5 || id > 9 || v < 0 || v > 1023 || every != 1 && every != 2 && every != 4
                || base < 0 || base >= every) {
            return ARGUMENT;
        }
        if (state[i] == 0 || message[i] != null) {
            return STATE;
        }
        message[i] = new int[] {id, v, base, every};
        return "0";
    }

    String disturb(long bits) {
        if (bits < 0 || bits >= 1L << 57) {
            return ARGUMENT;
        }
        disturbed ^= bits;
        return "0";
    }

    String lose(int n) {
        if (n < 0 || (long) lost + n > 1000) {
            return ARGUMENT;
        }
        lost += n;
        return "" + lost;
    }

    String state(int i) {
        return noNode(i) ? ARGUMENT : "" + state[i];
    }

    String clock(int i, int what) {
        if (noNode(i) || what < 0 || what > 5) {
            return ARGUMENT;
        }
        if (state[i] == 0 || state[i] == 1 || state[i] == 6) {
            return STATE;
        }
        return "" + new int[] {m[i], cycle[i], rate[i], offset[i], count[i], number[i]}[what];
    }

    String deviation(int i, int sender, boolean odd) {
        if (noNode(i) || noNode(sender)) {
            return ARGUMENT;
        }
        Integer d = dev[i][sender][odd ? 1 : 0];
        return i == sender || d == null ? NO_ELEMENT : "" + d;
    }

    String got(int i, int id) {
        if (noNode(i) || id < 1 || id > 9) {
            return ARGUMENT;
        }
        return got[i][id] == null ? NO_ELEMENT : "" + got[i][id];
    }

    String frames() {
        return "" + frames;
    }

    String last() {
        return last == null ? NO_ELEMENT : "" + last;
    }

    // ---- time

    void tick() {
        int[] senders = new int[4];
        int sent = 0;
        long word = 0;
        for (int i = 0; i < 4; i++) {
            if (state[i] == 0 || state[i] == 6) {
                continue;
            }
            phase[i] += 1000 - slow[i];
            if (phase[i] < 1000) {
                continue;
            }
            phase[i] -= 1000;
            Long w = microtick(i);
            if (w != null) {
                senders[sent++] = i;
                word = w;
            }
        }
        frames += sent;
        if (sent != 1) {
            return;
        }
        last = word ^ disturbed;
        lastSender = senders[0];
        disturbed = 0;
        if (lost > 0) {
            lost--;
            return;
        }
        for (int i = 0; i < 4; i++) {
            if (i != senders[0] && state[i] != 0 && state[i] != 6) {
                hear(i, last);
            }
        }
    }

    private Long microtick(int i) {
        if (state[i] == 1) {
            quiet[i]++;
            since[i]++;
            if (i < 2 && quiet[i] == (i == 0 ? 160 : 180)) {
                state[i] = 2;
                fresh(i, 0, 0, 0, 0);
            }
            return null;
        }
        m[i]++;
        int length = 80 + rate[i] + (cycle[i] % 2 == 1 ? offset[i] : 0);
        if (m[i] == length) {
            m[i] = 0;
            if (cycle[i] % 2 == 1) {
                rate[i] = newRate[i];
                dev[i] = new Integer[4][2];
            }
            cycle[i] = cycle[i] == 63 ? 0 : cycle[i] + 1;
        }
        if (m[i] == 40) {
            number[i] = 5;
            holds[i] = false;
        }
        if (m[i] == 44 || m[i] == 48 || m[i] == 52 || m[i] == 56) {
            if (holds[i]) {
                holds[i] = false;
            } else {
                number[i]++;
            }
        }
        if (m[i] == 60 && cycle[i] % 2 == 1) {
            reflect(i);
        }
        return send(i);
    }

    private Long send(int i) {
        boolean allowed = state[i] == 2 || state[i] == 4 || state[i] == 3 && i < 2 && count[i] > 0;
        if (m[i] == 10 * i + 4 && allowed) {
            return word(i + 1, cycle[i], i < 2 ? 1 : 0, value[i]);
        }
        boolean two = m[i] == 42 || m[i] == 46 || m[i] == 50 || m[i] == 54 || m[i] == 58;
        int[] w = message[i];
        if (two && state[i] == 4 && !holds[i] && w != null && w[0] == number[i] && cycle[i] % w[3] == w[2]) {
            message[i] = null;
            holds[i] = true;
            return word(w[0], cycle[i], 0, w[1]);
        }
        return null;
    }

    private void listen(int i) {
        state[i] = 1;
        quiet[i] = 0;
        since[i] = 0;
        firstId[i] = 0;
        dev[i] = new Integer[4][2];
    }

    private void fresh(int i, int atM, int atCycle, int withRate, int withCount) {
        m[i] = atM;
        cycle[i] = atCycle;
        rate[i] = withRate;
        offset[i] = 0;
        dev[i] = new Integer[4][2];
        count[i] = withCount;
        number[i] = 0;
        holds[i] = false;
    }

    private void hear(int i, long word) {
        if (state[i] == 1) {
            quiet[i] = 0;
        }
        String frame = decode(word);
        if (frame.startsWith("I")) {
            return;
        }
        int f = Integer.parseInt(frame);
        int id = f % 32;
        int c = f / 32 % 64;
        boolean startup = f / 2048 % 2 == 1;
        int v = f / 4096;
        if (id < 1 || id > 9 || startup && id > 2) {
            return;
        }
        if (state[i] == 1) {
            hearListening(i, id, c, startup);
        } else {
            hearInTime(i, id, c, startup, v);
        }
    }

    private void hearListening(int i, int id, int c, boolean startup) {
        boolean first = firstId[i] != 0;
        if (startup && first && id == firstId[i] && c == firstCycle[i] + 1 && since[i] >= 70 && since[i] <= 90) {
            state[i] = 3;
            fresh(i, 10 * (id - 1) + 4, c, Math.max(-4, Math.min(4, since[i] - 80)), -1);
            return;
        }
        if (first && firstId[i] != id && since[i] <= 90) {
            return;
        }
        if (startup && c % 2 == 0) {
            firstId[i] = id;
            firstCycle[i] = c;
            since[i] = 0;
        } else if (startup) {
            firstId[i] = 0;
        }
    }

    private void hearInTime(int i, int id, int c, boolean startup, int v) {
        if (id <= 4) {
            int d = m[i] - (10 * (id - 1) + 4);
            if (d >= -3 && d <= 3 && c == cycle[i]) {
                dev[i][id - 1][c % 2] = d;
                got[i][id] = v;
            } else if (state[i] == 2 && startup) {
                listen(i);
            }
        } else if (c == cycle[i] && m[i] >= 40 && m[i] <= 59) {
            got[i][id] = v;
            number[i] = id;
            holds[i] = true;
        }
    }

    static int middle(java.util.List<Integer> numbers) {
        java.util.List<Integer> sorted = new java.util.ArrayList<>(numbers);
        java.util.Collections.sort(sorted);
        if (sorted.size() >= 3) {
            sorted = sorted.subList(1, sorted.size() - 1);
        }
        return (sorted.get(0) + sorted.get(sorted.size() - 1)) / 2;
    }

    private void reflect(int i) {
        java.util.List<Integer> changes = new java.util.ArrayList<>(java.util.List.of(0));
        java.util.List<Integer> odds = new java.util.ArrayList<>(java.util.List.of(0));
        int n = 0;
        for (Integer[] d : dev[i]) {
            if (d[1] != null) {
                odds.add(d[1]);
            }
            if (d[0] != null && d[1] != null) {
                changes.add(d[1] - d[0]);
                n++;
            }
        }
        newRate[i] = Math.max(-4, Math.min(4, rate[i] + middle(changes)));
        offset[i] = Math.max(-6, Math.min(6, middle(odds)));
        switch (state[i]) {
            case 2 -> {
                if (n > 0) {
                    state[i] = 4;
                } else if (cycle[i] >= 11) {
                    listen(i);
                }
            }
            case 3 -> {
                if (count[i] == -1) {
                    count[i] = 0;
                } else if (n == 0) {
                    listen(i);
                } else if (i < 2 || n > 1) {
                    count[i]++;
                    if (count[i] == 2) {
                        state[i] = 4;
                    }
                }
            }
            case 4 -> {
                if (n == 0) {
                    state[i] = 5;
                    count[i] = 1;
                }
            }
            default -> {
                if (n > 0) {
                    state[i] = 4;
                } else {
                    count[i]++;
                    if (count[i] == 3) {
                        state[i] = 6;
                    }
                }
            }
        }
    }
}
