import java.util.Arrays;
import java.util.NoSuchElementException;

/** Four nodes on one bus that share time by slots; the project's document says what each call does. */
public final class SlotBus {
    private static final int NODES = 4;
    private static final int MOST_TICKS = 200;
    private static final int MOST_TO_LOSE = 1000;
    private static final int MOST_VALUE = 1023;
    private static final int FIRST_MESSAGE_ID = 5;
    private static final int LAST_ID = 9;
    /** No word is negative, so this one can stand for none. */
    private static final long NO_WORD = -1L;

    private final Node[] nodes;
    private long disturbance;
    private int toLose;
    private int sentSoFar;
    private long lastWord;

    public SlotBus(int slow) {
        nodes = new Node[NODES];
        for (int i = 0; i < NODES; i++) {
            nodes[i] = new Node(i, (slow >>> (8 * i) & 255) % 31);
        }
        lastWord = NO_WORD;
    }

    public void power(int node) throws IllegalArgumentException, IllegalStateException {
        requireNode(node);
        if (nodes[node].isAwake()) {
            throw new IllegalStateException("the node is on");
        }
        nodes[node].switchOn();
    }

    public int off(int node) throws IllegalArgumentException {
        requireNode(node);
        int before = nodes[node].state;
        nodes[node].state = Node.OFF;
        return before;
    }

    public int run(int n) throws IllegalArgumentException {
        require(isWithin(n, 1, MOST_TICKS));
        int before = sentSoFar;
        for (int i = 0; i < n; i++) {
            passTick();
        }
        return sentSoFar - before;
    }

    public void value(int node, int value) throws IllegalArgumentException, IllegalStateException {
        requireNode(node);
        require(isWithin(value, 0, MOST_VALUE));
        requireNotOff(node);
        nodes[node].value = value;
    }

    public void post(int node, int id, int value, int base, int every)
            throws IllegalArgumentException, IllegalStateException {
        requireNode(node);
        require(isWithin(id, FIRST_MESSAGE_ID, LAST_ID));
        require(isWithin(value, 0, MOST_VALUE));
        require(every == 1 || every == 2 || every == 4);
        require(isWithin(base, 0, every - 1));
        requireNotOff(node);
        Message message = nodes[node].message;
        if (message.waits) {
            throw new IllegalStateException("the node has a message");
        }
        message.put(id, value, base, every);
    }

    public void disturb(long bits) throws IllegalArgumentException {
        require(Words.fits(bits));
        disturbance ^= bits;
    }

    public int lose(int n) throws IllegalArgumentException {
        require(isWithin(n, 0, MOST_TO_LOSE - toLose));
        toLose += n;
        return toLose;
    }

    public int state(int node) throws IllegalArgumentException {
        requireNode(node);
        return nodes[node].state;
    }

    public int clock(int node, int what) throws IllegalArgumentException, IllegalStateException {
        requireNode(node);
        require(isWithin(what, 0, 5));
        Node asked = nodes[node];
        if (!asked.isInTime()) {
            throw new IllegalStateException("the node has no clock now");
        }
        switch (what) {
            case 0: return asked.timer.microtick;
            case 1: return asked.timer.cycle;
            case 2: return asked.timer.rate;
            case 3: return asked.timer.offset;
            case 4: return asked.count;
            default: return asked.number;
        }
    }

    public int deviation(int node, int sender, boolean odd)
            throws IllegalArgumentException, NoSuchElementException {
        requireNode(node);
        requireNode(sender);
        Deviations known = nodes[node].deviations;
        // A forged frame can bear the hearer's own id, yet there is no deviation of itself to be told.
        if (node == sender || !known.has(sender, odd)) {
            throw new NoSuchElementException("no such deviation");
        }
        return known.of(sender, odd);
    }

    public int got(int node, int id) throws IllegalArgumentException, NoSuchElementException {
        requireNode(node);
        require(isWithin(id, 1, LAST_ID));
        int value = nodes[node].received[id];
        if (value == Node.NOTHING) {
            throw new NoSuchElementException("nothing yet");
        }
        return value;
    }

    public int frames() {
        return sentSoFar;
    }

    public long last() throws NoSuchElementException {
        if (lastWord == NO_WORD) {
            throw new NoSuchElementException("no word yet");
        }
        return lastWord;
    }

    public long encode(int id, int cycle, boolean startup, int value) throws IllegalArgumentException {
        require(isWithin(id, 0, 31));
        require(isWithin(cycle, 0, 63));
        require(isWithin(value, 0, MOST_VALUE));
        return Words.make(id, cycle, startup, value);
    }

    public int decode(long word) throws IllegalArgumentException, IllegalStateException {
        require(Words.fits(word) && Words.isHeadRight(word));
        if (!Words.isWholeRight(word)) {
            throw new IllegalStateException("the check of 24 bits is not right");
        }
        int startup = Words.startupIn(word) ? 1 : 0;
        return Words.idIn(word) + 32 * Words.cycleIn(word) + 2048 * startup + 4096 * Words.valueIn(word);
    }

    private static void require(boolean fine) {
        if (!fine) {
            throw new IllegalArgumentException("an argument is out of its range");
        }
    }

    private static void requireNode(int node) {
        if (!isWithin(node, 0, NODES - 1)) {
            throw new IllegalArgumentException("no such node");
        }
    }

    private void requireNotOff(int node) {
        if (nodes[node].state == Node.OFF) {
            throw new IllegalStateException("the node is off");
        }
    }

    private static boolean isWithin(int number, int least, int most) {
        return number >= least && number <= most;
    }

    private static int limit(int number, int most) {
        int notAbove = number > most ? most : number;
        return notAbove < -most ? -most : notAbove;
    }

    private void passTick() {
        int senders = 0;
        int sender = 0;
        long word = NO_WORD;
        for (int i = 0; i < NODES; i++) {
            long sending = nodes[i].passTick();
            if (sending != NO_WORD) {
                senders++;
                sender = i;
                word = sending;
            }
        }
        sentSoFar += senders;
        if (senders == 1) {
            carry(sender, word);
        }
    }

    private void carry(int sender, long word) {
        lastWord = word ^ disturbance;
        disturbance = 0;
        if (toLose > 0) {
            toLose--;
            return;
        }
        boolean noise = Words.isNoise(lastWord);
        for (int i = 0; i < NODES; i++) {
            if (i != sender && nodes[i].isAwake()) {
                nodes[i].hear(lastWord, noise);
            }
        }
    }

    /** How a frame's parts lie in a word, and the checks over them. */
    private static final class Words {
        private static final int BITS = 57;
        private static final int HEAD_BITS = 12;
        private static final int HEAD_CHECK_BITS = 11;
        private static final int BODY_BITS = 33;
        private static final int WHOLE_CHECK_BITS = 24;

        static boolean fits(long word) {
            return word >>> BITS == 0;
        }

        static long make(int id, int cycle, boolean startup, int value) {
            long head = (long) id << 7 | cycle << 1 | (startup ? 1 : 0);
            long body = (head << HEAD_CHECK_BITS | headCheck(head)) << 10 | value;
            return body << WHOLE_CHECK_BITS | wholeCheck(body);
        }

        static int idIn(long word) {
            return (int) (word >>> 52) & 31;
        }

        static int cycleIn(long word) {
            return (int) (word >>> 46) & 63;
        }

        static boolean startupIn(long word) {
            return (word >>> 45 & 1) == 1;
        }

        static int valueIn(long word) {
            return (int) (word >>> WHOLE_CHECK_BITS) & MOST_VALUE;
        }

        static boolean isHeadRight(long word) {
            return headCheck(word >>> 45) == (word >>> 34 & 0x7FF);
        }

        static boolean isWholeRight(long word) {
            return wholeCheck(word >>> WHOLE_CHECK_BITS) == (word & 0xFFFFFF);
        }

        static boolean isNoise(long word) {
            if (!isHeadRight(word) || !isWholeRight(word)) {
                return true;
            }
            int id = idIn(word);
            return !isWithin(id, 1, LAST_ID) || startupIn(word) && id > Node.STARTERS;
        }

        private static long headCheck(long head) {
            return check(head, HEAD_BITS, HEAD_CHECK_BITS, 0x1A, 0x385);
        }

        private static long wholeCheck(long body) {
            return check(body, BODY_BITS, WHOLE_CHECK_BITS, 0xFEDCBA, 0x5D6DCB);
        }

        private static long check(long bits, int length, int width, long start, long joined) {
            long mask = (1L << width) - 1;
            long register = start;
            for (int i = length - 1; i >= 0; i--) {
                long out = register >>> (width - 1);
                register = register << 1 & mask;
                if (out != (bits >>> i & 1)) {
                    register ^= joined;
                }
            }
            return register;
        }
    }

    /** A message that the host has given to a node, for as long as it waits to be sent. */
    private static final class Message {
        private boolean waits;
        private int id;
        private int value;
        private int base;
        private int every;

        void put(int newId, int newValue, int newBase, int newEvery) {
            waits = true;
            id = newId;
            value = newValue;
            base = newBase;
            every = newEvery;
        }

        boolean isDue(int number, int cycle) {
            return waits && id == number && every > 0 && cycle % every == base;
        }
    }

    /** What a listening node remembers of the bus. */
    private static final class Search {
        private static final int NO_FIRST = 0;
        private static final int LEAST_SINCE = 70;
        private static final int MOST_SINCE = 90;

        private int quiet;
        private int since;
        private int firstId;
        private int firstCycle;

        void begin() {
            quiet = 0;
            since = 0;
            firstId = NO_FIRST;
        }

        void passMicrotick() {
            quiet++;
            since++;
        }

        boolean isSecond(int id, int cycle) {
            return id == firstId && cycle == firstCycle + 1 && isWithin(since, LEAST_SINCE, MOST_SINCE);
        }

        void note(int id, int cycle) {
            if (firstId != NO_FIRST && firstId != id && since <= MOST_SINCE) {
                return;
            }
            if (cycle % 2 == 0) {
                firstId = id;
                firstCycle = cycle;
                since = 0;
            } else {
                firstId = NO_FIRST;
            }
        }
    }

    /** Where a node is in its cycle, and how long the cycle is. */
    private static final class Timer {
        private static final int CYCLES = 64;
        private static final int USUAL_LENGTH = 80;
        private static final int MOST_RATE = 4;
        private static final int MOST_OFFSET = 6;

        private int microtick;
        private int cycle;
        private int rate;
        private int newRate;
        private int offset;

        void begin(int atMicrotick, int atCycle, int withRate) {
            microtick = atMicrotick;
            cycle = atCycle;
            rate = limit(withRate, MOST_RATE);
            newRate = rate;
            offset = 0;
        }

        boolean isOdd() {
            return cycle % 2 == 1;
        }

        /** Answers whether an odd cycle has ended with this microtick. */
        boolean passMicrotick() {
            microtick++;
            if (microtick < length()) {
                return false;
            }
            boolean wasOdd = isOdd();
            if (wasOdd) {
                rate = newRate;
            }
            microtick = 0;
            cycle = (cycle + 1) % CYCLES;
            return wasOdd;
        }

        void correct(int rateChange, int newOffset) {
            newRate = limit(rate + rateChange, MOST_RATE);
            offset = limit(newOffset, MOST_OFFSET);
        }

        private int length() {
            return USUAL_LENGTH + rate + (isOdd() ? offset : 0);
        }
    }

    /** A few numbers in order, of which the middle is asked. */
    private static final class Middle {
        private final int[] inOrder;
        private int size;

        Middle() {
            inOrder = new int[NODES + 1];
            size = 1;
        }

        /** The 0 stands for the node itself, which counts as being right. */
        void beginWithZero() {
            inOrder[0] = 0;
            size = 1;
        }

        void add(int number) {
            if (size >= inOrder.length) {
                return;
            }
            int at = size;
            while (at > 0 && inOrder[at - 1] > number) {
                inOrder[at] = inOrder[at - 1];
                at--;
            }
            inOrder[at] = number;
            size++;
        }

        int answer() {
            int leftOut = size >= 3 ? 1 : 0;
            return (inOrder[leftOut] + inOrder[size - 1 - leftOut]) / 2;
        }
    }

    /** The deviations of the senders that a node has heard in its even and its odd cycle. */
    private static final class Deviations {
        private static final int NONE = 1000;

        private final int[] even;
        private final int[] odd;
        private final Middle middle;

        Deviations() {
            even = new int[NODES];
            odd = new int[NODES];
            Arrays.fill(even, NONE);
            Arrays.fill(odd, NONE);
            middle = new Middle();
        }

        void forget() {
            Arrays.fill(even, NONE);
            Arrays.fill(odd, NONE);
        }

        void note(int sender, boolean inOdd, int deviation) {
            if (inOdd) {
                odd[sender] = deviation;
            } else {
                even[sender] = deviation;
            }
        }

        boolean has(int sender, boolean inOdd) {
            return of(sender, inOdd) != NONE;
        }

        int of(int sender, boolean inOdd) {
            return inOdd ? odd[sender] : even[sender];
        }

        int heardInBoth() {
            int heard = 0;
            for (int i = 0; i < NODES; i++) {
                if (hasBoth(i)) {
                    heard++;
                }
            }
            return heard;
        }

        int middleChange() {
            middle.beginWithZero();
            for (int i = 0; i < NODES; i++) {
                if (hasBoth(i)) {
                    middle.add(odd[i] - even[i]);
                }
            }
            return middle.answer();
        }

        int middleInOdd() {
            middle.beginWithZero();
            for (int i = 0; i < NODES; i++) {
                if (odd[i] != NONE) {
                    middle.add(odd[i]);
                }
            }
            return middle.answer();
        }

        private boolean hasBoth(int sender) {
            return even[sender] != NONE && odd[sender] != NONE;
        }
    }

    /** One node: its state, its clock and what it knows of the others. */
    private static final class Node {
        private static final int OFF = 0;
        private static final int LISTENING = 1;
        private static final int LEADING = 2;
        private static final int JOINING = 3;
        private static final int ACTIVE = 4;
        private static final int PASSIVE = 5;
        private static final int HALTED = 6;

        private static final int STARTERS = 2;
        private static final int NOTHING = -1;
        private static final int FULL_PHASE = 1000;
        private static final int MINISLOTS_BEGIN = 40;
        private static final int MINISLOT = 4;
        private static final int PAUSE_BEGINS = 60;
        private static final int MOST_DEVIATION = 3;
        private static final int LAST_LEADING_CYCLE = 11;
        private static final int ENOUGH_QUIET = 160;
        private static final int MORE_QUIET_PER_NODE = 20;

        private final int index;
        private final int slowness;
        private final Timer timer;
        private final Search search;
        private final Deviations deviations;
        private final Message message;
        /** By id: the value that was got, or NOTHING. */
        private final int[] received;
        private int state;
        private int phase;
        private int count;
        private int number;
        private boolean holds;
        private int value;

        Node(int ownIndex, int ownSlowness) {
            index = ownIndex;
            slowness = ownSlowness;
            timer = new Timer();
            search = new Search();
            deviations = new Deviations();
            message = new Message();
            received = new int[LAST_ID + 1];
            Arrays.fill(received, NOTHING);
        }

        boolean isAwake() {
            return state != OFF && state != HALTED;
        }

        boolean isInTime() {
            return isAwake() && state != LISTENING;
        }

        void switchOn() {
            phase = 0;
            value = 0;
            message.waits = false;
            Arrays.fill(received, NOTHING);
            listen();
        }

        /** Answers the word that the node sends in this tick, or NO_WORD. */
        long passTick() {
            if (!isAwake()) {
                return NO_WORD;
            }
            phase += FULL_PHASE - slowness;
            if (phase < FULL_PHASE) {
                return NO_WORD;
            }
            phase -= FULL_PHASE;
            if (state == LISTENING) {
                passListening();
                return NO_WORD;
            }
            passInTime();
            return wordToSend();
        }

        void hear(long word, boolean noise) {
            if (state == LISTENING) {
                search.quiet = 0;
                if (!noise && Words.startupIn(word)) {
                    hearListening(Words.idIn(word), Words.cycleIn(word));
                }
            } else if (!noise) {
                hearInTime(word);
            }
        }

        private boolean isStarter() {
            return index < STARTERS;
        }

        private static int dueAt(int slot) {
            return 10 * slot + 4;
        }

        private void listen() {
            state = LISTENING;
            search.begin();
            deviations.forget();
        }

        private void enterTime(int newState, int newCount) {
            state = newState;
            count = newCount;
            number = 0;
            holds = false;
            deviations.forget();
        }

        private void passListening() {
            search.passMicrotick();
            if (isStarter() && search.quiet == ENOUGH_QUIET + MORE_QUIET_PER_NODE * index) {
                timer.begin(0, 0, 0);
                enterTime(LEADING, 0);
            }
        }

        private void passInTime() {
            boolean oddEnded = timer.passMicrotick();
            if (oddEnded) {
                deviations.forget();
            }
            if (isInMinislots() && (timer.microtick - MINISLOTS_BEGIN) % MINISLOT == 0) {
                beginMinislot();
            }
            if (timer.microtick == PAUSE_BEGINS && timer.isOdd()) {
                reflect();
            }
        }

        private boolean isInMinislots() {
            return isWithin(timer.microtick, MINISLOTS_BEGIN, PAUSE_BEGINS - 1);
        }

        private void beginMinislot() {
            if (timer.microtick == MINISLOTS_BEGIN) {
                number = FIRST_MESSAGE_ID;
            } else if (!holds) {
                number++;
            }
            holds = false;
        }

        private long wordToSend() {
            if (timer.microtick == dueAt(index) && maySendInSlot()) {
                return Words.make(index + 1, timer.cycle, isStarter(), value);
            }
            if (maySendMessage() && message.isDue(number, timer.cycle)) {
                message.waits = false;
                holds = true;
                return Words.make(message.id, timer.cycle, false, message.value);
            }
            return NO_WORD;
        }

        private boolean maySendInSlot() {
            return state == LEADING || state == ACTIVE || state == JOINING && isStarter() && count > 0;
        }

        private boolean maySendMessage() {
            return state == ACTIVE && !holds && isInMinislots()
                    && (timer.microtick - MINISLOTS_BEGIN) % MINISLOT == 2;
        }

        private void hearListening(int id, int cycle) {
            if (search.isSecond(id, cycle)) {
                timer.begin(dueAt(id - 1), cycle, search.since - Timer.USUAL_LENGTH);
                enterTime(JOINING, -1);
            } else {
                search.note(id, cycle);
            }
        }

        private void hearInTime(long word) {
            int id = Words.idIn(word);
            boolean sameCycle = Words.cycleIn(word) == timer.cycle;
            if (id >= FIRST_MESSAGE_ID) {
                if (sameCycle && isInMinislots()) {
                    received[id] = Words.valueIn(word);
                    number = id;
                    holds = true;
                }
                return;
            }
            int deviation = timer.microtick - dueAt(id - 1);
            if (sameCycle && isWithin(deviation, -MOST_DEVIATION, MOST_DEVIATION)) {
                deviations.note(id - 1, timer.isOdd(), deviation);
                received[id] = Words.valueIn(word);
            } else if (state == LEADING && Words.startupIn(word)) {
                listen();
            }
        }

        private void reflect() {
            timer.correct(deviations.middleChange(), deviations.middleInOdd());
            int heard = deviations.heardInBoth();
            if (state == LEADING) {
                reflectLeading(heard);
            } else if (state == JOINING) {
                reflectJoining(heard);
            } else if (heard > 0) {
                state = ACTIVE;
            } else {
                reflectAlone();
            }
        }

        private void reflectLeading(int heard) {
            if (heard > 0) {
                state = ACTIVE;
            } else if (timer.cycle >= LAST_LEADING_CYCLE) {
                listen();
            }
        }

        private void reflectJoining(int heard) {
            if (count == -1) {
                count = 0;
            } else if (heard == 0) {
                listen();
            } else if (isStarter() || heard > 1) {
                count++;
                if (count == 2) {
                    state = ACTIVE;
                }
            }
        }

        private void reflectAlone() {
            if (state == ACTIVE) {
                state = PASSIVE;
                count = 1;
                return;
            }
            count++;
            if (count == 3) {
                state = HALTED;
            }
        }
    }
}
