/** Behind each line that prints stands what it prints. */
public final class Example {
    public static void main(String[] args) {
        // The slownesses of nodes 0, 1, 2 and 3 are 0, 5, 10 and 15: the lowest byte is node 0's.
        SlotBus bus = new SlotBus(0x0F0A0500);
        for (int node = 0; node < 4; node++) {
            bus.power(node);
        }
        System.out.println(states(bus)); // 1 1 1 1

        // Node 0 is the first to lead, and sends; the others hear its frames and join.
        System.out.println(bus.run(200)); // 1
        System.out.println(states(bus)); // 2 1 1 1
        for (int i = 0; i < 8; i++) {
            bus.run(200);
        }
        System.out.println(states(bus)); // 4 4 4 4
        System.out.println(bus.frames()); // 60

        // Node 3's clock is the slowest. In cycle 20 its rate is -1: its cycles are shorter by one microtick,
        // and its frames come to node 0 in time.
        System.out.println(bus.clock(3, 1)); // 20
        System.out.println(bus.clock(3, 2)); // -1
        System.out.println(bus.deviation(0, 3, false)); // 0

        // The frames of a node say its value from now on; a message is sent once, when its turn comes.
        bus.value(0, 42);
        bus.post(3, 6, 7, 0, 2);
        bus.run(200);
        System.out.println(bus.got(1, 1)); // 42
        System.out.println(bus.got(1, 6)); // 7

        // A word says a frame: id + 32 * cycle + 2048 * startup + 4096 * value.
        long word = bus.encode(6, 20, false, 7);
        System.out.println(word); // 28430175365059736
        System.out.println(bus.decode(word)); // 29318

        // The next word on the bus is disturbed in one bit, so that it is noise; the two behind it are lost.
        bus.disturb(1);
        int sent = 0;
        while (sent == 0) {
            sent = bus.run(1);
        }
        try {
            bus.decode(bus.last());
        } catch (IllegalStateException e) {
            System.out.println("noise"); // noise
        }
        System.out.println(bus.lose(2)); // 2
        bus.run(160);

        // So node 3 has heard nobody in one cycle and sends no more, until it has heard the others again.
        System.out.println(states(bus)); // 4 4 4 5
        bus.run(160);
        System.out.println(states(bus)); // 4 4 4 4

        // Alone it falls silent, and is halted in the end, until it is switched on again.
        System.out.println(bus.off(0)); // 4
        bus.off(1);
        bus.off(2);
        bus.run(200);
        bus.run(160);
        System.out.println(states(bus)); // 0 0 0 5
        bus.run(160);
        bus.run(160);
        System.out.println(states(bus)); // 0 0 0 6
        bus.power(3);
        System.out.println(states(bus)); // 0 0 0 1
    }

    private static String states(SlotBus bus) {
        return bus.state(0) + " " + bus.state(1) + " " + bus.state(2) + " " + bus.state(3);
    }
}
