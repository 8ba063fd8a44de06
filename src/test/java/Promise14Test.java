/** Promise 14: tick. */
public final class Promise14Test {
    private static final Check CHECK = new Check();

    public static void main(String[] args) {
        theClock();
        manyTicks();
        notZeroToAHundred();
        aRefusedTickDoesNotGoBy();
        CHECK.end();
    }

    private static void theClock() {
        CHECK.sentence("Promise 14", "n ticks go by: the clock.");
        PakeDesk desk = new PakeDesk(1);
        CHECK.due(0, "tick(0)", () -> desk.tick(0));
        CHECK.due(1, "tick(1)", () -> desk.tick(1));
        CHECK.due(1, "tick(0)", () -> desk.tick(0));
        CHECK.due(101, "tick(100)", () -> desk.tick(100));
        CHECK.due(200, "tick(99)", () -> desk.tick(99));
        int session = desk.client(0, 0, 1, 1);
        desk.tick(100);
        CHECK.due(4, "state when 100 have gone", () -> desk.state(session));
    }

    private static void manyTicks() {
        CHECK.sentence("Promise 14", "n ticks go by: the clock.");
        PakeDesk desk = new PakeDesk(1);
        for (int i = 1; i <= 512; i++) {
            CHECK.due(100 * i, "tick(100), call " + i, () -> desk.tick(100));
        }
    }

    private static void notZeroToAHundred() {
        CHECK.sentence("Promise 14", "IllegalArgumentException if n is not 0 .. 100.");
        PakeDesk desk = new PakeDesk(1);
        for (int n : new int[] {-1, 101, -100, 1000, Integer.MIN_VALUE, Integer.MAX_VALUE}) {
            CHECK.due(Check.WRONG_ARGUMENT, "tick " + n, () -> desk.tick(n));
        }
        CHECK.due(0, "tick(0)", () -> desk.tick(0));
        CHECK.due(100, "tick(100)", () -> desk.tick(100));
    }

    private static void aRefusedTickDoesNotGoBy() {
        CHECK.sentence("Promise 14", "IllegalArgumentException if n is not 0 .. 100.");
        PakeDesk desk = new PakeDesk(1);
        int session = desk.client(0, 0, 1, 1);
        desk.tick(19);
        CHECK.due(Check.WRONG_ARGUMENT, "tick(101)", () -> desk.tick(101));
        CHECK.due(Check.WRONG_ARGUMENT, "tick(-1)", () -> desk.tick(-1));
        CHECK.due(0, "state when 19 have gone", () -> desk.state(session));
        CHECK.due(19, "tick(0)", () -> desk.tick(0));
        CHECK.due(20, "tick(1)", () -> desk.tick(1));
        CHECK.due(4, "state when 20 have gone", () -> desk.state(session));
    }
}
