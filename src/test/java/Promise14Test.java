/** Promise 14: tick. */
public final class Promise14Test {
    public static void main(String[] args) {
        Check check = new Check();
        PakeDesk desk = new PakeDesk(1);
        check.due(0, "tick(0)", () -> desk.tick(0));
        check.due(1, "tick(1)", () -> desk.tick(1));
        check.due(101, "tick(100)", () -> desk.tick(100));
        for (int n : new int[] {-1, 101, 1000, Integer.MIN_VALUE, Integer.MAX_VALUE}) {
            check.due("throws.IllegalArgumentException", "tick " + n, () -> desk.tick(n));
        }
        check.due(101, "tick(0) after refusals", () -> desk.tick(0));
        check.due(200, "tick(99)", () -> desk.tick(99));
        for (int i = 1; i <= 400; i++) {
            check.due(200 + 100 * i, "tick(100) again", () -> desk.tick(100));
        }
        int session = desk.client(0, 0, 1, 1);
        check.due("throws.IllegalArgumentException", "tick(101)", () -> desk.tick(101));
        check.due(0, "state when no tick has gone", () -> desk.state(session));
        desk.tick(100);
        check.due(4, "state when 100 have gone", () -> desk.state(session));
        check.end();
    }
}
