/** Promise 4: way. */
public final class Promise04Test {
    public static void main(String[] args) {
        Check check = new Check();
        PakeDesk desk = new PakeDesk(0);
        check.due(-1, "way(2) at first", () -> desk.way(2));
        desk.register(2, 0, 1, 1);
        check.due(0, "way(2)", () -> desk.way(2));
        desk.register(2, 1, 1, 1);
        check.due(1, "way(2)", () -> desk.way(2));
        check.due(-1, "way(3)", () -> desk.way(3));
        desk.register(2, 2, 1, 1);
        check.due(1, "way(2) after a refusal", () -> desk.way(2));
        desk.forget(2);
        check.due(-1, "way(2) when forgotten", () -> desk.way(2));
        for (int user : new int[] {-1, 8, Integer.MIN_VALUE, Integer.MAX_VALUE}) {
            check.due(-1, "way " + user, () -> desk.way(user));
        }
        desk.register(0, 1, 1, 1);
        desk.register(7, 0, 1, 1);
        check.due(1, "way(0)", () -> desk.way(0));
        check.due(0, "way(7)", () -> desk.way(7));
        check.end();
    }
}
