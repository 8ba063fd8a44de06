/** Promise 5: salt. */
public final class Promise05Test {
    public static void main(String[] args) {
        Check check = new Check();
        PakeDesk desk = new PakeDesk(-3);
        check.due(8084409265377706504L, "salt(3)", () -> desk.salt(3));
        for (int u = 0; u < 8; u++) {
            int user = u;
            check.due(Sums.fakeSalt(-3, user), "salt " + user, () -> desk.salt(user));
        }
        for (long salt : new long[] {555, 0, -1, Long.MIN_VALUE, Long.MAX_VALUE}) {
            desk.register(3, 1, 9, salt);
            check.due(salt, "salt(3)", () -> desk.salt(3));
        }
        desk.register(3, 0, 9, 555);
        check.due(8084409265377706504L, "salt(3) of way 0", () -> desk.salt(3));
        desk.register(3, 1, 9, 556);
        desk.forget(3);
        check.due(8084409265377706504L, "salt(3) when forgotten", () -> desk.salt(3));
        for (int user : new int[] {-1, 8, Integer.MIN_VALUE, Integer.MAX_VALUE}) {
            check.due(0, "salt " + user, () -> desk.salt(user));
        }
        check.end();
    }
}
