/** Promise 6: client. */
public final class Promise06Test {
    private static final Check CHECK = new Check();
    private static final String WRONG = "throws.IllegalArgumentException";
    private static final String FULL = "throws.IllegalStateException";

    public static void main(String[] args) {
        numbersAndFirstMessages();
        edgesOfSecrets();
        noSuchUserOrWay();
        atMostForty();
        aBlockedUserStillHasClients();
        CHECK.end();
    }

    private static void numbersAndFirstMessages() {
        PakeDesk desk = new PakeDesk(7);
        CHECK.due(0, "client", () -> desk.client(1, 0, 42, 12345));
        CHECK.due(1009659361L, "X of way 0", () -> desk.message(0));
        CHECK.due(1, "client", () -> desk.client(1, 1, 42, 12345));
        CHECK.due(Sums.power(Sums.G, Sums.scalar(12345)), "X of way 1", () -> desk.message(1));
        CHECK.due(0, "state", () -> desk.state(1));
        desk.register(1, 0, 43, 0);
        CHECK.due(2, "client", () -> desk.client(1, 0, 42, 12345));
        CHECK.due(1009659361L, "X comes from the password told, not from the record", () -> desk.message(2));
        CHECK.due(3, "client", () -> desk.client(0, 0, -42, 12345));
        CHECK.due(Sums.wordX(12345, Sums.word(0, -42)), "X of user 0", () -> desk.message(3));
        CHECK.due(4, "client", () -> desk.client(7, 0, 42, 12345));
        CHECK.due(Sums.wordX(12345, Sums.word(7, 42)), "X of user 7", () -> desk.message(4));
    }

    private static void edgesOfSecrets() {
        long q = Sums.Q;
        long[] secrets = {0, 1, 2, -1, Long.MIN_VALUE, Long.MAX_VALUE,
            2 * (q - 3), 2 * (q - 2), 2 * (q - 2) + 1, 2 * (q - 1), 2 * q};
        PakeDesk desk = new PakeDesk(7);
        for (long secret : secrets) {
            int word = desk.client(2, 0, 5, secret);
            int salt = desk.client(2, 1, 5, secret);
            CHECK.due(Sums.wordX(secret, Sums.word(2, 5)), "X, way 0, of " + secret, () -> desk.message(word));
            CHECK.due(Sums.power(Sums.G, Sums.scalar(secret)), "X, way 1, of " + secret, () -> desk.message(salt));
        }
    }

    private static void noSuchUserOrWay() {
        PakeDesk desk = new PakeDesk(7);
        for (int wrong : new int[] {-1, 8, Integer.MIN_VALUE, Integer.MAX_VALUE}) {
            CHECK.due(WRONG, "client of user " + wrong, () -> desk.client(wrong, 0, 1, 1));
        }
        for (int wrong : new int[] {-1, 2, Integer.MIN_VALUE, Integer.MAX_VALUE}) {
            CHECK.due(WRONG, "client of way " + wrong, () -> desk.client(0, wrong, 1, 1));
        }
        CHECK.due(0, "sessions()", desk::sessions);
    }

    private static void atMostForty() {
        PakeDesk desk = new PakeDesk(7);
        Talk.fill(desk, 39);
        CHECK.due(39, "the fortieth", () -> desk.client(7, 1, 1, 1));
        CHECK.due(FULL, "one more", () -> desk.client(7, 1, 1, 1));
        CHECK.due(WRONG, "one more of no user", () -> desk.client(8, 1, 1, 1));
        CHECK.due(WRONG, "one more of no way", () -> desk.client(7, 2, 1, 1));
        CHECK.due(40, "sessions()", desk::sessions);
        desk.tick(20);
        CHECK.due(FULL, "one more when all are expired", () -> desk.client(7, 1, 1, 1));
    }

    private static void aBlockedUserStillHasClients() {
        PakeDesk desk = new PakeDesk(7);
        for (int i = 0; i < 3; i++) {
            Talk.failure(desk, 5);
        }
        CHECK.due(true, "blocked(5)", () -> desk.blocked(5));
        CHECK.due(3, "client(5)", () -> desk.client(5, 0, 1, 1));
    }
}
