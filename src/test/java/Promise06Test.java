/** Promise 6: client. */
public final class Promise06Test {
    private static final Check CHECK = new Check();
    private static final String WRONG = "throws.IllegalArgumentException";
    private static final String FULL = "throws.IllegalStateException";

    public static void main(String[] args) {
        numbersAndFirstMessages();
        edgesOfSecrets();
        noSuchUserOrWay();
        atMostForty();
        theOneNamedFirst();
        aBlockedUserStillHasClients();
        CHECK.end();
    }

    private static void numbersAndFirstMessages() {
        CHECK.sentence("Promise 6", "A new client: its number.");
        PakeDesk desk = new PakeDesk(7);
        CHECK.due(0, "client", () -> desk.client(1, 0, 42, 12345));
        CHECK.due(1009659361L, "X of way 0", () -> desk.message(0));
        CHECK.due(1, "client", () -> desk.client(1, 1, 42, 12345));
        CHECK.due(Sums.power(Sums.G, Sums.scalar(12345)), "X of way 1", () -> desk.message(1));
        CHECK.due(0, "state", () -> desk.state(1));
        desk.register(1, 0, 43, 0);
        CHECK.due(2, "client", () -> desk.client(1, 0, 42, 12345));
        CHECK.due(1009659361L, "X comes from the password told, not from the record", () -> desk.message(2));
        CHECK.due(3, "client", () -> desk.client(0, 0, -42, 12345));
        CHECK.due(Sums.wordX(12345, Sums.word(0, -42)), "X of user 0", () -> desk.message(3));
        CHECK.due(4, "client", () -> desk.client(7, 0, 42, 12345));
        CHECK.due(Sums.wordX(12345, Sums.word(7, 42)), "X of user 7", () -> desk.message(4));
    }

    private static void edgesOfSecrets() {
        CHECK.sentence("Promise 6", "A new client: its number.");
        long q = Sums.Q;
        long[] secrets = {0, 1, 2, -1, Long.MIN_VALUE, Long.MAX_VALUE,
            2 * (q - 3), 2 * (q - 2), 2 * (q - 2) + 1, 2 * (q - 1), 2 * q};
        PakeDesk desk = new PakeDesk(7);
        for (long secret : secrets) {
            int word = desk.client(2, 0, 5, secret);
            int salt = desk.client(2, 1, 5, secret);
            CHECK.due(Sums.wordX(secret, Sums.word(2, 5)), "X, way 0, of " + secret, () -> desk.message(word));
            CHECK.due(Sums.power(Sums.G, Sums.scalar(secret)), "X, way 1, of " + secret, () -> desk.message(salt));
        }
    }

    private static void noSuchUserOrWay() {
        CHECK.sentence("Promise 6", "IllegalArgumentException if there is no such user or way;");
        PakeDesk desk = new PakeDesk(7);
        for (int wrong : new int[] {-1, 8, Integer.MIN_VALUE, Integer.MAX_VALUE}) {
            CHECK.due(WRONG, "client of user " + wrong, () -> desk.client(wrong, 0, 1, 1));
        }
        for (int wrong : new int[] {-1, 2, Integer.MIN_VALUE, Integer.MAX_VALUE}) {
            CHECK.due(WRONG, "client of way " + wrong, () -> desk.client(0, wrong, 1, 1));
        }
        CHECK.due(WRONG, "client of neither", () -> desk.client(8, 2, 1, 1));
        CHECK.due(0, "sessions()", desk::sessions);
        CHECK.due(0, "client of user 0, way 0", () -> desk.client(0, 0, 1, 1));
        CHECK.due(1, "client of user 0, way 1", () -> desk.client(0, 1, 1, 1));
        CHECK.due(2, "client of user 7, way 0", () -> desk.client(7, 0, 1, 1));
        CHECK.due(3, "client of user 7, way 1", () -> desk.client(7, 1, 1, 1));
    }

    private static void atMostForty() {
        CHECK.sentence("Promise 6", "IllegalStateException if there are 40 sessions.");
        PakeDesk desk = new PakeDesk(7);
        Talk.fill(desk, 39);
        CHECK.due(39, "the fortieth", () -> desk.client(7, 1, 1, 1));
        CHECK.due(FULL, "one more", () -> desk.client(7, 1, 1, 1));
        CHECK.due(40, "sessions()", desk::sessions);
        desk.tick(20);
        CHECK.due(FULL, "one more when all are expired", () -> desk.client(7, 1, 1, 1));
    }

    private static void theOneNamedFirst() {
        CHECK.sentence("Promise 6", "(The one named first, if both hold.)");
        PakeDesk desk = new PakeDesk(7);
        Talk.fill(desk, 39);
        CHECK.due(WRONG, "no user, with 39 sessions", () -> desk.client(8, 1, 1, 1));
        desk.server(0, 0, 1);
        for (int user : new int[] {-1, 8}) {
            CHECK.due(WRONG, "no user, with 40 sessions", () -> desk.client(user, 1, 1, 1));
        }
        for (int way : new int[] {-1, 2}) {
            CHECK.due(WRONG, "no way, with 40 sessions", () -> desk.client(7, way, 1, 1));
        }
        CHECK.due(FULL, "user and way, with 40 sessions", () -> desk.client(7, 1, 1, 1));
    }

    private static void aBlockedUserStillHasClients() {
        CHECK.sentence("Promise 6", "A new client: its number.");
        PakeDesk desk = new PakeDesk(7);
        Talk.failures(desk, 5, 3);
        CHECK.due(true, "blocked(5)", () -> desk.blocked(5));
        CHECK.due(3, "client(5)", () -> desk.client(5, 0, 1, 1));
    }
}
