/** Promise 1: a new object. */
public final class Promise01Test {
    private static final Check CHECK = new Check();

    public static void main(String[] args) {
        for (int seed : new int[] {0, 7, -3, -1, 255, 256, Integer.MIN_VALUE, Integer.MAX_VALUE}) {
            nothingIsThere(seed);
            fakesComeFromTheSeed(seed);
        }
        objectsAreApart();
        CHECK.end();
    }

    private static void nothingIsThere(int seed) {
        CHECK.sentence("Promise 1", "No records, no sessions.");
        PakeDesk desk = new PakeDesk(seed);
        CHECK.due(0, "sessions()", desk::sessions);
        CHECK.due(0, "tick(0)", () -> desk.tick(0));
        CHECK.due(-1, "state(0)", () -> desk.state(0));
        CHECK.due(0, "message(0)", () -> desk.message(0));
        for (int u = 0; u < 8; u++) {
            int user = u;
            CHECK.due(-1, "way " + user, () -> desk.way(user));
            CHECK.due(false, "blocked " + user, () -> desk.blocked(user));
            CHECK.due(false, "forget " + user, () -> desk.forget(user));
        }
    }

    private static void fakesComeFromTheSeed(int seed) {
        CHECK.sentence("Promise 1", "SEED is seed.");
        PakeDesk desk = new PakeDesk(seed);
        for (int u = 0; u < 8; u++) {
            int user = u;
            CHECK.due(Sums.fakeSalt(seed, user), "salt " + user, () -> desk.salt(user));
            int word = Talk.serverAtConfirmation(desk, user, 0);
            CHECK.due(Sums.wordY(77, Sums.fakeWord(seed, user)), "Y of the fake word", () -> desk.message(word));
            int verifier = Talk.serverAtConfirmation(desk, user, 1);
            CHECK.due(Sums.saltY(77, Sums.fakeVerifier(seed, user)), "Y of the fake verifier",
                    () -> desk.message(verifier));
        }
    }

    private static void objectsAreApart() {
        CHECK.sentence("Promise 1", "No records, no sessions.");
        PakeDesk one = new PakeDesk(5);
        PakeDesk other = new PakeDesk(5);
        one.register(3, 1, 4, 5);
        one.client(3, 1, 4, 6);
        one.tick(9);
        for (int i = 0; i < 3; i++) {
            Talk.failure(one, 2);
        }
        CHECK.due(true, "blocked(2) of the one", () -> one.blocked(2));
        CHECK.due(false, "blocked(2) of the other", () -> other.blocked(2));
        CHECK.due(-1, "way(3) of the other", () -> other.way(3));
        CHECK.due(0, "sessions() of the other", other::sessions);
        CHECK.due(0, "tick(0) of the other", () -> other.tick(0));
    }
}
