/** The term RECORDS: who may have one, which there are, and what stands for one that there is not. */
public final class TermRecordsTest {
    private static final Check CHECK = new Check();
    private static final int SEED = -41;

    public static void main(String[] args) {
        usersAtBothEnds();
        usersBeyondTheEnds();
        oneRecordOfOneWay();
        words();
        saltsAndVerifiers();
        fakesOfNoRecord();
        fakesOfAForgottenRecord();
        fakesOfARecordOfTheOtherWay();
        fakesAreOfSeedAndUser();
        CHECK.end();
    }

    private static void usersAtBothEnds() {
        CHECK.sentence("RECORDS", "USERS are 0 .. 7.");
        for (int u : new int[] {0, 7}) {
            int user = u;
            PakeDesk desk = new PakeDesk(SEED);
            CHECK.due(0, "client of " + user, () -> desk.client(user, 0, 1, 1));
            CHECK.due(1, "server of " + user, () -> desk.server(user, 1, 1));
            CHECK.due(Sums.fakeSalt(SEED, user), "salt of " + user, () -> desk.salt(user));
            CHECK.due(true, "register " + user, () -> desk.register(user, 1, 2, 3));
            CHECK.due(1, "way of " + user, () -> desk.way(user));
            CHECK.due(3, "salt of " + user, () -> desk.salt(user));
            CHECK.due(true, "forget " + user, () -> desk.forget(user));
            Talk.failures(desk, user, 3);
            CHECK.due(true, "blocked " + user, () -> desk.blocked(user));
        }
    }

    private static void usersBeyondTheEnds() {
        CHECK.sentence("RECORDS", "USERS are 0 .. 7.");
        PakeDesk desk = new PakeDesk(SEED);
        for (int user : new int[] {-1, 8, -8, 15, 16, 256, Integer.MIN_VALUE, Integer.MAX_VALUE}) {
            CHECK.due(false, "register " + user, () -> desk.register(user, 1, 2, 3));
            CHECK.due(-1, "way of " + user, () -> desk.way(user));
            CHECK.due(0, "salt of " + user, () -> desk.salt(user));
            CHECK.due(false, "forget " + user, () -> desk.forget(user));
            CHECK.due(false, "blocked " + user, () -> desk.blocked(user));
            CHECK.due(Check.WRONG_ARGUMENT, "client of " + user, () -> desk.client(user, 0, 1, 1));
            CHECK.due(Check.WRONG_ARGUMENT, "server of " + user, () -> desk.server(user, 0, 1));
        }
    }

    private static void oneRecordOfOneWay() {
        CHECK.sentence("RECORDS", "A user may have one record, of WAY 0 or 1");
        PakeDesk desk = new PakeDesk(SEED);
        desk.register(3, 0, 10, 0);
        desk.register(3, 1, 11, 12);
        CHECK.due(1, "way", () -> desk.way(3));
        expectWord(desk, 3, Sums.fakeWord(SEED, 3));
        expectVerifier(desk, 3, Sums.verifier(12, 3, 11));
        desk.register(3, 0, 13, 14);
        CHECK.due(0, "way", () -> desk.way(3));
        expectWord(desk, 3, Sums.word(3, 13));
        expectVerifier(desk, 3, Sums.fakeVerifier(SEED, 3));
        CHECK.due(true, "forget", () -> desk.forget(3));
        CHECK.due(false, "forget a second one", () -> desk.forget(3));
    }

    private static void words() {
        CHECK.sentence("RECORDS", "a word w, the scalar of digest(1, user, password), for way 0;");
        for (long password : new long[] {0, 1, -1, 1L << 32, Long.MIN_VALUE, Long.MAX_VALUE}) {
            for (int user : new int[] {0, 7}) {
                PakeDesk desk = new PakeDesk(SEED);
                desk.register(user, 0, password, 0);
                expectWord(desk, user, Sums.scalar(Sums.digest(1, user, password)));
            }
        }
    }

    private static void saltsAndVerifiers() {
        CHECK.sentence("RECORDS", "for way 1 a SALT and a verifier v, G to the power x, "
                + "x being the scalar of digest(2, salt, user, password).");
        for (long edge : new long[] {0, 1, -1, 1L << 32, Long.MIN_VALUE, Long.MAX_VALUE}) {
            for (int u : new int[] {0, 7}) {
                int user = u;
                PakeDesk desk = new PakeDesk(SEED);
                desk.register(user, 1, ~edge, edge);
                CHECK.due(edge, "salt", () -> desk.salt(user));
                expectVerifier(desk, user, Sums.power(4, Sums.scalar(Sums.digest(2, edge, user, ~edge))));
                expectSaltAtClient(desk, user, edge);
            }
        }
    }

    private static void fakesOfNoRecord() {
        CHECK.sentence("RECORDS", "For what is asked of a user without a record of a way there is a FAKE one");
        for (int user = 0; user < 8; user++) {
            PakeDesk desk = new PakeDesk(SEED);
            desk.register((user + 1) % 8, 0, 5, 6);
            desk.register((user + 7) % 8, 1, 5, 6);
            expectFakeWord(desk, user);
            expectFakeSaltAndVerifier(desk, user);
        }
    }

    private static void fakesOfAForgottenRecord() {
        CHECK.sentence("RECORDS", "For what is asked of a user without a record of a way there is a FAKE one");
        for (int way = 0; way < 2; way++) {
            PakeDesk desk = new PakeDesk(SEED);
            desk.register(6, way, 5, 6);
            desk.forget(6);
            expectFakeWord(desk, 6);
            expectFakeSaltAndVerifier(desk, 6);
        }
    }

    private static void fakesOfARecordOfTheOtherWay() {
        CHECK.sentence("RECORDS", "a user without a record of a way");
        for (int user = 0; user < 8; user++) {
            PakeDesk desk = new PakeDesk(SEED);
            desk.register(user, 1, 5, 6);
            expectFakeWord(desk, user);
            desk.register(user, 0, 5, 6);
            expectFakeSaltAndVerifier(desk, user);
        }
    }

    private static void fakesAreOfSeedAndUser() {
        CHECK.sentence("RECORDS", "its w is the scalar of digest(3, SEED, user), its salt digest(4, SEED, user), "
                + "its v G to the scalar of digest(5, SEED, user).");
        for (int seed : new int[] {0, 1, -1, Integer.MIN_VALUE, Integer.MAX_VALUE}) {
            for (int u : new int[] {0, 7}) {
                int user = u;
                PakeDesk desk = new PakeDesk(seed);
                CHECK.due(Sums.digest(4, seed, user), "salt", () -> desk.salt(user));
                expectWord(desk, user, Sums.scalar(Sums.digest(3, seed, user)));
                expectVerifier(desk, user, Sums.power(4, Sums.scalar(Sums.digest(5, seed, user))));
            }
        }
    }

    private static void expectFakeWord(PakeDesk desk, int user) {
        expectWord(desk, user, Sums.fakeWord(SEED, user));
    }

    private static void expectFakeSaltAndVerifier(PakeDesk desk, int user) {
        CHECK.due(Sums.fakeSalt(SEED, user), "salt of " + user, () -> desk.salt(user));
        expectVerifier(desk, user, Sums.fakeVerifier(SEED, user));
        expectSaltAtClient(desk, user, Sums.fakeSalt(SEED, user));
    }

    private static void expectWord(PakeDesk desk, int user, long word) {
        int server = Talk.serverAtConfirmation(desk, user, 0);
        CHECK.due(Sums.wordY(77, word), "Y, way 0, of user " + user, () -> desk.message(server));
    }

    private static void expectVerifier(PakeDesk desk, int user, long verifier) {
        int server = Talk.serverAtConfirmation(desk, user, 1);
        CHECK.due(Sums.saltY(77, verifier), "Y, way 1, of user " + user, () -> desk.message(server));
    }

    private static void expectSaltAtClient(PakeDesk desk, int user, long salt) {
        int client = desk.client(user, 1, 15, 16);
        long x = desk.message(client);
        desk.receive(client, 17);
        long key = Sums.saltKeyOfClient(user, x, 17, Sums.exponent(salt, user, 15), 16);
        CHECK.due(Sums.confirmationOfClient(key, x, 17), "C by the salt " + salt, () -> desk.message(client));
    }
}
