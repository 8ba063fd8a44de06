/** The keys and confirmations of the term SESSIONS. */
public final class TermKeysTest {
    private static final Check CHECK = new Check();
    private static final int SEED = 29;
    private static final int USER = 5;
    private static final long PASSWORD = 5;
    private static final long SALT = 99;

    public static void main(String[] args) {
        keyByWordAtTheServer();
        keyByWordAtTheClient();
        keyBySaltAtTheClient();
        powersAtTheClientsEnds();
        saltWhenTheMessageComes();
        saltAfterTheMessageHasCome();
        keyBySaltAtTheServer();
        confirmations();
        oneBitOfAConfirmation();
        theOtherOnesConfirmation();
        confirmationOfAnotherKey();
        CHECK.end();
    }

    private static void keyByWordAtTheServer() {
        CHECK.sentence("SESSIONS", "THE KEY: way 0: digest(6, user, X, Y, T to s, w), T as above.");
        long word = Sums.word(USER, PASSWORD);
        long mask = Sums.power(Sums.M, word);
        for (long t : new long[] {4, Sums.over(1, 4), Sums.P - 2, Sums.over(1, mask)}) {
            for (long scalar : new long[] {1, 2, Sums.Q - 1}) {
                PakeDesk desk = new PakeDesk(SEED);
                desk.register(USER, 0, PASSWORD, 0);
                int server = desk.server(USER, 0, Talk.secretOf(scalar));
                long x = Sums.times(t, mask);
                long y = Sums.wordY(Talk.secretOf(scalar), word);
                expectServer(desk, server, x, y, Sums.digest(6, USER, x, y, Sums.power(t, scalar), word));
            }
        }
    }

    private static void keyByWordAtTheClient() {
        CHECK.sentence("SESSIONS", "THE KEY: way 0: digest(6, user, X, Y, T to s, w), T as above.");
        long word = Sums.word(USER, PASSWORD);
        long mask = Sums.power(Sums.N, word);
        for (long t : new long[] {4, Sums.over(1, 4), Sums.P - 2, Sums.over(1, mask)}) {
            for (long scalar : new long[] {1, 2, Sums.Q - 1}) {
                PakeDesk desk = new PakeDesk(SEED);
                int client = desk.client(USER, 0, PASSWORD, Talk.secretOf(scalar));
                long x = Sums.wordX(Talk.secretOf(scalar), word);
                long y = Sums.times(t, mask);
                expectClient(desk, client, x, y, Sums.digest(6, USER, x, y, Sums.power(t, scalar), word));
            }
        }
    }

    /** Y below, at and above three times G to x: the difference is below 0, 0 and above 0 before it is cut. */
    private static void keyBySaltAtTheClient() {
        CHECK.sentence("SESSIONS", "S being at the client (Y - 3 * (G to x)) mod P to the power (s + u * x) mod Q");
        long hidden = Sums.times(3, Sums.verifier(SALT, USER, PASSWORD));
        for (long y : new long[] {1, 2, hidden - 1, hidden, hidden + 1, Sums.P - 2, Sums.P - 1}) {
            expectSaltClient(77, y, Sums.saltKeyOfClient(USER, Sums.power(4, Sums.scalar(77)), y,
                    Sums.exponent(SALT, USER, PASSWORD), 77));
        }
    }

    /** With these Y, found by trying all, (s + u * x) mod Q is 0, 1 and Q - 1. */
    private static void powersAtTheClientsEnds() {
        CHECK.sentence("SESSIONS", "to the power (s + u * x) mod Q");
        long x = Sums.power(4, Sums.scalar(77));
        long hidden = Sums.times(3, Sums.verifier(SALT, USER, PASSWORD));
        long none = 1470756773L;
        expectSaltClient(77, none, Sums.digest(8, USER, x, none, 1));
        long once = 915047927L;
        expectSaltClient(77, once, Sums.digest(8, USER, x, once, Math.floorMod(once - hidden, Sums.P)));
        long most = 392128490L;
        long base = Math.floorMod(most - hidden, Sums.P);
        expectSaltClient(77, most, Sums.digest(8, USER, x, most, Sums.power(base, Sums.Q - 1)));
    }

    private static void expectSaltClient(long secret, long y, long key) {
        PakeDesk desk = new PakeDesk(SEED);
        desk.register(USER, 1, PASSWORD, SALT);
        int client = desk.client(USER, 1, PASSWORD, secret);
        expectClient(desk, client, Sums.power(4, Sums.scalar(secret)), y, key);
    }

    private static void saltWhenTheMessageComes() {
        CHECK.sentence("SESSIONS", "x with its password and the salt that the user's record (or the fake one) "
                + "has when Y comes;");
        PakeDesk desk = new PakeDesk(SEED);
        int first = desk.client(USER, 1, PASSWORD, 44);
        int second = desk.client(USER, 1, PASSWORD, 44);
        int third = desk.client(USER, 1, PASSWORD, 44);
        int fourth = desk.client(USER, 1, PASSWORD, 44);
        int fifth = desk.client(USER, 1, PASSWORD, 44);
        expectSalted(desk, first, Sums.fakeSalt(SEED, USER));
        desk.register(USER, 1, PASSWORD + 1, 0);
        expectSalted(desk, second, 0);
        desk.register(USER, 1, PASSWORD + 1, -1);
        expectSalted(desk, third, -1);
        desk.register(USER, 0, PASSWORD, 7);
        expectSalted(desk, fourth, Sums.fakeSalt(SEED, USER));
        desk.register(USER, 1, PASSWORD, 8);
        desk.forget(USER);
        expectSalted(desk, fifth, Sums.fakeSalt(SEED, USER));
    }

    private static void expectSalted(PakeDesk desk, int client, long salt) {
        long x = Sums.power(Sums.G, Sums.scalar(44));
        long key = Sums.saltKeyOfClient(USER, x, 7, Sums.exponent(salt, USER, PASSWORD), 44);
        CHECK.due(1, "Y", () -> desk.receive(client, 7));
        CHECK.due(Sums.confirmationOfClient(key, x, 7), "C by the salt " + salt, () -> desk.message(client));
    }

    private static void saltAfterTheMessageHasCome() {
        CHECK.sentence("SESSIONS", "the salt that the user's record (or the fake one) has when Y comes;");
        PakeDesk desk = new PakeDesk(SEED);
        desk.register(USER, 1, PASSWORD, SALT);
        int client = desk.client(USER, 1, PASSWORD, 44);
        int server = desk.server(USER, 1, 45);
        desk.pass(client, server, 0);
        desk.pass(server, client, 0);
        desk.register(USER, 1, PASSWORD, SALT + 1);
        CHECK.due(2, "C", () -> desk.pass(client, server, 0));
        desk.forget(USER);
        CHECK.due(2, "D", () -> desk.pass(server, client, 0));
        CHECK.due(desk.key(server), "key", () -> desk.key(client));
    }

    /** With the last two X, found by trying all, u is 1 and Q - 1. */
    private static void keyBySaltAtTheServer() {
        CHECK.sentence("SESSIONS", "at the server X times (v to u), to the power s.");
        long verifier = Sums.verifier(SALT, USER, PASSWORD);
        for (long x : new long[] {1, 2, Sums.P - 2, Sums.P - 1}) {
            for (long scalar : new long[] {1, 2, Sums.Q - 1}) {
                long secret = Talk.secretOf(scalar);
                long y = Sums.saltY(secret, verifier);
                expectSaltServer(secret, x, y, Sums.saltKeyOfServer(USER, x, y, verifier, secret));
            }
        }
        long s = Sums.scalar(78);
        long y = Sums.saltY(78, verifier);
        long least = 184191298L;
        expectSaltServer(78, least, y, Sums.digest(8, USER, least, y, Sums.power(Sums.times(least, verifier), s)));
        long most = 313578301L;
        expectSaltServer(78, most, y, Sums.digest(8, USER, most, y, Sums.power(Sums.over(most, verifier), s)));
    }

    private static void expectSaltServer(long secret, long x, long y, long key) {
        PakeDesk desk = new PakeDesk(SEED);
        desk.register(USER, 1, PASSWORD, SALT);
        int server = desk.server(USER, 1, secret);
        expectServer(desk, server, x, y, key);
    }

    private static void expectServer(PakeDesk desk, int server, long x, long y, long key) {
        CHECK.due(1, "X", () -> desk.receive(server, x));
        CHECK.due(y, "Y", () -> desk.message(server));
        CHECK.due(2, "C", () -> desk.receive(server, Sums.confirmationOfClient(key, x, y)));
        CHECK.due(Sums.confirmationOfServer(key, x, y), "D", () -> desk.message(server));
        CHECK.due(key, "key", () -> desk.key(server));
    }

    private static void expectClient(PakeDesk desk, int client, long x, long y, long key) {
        CHECK.due(x, "X", () -> desk.message(client));
        CHECK.due(1, "Y", () -> desk.receive(client, y));
        CHECK.due(Sums.confirmationOfClient(key, x, y), "C", () -> desk.message(client));
        CHECK.due(2, "D", () -> desk.receive(client, Sums.confirmationOfServer(key, x, y)));
        CHECK.due(key, "key", () -> desk.key(client));
    }

    private static void confirmations() {
        CHECK.sentence("SESSIONS", "C is digest(9, key, X, Y), D is digest(10, key, C).");
        for (int way = 0; way < 2; way++) {
            PakeDesk desk = pairAtC(way);
            long x = Sums.power(4, Sums.scalar(3));
            long word = Sums.word(USER, PASSWORD);
            long firstOfClient = way == 0 ? Sums.times(x, Sums.power(9, word)) : x;
            long firstOfServer = desk.message(1);
            long c = desk.message(0);
            desk.pass(0, 1, 0);
            long key = desk.key(1);
            CHECK.same(Sums.digest(9, key, firstOfClient, firstOfServer), "C", c);
            CHECK.due(Sums.digest(10, key, c), "D", () -> desk.message(1));
        }
    }

    /** The client 0 has C as message, the server 1 waits for it, and the server 2 has another secret. */
    private static PakeDesk pairAtC(int way) {
        PakeDesk desk = new PakeDesk(SEED);
        desk.register(USER, way, PASSWORD, SALT);
        int client = desk.client(USER, way, PASSWORD, 3);
        int server = desk.server(USER, way, 4);
        int other = desk.server(USER, way, 6);
        desk.pass(client, server, 0);
        desk.pass(client, other, 0);
        desk.pass(server, client, 0);
        return desk;
    }

    private static void oneBitOfAConfirmation() {
        CHECK.sentence("SESSIONS", "A server that receives C, a client that receives D, is FINISHED "
                + "if it is what it must be with its own key; otherwise it FAILS.");
        for (int way = 0; way < 2; way++) {
            for (int bit = 0; bit < 64; bit++) {
                long bits = 1L << bit;
                PakeDesk atServer = pairAtC(way);
                expectFails(atServer, 1, atServer.message(0) ^ bits);
                PakeDesk atClient = pairAtC(way);
                CHECK.due(2, "C", () -> atClient.pass(0, 1, 0));
                expectFails(atClient, 0, atClient.message(1) ^ bits);
            }
            PakeDesk right = pairAtC(way);
            CHECK.due(2, "C", () -> right.pass(0, 1, 0));
            CHECK.due(2, "D", () -> right.pass(1, 0, 0));
        }
    }

    private static void expectFails(PakeDesk desk, int session, long message) {
        CHECK.due(Check.WRONG_CONFIRMATION, "receive " + message, () -> desk.receive(session, message));
        CHECK.due(3, "state after " + message, () -> desk.state(session));
    }

    /** D is no C, C is no D, and neither is nothing at all. */
    private static void theOtherOnesConfirmation() {
        CHECK.sentence("SESSIONS", "A server that receives C, a client that receives D, is FINISHED");
        for (int way = 0; way < 2; way++) {
            PakeDesk known = pairAtC(way);
            long c = known.message(0);
            known.pass(0, 1, 0);
            long d = known.message(1);
            for (long wrong : new long[] {d, 0, -1, ~c}) {
                expectFails(pairAtC(way), 1, wrong);
            }
            for (long wrong : new long[] {c, 0, -1, ~d}) {
                expectFails(pairAtC(way), 0, wrong);
            }
            PakeDesk early = pairAtC(way);
            CHECK.due(2, "D before the server has C", () -> early.receive(0, d));
        }
    }

    private static void confirmationOfAnotherKey() {
        CHECK.sentence("SESSIONS", "if it is what it must be with its own key; otherwise it FAILS.");
        for (int way = 0; way < 2; way++) {
            PakeDesk desk = pairAtC(way);
            expectFails(desk, 2, desk.message(0));
            CHECK.due(2, "C where it belongs", () -> desk.pass(0, 1, 0));
            PakeDesk other = pairAtC(way);
            int guesser = other.client(USER, way, PASSWORD + 1, 3);
            CHECK.due(1, "Y at a client with another password", () -> other.pass(1, guesser, 0));
            expectFails(other, 1, other.message(guesser));
        }
    }
}
