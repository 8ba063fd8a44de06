/** The term NUMBERS, at the edges that messages, salts and keys of a desk can show. */
public final class TermNumbersTest {
    private static final Check CHECK = new Check();
    private static final int USER = 5;
    private static final long SALT = 99;
    /** Passwords of user 5 whose word is 1 and Q - 1, found by trying all. */
    private static final long LEAST_WORD = 427503261L;
    private static final long MOST_WORD = 106358475L;
    /** Passwords of user 5 whose x, with the salt 99, is 1 and Q - 1. */
    private static final long LEAST_EXPONENT = 437968522L;
    private static final long MOST_EXPONENT = 1383578319L;

    public static void main(String[] args) {
        theModulus();
        productsAndPowersAreCut();
        zeroToAPower();
        theBases();
        elements();
        bytesOfPasswords();
        bytesOfSalts();
        bytesOfSeeds();
        scalarsOfSecrets();
        scalarsOfDigests();
        scalarsOfFakes();
        CHECK.end();
    }

    private static void theModulus() {
        CHECK.sentence("NUMBERS", "P is 2147483579, Q is 1073741789, both prime, P = 2 * Q + 1.");
        PakeDesk desk = new PakeDesk(0);
        int inside = desk.server(USER, 1, 1);
        int outside = desk.server(USER, 1, 1);
        CHECK.due(1, "receive P - 1", () -> desk.receive(inside, 2147483578L));
        CHECK.due(Check.WRONG_ARGUMENT, "receive P", () -> desk.receive(outside, 2147483579L));
        // 4 to the power Q - 1 is the number that is 1 when it is taken four times.
        expectPowerOfG(2147483574L, 536870895L);
        expectPowerOfG(2147483576L, 4);
    }

    private static void productsAndPowersAreCut() {
        CHECK.sentence("NUMBERS", "Products and powers are mod P");
        expectPowerOfG(Talk.secretOf(15), 1073741824L);
        expectPowerOfG(Talk.secretOf(16), 138);
        expectPowerOfG(Talk.secretOf(Sums.Q - 2), 1744830408L);
        expectFirstOfClient(LEAST_WORD, Talk.secretOf(15), 1073741824L * 9 % 2147483579L);
        expectFirstOfServer(LEAST_WORD, Talk.secretOf(15), 1073741824L * 25 % 2147483579L);
    }

    /** A client of way 1 shows the power of G at once. */
    private static void expectPowerOfG(long secret, long want) {
        PakeDesk desk = new PakeDesk(0);
        int client = desk.client(USER, 1, 1, secret);
        CHECK.due(want, "X of the secret " + secret, () -> desk.message(client));
    }

    private static void expectFirstOfClient(long password, long secret, long want) {
        PakeDesk desk = new PakeDesk(0);
        int client = desk.client(USER, 0, password, secret);
        CHECK.due(want, "X of the password " + password, () -> desk.message(client));
    }

    private static void expectFirstOfServer(long password, long secret, long want) {
        PakeDesk desk = new PakeDesk(0);
        desk.register(USER, 0, password, 0);
        int server = desk.server(USER, 0, secret);
        desk.receive(server, Sums.G);
        CHECK.due(want, "Y of the password " + password, () -> desk.message(server));
    }

    /** Y is three times G to x, so that the client's base is 0. */
    private static void zeroToAPower() {
        CHECK.sentence("NUMBERS", "(0 to a power above 0 is 0)");
        expectZeroToAPower(5, 44);
        expectZeroToAPower(5, -1);
        // With this secret the power is 1, the least above 0.
        expectZeroToAPower(6, Talk.secretOf(704283624L));
        // With this one it is 0, of which the document says nothing: the message is right all the same.
        PakeDesk desk = new PakeDesk(0);
        desk.register(USER, 1, 5, SALT);
        int client = desk.client(USER, 1, 5, Talk.secretOf(32714012L));
        CHECK.due(1, "Y", () -> desk.receive(client, Sums.times(3, Sums.verifier(SALT, USER, 5))));
    }

    private static void expectZeroToAPower(long password, long secret) {
        PakeDesk desk = new PakeDesk(0);
        desk.register(USER, 1, password, SALT);
        int client = desk.client(USER, 1, password, secret);
        long x = desk.message(client);
        long y = Sums.times(3, Sums.verifier(SALT, USER, password));
        long key = Sums.digest(8, USER, x, y, 0);
        CHECK.due(1, "Y", () -> desk.receive(client, y));
        CHECK.due(Sums.confirmationOfClient(key, x, y), "C", () -> desk.message(client));
        CHECK.due(2, "D", () -> desk.receive(client, Sums.confirmationOfServer(key, x, y)));
        CHECK.due(key, "key", () -> desk.key(client));
    }

    private static void theBases() {
        CHECK.sentence("NUMBERS", "G is 4, M 9, N 25.");
        expectPowerOfG(0, 4);
        expectFirstOfClient(LEAST_WORD, 0, 36);
        expectFirstOfServer(LEAST_WORD, 0, 100);
    }

    private static void elements() {
        CHECK.sentence("NUMBERS", "An ELEMENT is a number 1 .. P - 1 whose power Q is 1.");
        long p = Sums.P;
        for (long element : new long[] {1, 3, 4, 9, 25, p - 2}) {
            expectElement(element, "1");
        }
        for (long other : new long[] {0, 2, p - 4, p - 3, p - 1, p, -1, -2, Long.MIN_VALUE, Long.MAX_VALUE}) {
            expectElement(other, Check.WRONG_ARGUMENT);
        }
        // Their power Q is 1, but they are no numbers 1 .. P - 1.
        for (long far : new long[] {p + 1, p + 4, 2 * p + 4, 1 - p, 4 - p, -2 - p, 4 + (p << 31), 4 - (p << 31)}) {
            expectElement(far, Check.WRONG_ARGUMENT);
        }
    }

    private static void expectElement(long message, String want) {
        for (boolean client : new boolean[] {true, false}) {
            PakeDesk desk = new PakeDesk(0);
            desk.register(USER, 0, 8, 0);
            int session = Talk.begin(desk, client, USER, 0, 8, 1);
            CHECK.due(want, (client ? "client" : "server") + " receives " + message,
                    () -> desk.receive(session, message));
        }
    }

    private static void bytesOfPasswords() {
        CHECK.sentence("NUMBERS", "for each of them, for its eight bytes from the highest on");
        for (int shift = 0; shift < 64; shift += 8) {
            for (long part : new long[] {1, 127, 128, 255}) {
                long password = part << shift;
                expectFirstOfClient(password, 3, Sums.wordX(3, Sums.word(USER, password)));
                expectFirstOfServer(password, 3, Sums.wordY(3, Sums.word(USER, password)));
            }
        }
    }

    private static void bytesOfSalts() {
        CHECK.sentence("NUMBERS", "h = (h exclusive-or byte) * 1099511628211;");
        for (int shift = 0; shift < 64; shift += 8) {
            for (long part : new long[] {1, 128, 255}) {
                long salt = part << shift;
                PakeDesk desk = new PakeDesk(0);
                desk.register(USER, 1, ~salt, salt);
                int server = desk.server(USER, 1, 3);
                desk.receive(server, 2);
                CHECK.due(Sums.saltY(3, Sums.verifier(salt, USER, ~salt)), "Y of the salt " + salt,
                        () -> desk.message(server));
            }
        }
    }

    /** The fake salt is a digest as it is; the first one here is known from ../shared/tests. */
    private static void bytesOfSeeds() {
        CHECK.sentence("NUMBERS", "DIGEST of some longs: h = 1469598103934665603; for each of them, "
                + "for its eight bytes from the highest on: h = (h exclusive-or byte) * 1099511628211; then h = h exclusive-or (h >>> 32); h = h * -7046029254386353131; "
                + "h = h exclusive-or (h >>> 29) (longs that wrap).");
        PakeDesk desk = new PakeDesk(-3);
        CHECK.due(8084409265377706504L, "salt(3)", () -> desk.salt(3));
        for (int seed : new int[] {0, 1, 127, 128, 255, 256, 1 << 16, 1 << 24, Integer.MAX_VALUE, Integer.MIN_VALUE, -1}) {
            PakeDesk other = new PakeDesk(seed);
            CHECK.due(Sums.digest(4, seed, 0), "salt(0) of the seed " + seed, () -> other.salt(0));
            CHECK.due(Sums.digest(4, seed, 7), "salt(7) of the seed " + seed, () -> other.salt(7));
        }
    }

    private static void scalarsOfSecrets() {
        CHECK.sentence("NUMBERS", "The SCALAR of a long d: (d >>> 1) mod (Q - 1), and 1 more.");
        long q = Sums.Q;
        long[][] scalars = {
            {0, 1}, {1, 1}, {2, 2}, {3, 2},
            {2 * (q - 3), q - 2}, {2 * (q - 2), q - 1}, {2 * (q - 2) + 1, q - 1},
            {2 * (q - 1), 1}, {2 * (q - 1) + 1, 1}, {2 * q, 2}, {4 * (q - 1) - 1, q - 1}, {4 * (q - 1), 1},
            {-1, 10368}, {-2, 10368}, {Long.MIN_VALUE, 5185}, {Long.MIN_VALUE + 1, 5185},
            {Long.MIN_VALUE + 2, 5186}, {Long.MAX_VALUE, 5184},
        };
        for (long[] pair : scalars) {
            expectPowerOfG(pair[0], Sums.power(Sums.G, pair[1]));
            PakeDesk desk = new PakeDesk(0);
            int server = desk.server(USER, 1, pair[0]);
            desk.receive(server, 2);
            long y = (3 * Sums.fakeVerifier(0, USER) + Sums.power(Sums.G, pair[1])) % Sums.P;
            CHECK.due(y, "Y of the secret " + pair[0], () -> desk.message(server));
        }
    }

    private static void scalarsOfDigests() {
        CHECK.sentence("NUMBERS", "(d >>> 1) mod (Q - 1), and 1 more.");
        long least = 36;
        long most = Sums.over(4, 9);
        expectFirstOfClient(LEAST_WORD, 0, least);
        expectFirstOfClient(MOST_WORD, 0, most);
        expectFirstOfServer(LEAST_WORD, 0, 100);
        expectFirstOfServer(MOST_WORD, 0, Sums.over(4, 25));
        expectVerifier(LEAST_EXPONENT, 4);
        expectVerifier(MOST_EXPONENT, 536870895L);
        for (long password : new long[] {LEAST_WORD, MOST_WORD}) {
            expectOneKey(0, password);
        }
        for (long password : new long[] {LEAST_EXPONENT, MOST_EXPONENT}) {
            expectOneKey(1, password);
        }
    }

    private static void expectVerifier(long password, long verifier) {
        PakeDesk desk = new PakeDesk(0);
        desk.register(USER, 1, password, SALT);
        int server = desk.server(USER, 1, 0);
        desk.receive(server, 2);
        CHECK.due((3 * verifier + 4) % Sums.P, "Y of the password " + password, () -> desk.message(server));
    }

    private static void expectOneKey(int way, long password) {
        PakeDesk desk = new PakeDesk(0);
        desk.register(USER, way, password, SALT);
        int client = desk.client(USER, way, password, 1234567);
        int server = desk.server(USER, way, -7654321);
        Talk.whole(desk, client, server);
        CHECK.due(desk.key(server), "key of the password " + password, () -> desk.key(client));
    }

    /** Seeds that give user 1 a fake word, and user 0 a fake verifier, at one end of the scalars. */
    private static void scalarsOfFakes() {
        CHECK.sentence("NUMBERS", "(d >>> 1) mod (Q - 1), and 1 more.");
        expectFakeY(-1752881283, 1, 0, 100);
        expectFakeY(-1275861961, 1, 0, Sums.over(4, 25));
        expectFakeY(-71932072, 0, 1, 16);
        expectFakeY(186328277, 0, 1, (3 * 536870895L + 4) % Sums.P);
    }

    private static void expectFakeY(int seed, int user, int way, long want) {
        PakeDesk desk = new PakeDesk(seed);
        int server = desk.server(user, way, 0);
        desk.receive(server, Sums.G);
        CHECK.due(want, "Y of the seed " + seed, () -> desk.message(server));
    }
}
