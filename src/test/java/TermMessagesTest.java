import java.util.Set;
import java.util.TreeSet;

/** The messages of the term SESSIONS: what each is, and what is right as the first one. */
public final class TermMessagesTest {
    private static final Check CHECK = new Check();
    private static final int SEED = 23;
    private static final int USER = 5;
    private static final long PASSWORD = 5;
    private static final long SALT = 99;

    public static void main(String[] args) {
        firstOfClientByWord();
        firstOfClientBySalt();
        firstOfServerByWord();
        firstOfServerBySalt();
        messagesInTheirOrder();
        rightByWordAtTheServer();
        rightByWordAtTheClient();
        rightByTheWordOfTheSession();
        rightBySalt();
        whatIsNotRightFails();
        CHECK.end();
    }

    private static void firstOfClientByWord() {
        CHECK.sentence("SESSIONS", "A client has its first message, X, at once: way 0: G to s, times M to w "
                + "(w from its password);");
        PakeDesk desk = new PakeDesk(SEED);
        long x = Sums.times(Sums.power(4, Sums.scalar(31)), Sums.power(9, Sums.word(USER, PASSWORD)));
        for (long kept : new long[] {PASSWORD, PASSWORD + 1}) {
            desk.register(USER, 0, kept, 0);
            int client = desk.client(USER, 0, PASSWORD, 31);
            CHECK.due(x, "X with a record of the password " + kept, () -> desk.message(client));
        }
        desk.register(USER, 1, PASSWORD, 0);
        int other = desk.client(USER, 0, PASSWORD, 31);
        CHECK.due(x, "X with a record of the other way", () -> desk.message(other));
        desk.forget(USER);
        int none = desk.client(USER, 0, PASSWORD, 31);
        CHECK.due(x, "X without a record", () -> desk.message(none));
    }

    private static void firstOfClientBySalt() {
        CHECK.sentence("SESSIONS", "way 1: G to s.");
        PakeDesk desk = new PakeDesk(SEED);
        for (long password : new long[] {0, PASSWORD, -1}) {
            int client = desk.client(USER, 1, password, 31);
            CHECK.due(Sums.power(4, Sums.scalar(31)), "X, whatever the password", () -> desk.message(client));
        }
    }

    private static void firstOfServerByWord() {
        CHECK.sentence("SESSIONS", "A server that RECEIVES X has the message Y: way 0: G to s, times N to w;");
        PakeDesk desk = new PakeDesk(SEED);
        desk.register(USER, 0, PASSWORD, 0);
        long y = Sums.times(Sums.power(4, Sums.scalar(31)), Sums.power(25, Sums.word(USER, PASSWORD)));
        for (long x : new long[] {1, 4, Sums.P - 2}) {
            int server = desk.server(USER, 0, 31);
            CHECK.due(0, "no message before X", () -> desk.message(server));
            CHECK.due(1, "X", () -> desk.receive(server, x));
            CHECK.due(y, "Y, whatever X was", () -> desk.message(server));
        }
    }

    /** The sum before it is cut is below P, or P, or 2 * P, or 3 * P at least: all four come. */
    private static void firstOfServerBySalt() {
        CHECK.sentence("SESSIONS", "way 1: (3 * v + G to s) mod P.");
        Set<Long> cuts = new TreeSet<>();
        for (int i = 0; i < 40; i++) {
            PakeDesk desk = new PakeDesk(SEED);
            desk.register(USER, 1, i, SALT);
            int server = desk.server(USER, 1, 7 * i);
            desk.receive(server, 2);
            long sum = 3 * Sums.verifier(SALT, USER, i) + Sums.power(4, Sums.scalar(7 * i));
            cuts.add(sum / Sums.P);
            CHECK.due(sum % Sums.P, "Y", () -> desk.message(server));
        }
        CHECK.same("[0, 1, 2, 3]", "how often P is taken away", cuts);
    }

    private static void messagesInTheirOrder() {
        CHECK.sentence("SESSIONS", "A client that receives Y has its confirmation C as message, "
                + "a server that receives C has D");
        for (int way = 0; way < 2; way++) {
            PakeDesk desk = new PakeDesk(SEED);
            desk.register(USER, way, PASSWORD, SALT);
            int client = desk.client(USER, way, PASSWORD, 3);
            int server = desk.server(USER, way, 4);
            long x = desk.message(client);
            desk.pass(client, server, 0);
            long y = desk.message(server);
            CHECK.due(x, "the client's message before Y", () -> desk.message(client));
            desk.pass(server, client, 0);
            long c = desk.message(client);
            CHECK.due(y, "the server's message before C", () -> desk.message(server));
            desk.pass(client, server, 0);
            long key = desk.key(server);
            CHECK.same(Sums.confirmationOfClient(key, x, y), "C", c);
            CHECK.due(Sums.confirmationOfServer(key, x, y), "D", () -> desk.message(server));
            desk.pass(server, client, 0);
            CHECK.due(c, "the client's message at the end", () -> desk.message(client));
        }
    }

    private static void rightByWordAtTheServer() {
        CHECK.sentence("SESSIONS", "with M (of X) or N (of Y) to w, T = e / that is not 1;");
        long word = Sums.word(USER, PASSWORD);
        long mask = Sums.power(Sums.M, word);
        expectFirst(false, 0, mask, Check.WRONG_ARGUMENT);
        expectFirst(false, 0, Sums.times(mask, 4), "1");
        expectFirst(false, 0, Sums.over(mask, 4), "1");
        expectFirst(false, 0, Sums.over(1, mask), "1");
        expectFirst(false, 0, Sums.power(Sums.N, word), "1");
        expectFirst(false, 0, 1, "1");
        // T is P - 1, but then e is no element.
        expectFirst(false, 0, Sums.P - mask, Check.WRONG_ARGUMENT);
        expectFirst(false, 0, Sums.P + mask, Check.WRONG_ARGUMENT);
    }

    private static void rightByWordAtTheClient() {
        CHECK.sentence("SESSIONS", "with M (of X) or N (of Y) to w, T = e / that is not 1;");
        long word = Sums.word(USER, PASSWORD);
        long mask = Sums.power(Sums.N, word);
        expectFirst(true, 0, mask, Check.WRONG_ARGUMENT);
        expectFirst(true, 0, Sums.times(mask, 4), "1");
        expectFirst(true, 0, Sums.over(mask, 4), "1");
        expectFirst(true, 0, Sums.over(1, mask), "1");
        expectFirst(true, 0, Sums.power(Sums.M, word), "1");
        expectFirst(true, 0, 1, "1");
        expectFirst(true, 0, Sums.P - mask, Check.WRONG_ARGUMENT);
        expectFirst(true, 0, Sums.P + mask, Check.WRONG_ARGUMENT);
    }

    /** A client's word is of its password, a server's of the record or the fake one. */
    private static void rightByTheWordOfTheSession() {
        CHECK.sentence("SESSIONS", "with M (of X) or N (of Y) to w, T = e / that is not 1;");
        PakeDesk desk = new PakeDesk(SEED);
        long fake = Sums.fakeWord(SEED, USER);
        int served = desk.server(USER, 0, 1);
        int servedToo = desk.server(USER, 0, 1);
        CHECK.due(Check.WRONG_ARGUMENT, "M to the fake word",
                () -> desk.receive(served, Sums.power(Sums.M, fake)));
        CHECK.due(1, "M to another word",
                () -> desk.receive(servedToo, Sums.power(Sums.M, Sums.word(USER, PASSWORD))));
        desk.register(USER, 0, PASSWORD, 0);
        int client = desk.client(USER, 0, PASSWORD + 1, 1);
        int clientToo = desk.client(USER, 0, PASSWORD + 1, 1);
        CHECK.due(1, "N to the word of the record",
                () -> desk.receive(client, Sums.power(Sums.N, Sums.word(USER, PASSWORD))));
        CHECK.due(Check.WRONG_ARGUMENT, "N to the word of its password",
                () -> desk.receive(clientToo, Sums.power(Sums.N, Sums.word(USER, PASSWORD + 1))));
    }

    private static void rightBySalt() {
        CHECK.sentence("SESSIONS", "way 1: not 0, and from 1 to P - 1.");
        long p = Sums.P;
        for (boolean client : new boolean[] {true, false}) {
            for (long right : new long[] {1, 2, 3, 4, p - 3, p - 2, p - 1}) {
                expectFirst(client, 1, right, "1");
            }
            for (long wrong : new long[] {0, -1, -2, p, p + 1, 2 * p, 2 * p - 1, -p, 1 - p, -p - 1, 1L << 31, 1L << 32,
                1 + (1L << 32), Long.MIN_VALUE, Long.MIN_VALUE + 1, Long.MAX_VALUE}) {
                expectFirst(client, 1, wrong, Check.WRONG_ARGUMENT);
            }
        }
    }

    private static void whatIsNotRightFails() {
        CHECK.sentence("SESSIONS", "Otherwise it FAILS.");
        for (int way = 0; way < 2; way++) {
            for (boolean client : new boolean[] {true, false}) {
                PakeDesk desk = new PakeDesk(SEED);
                int session = Talk.begin(desk, client, USER, way, PASSWORD, 1);
                Check.answer(() -> desk.receive(session, 0));
                CHECK.due(3, "state of a " + (client ? "client" : "server"), () -> desk.state(session));
                CHECK.due(Check.WRONG_STATE, "a right one afterwards", () -> desk.receive(session, Sums.G));
            }
        }
    }

    private static void expectFirst(boolean client, int way, long message, String want) {
        PakeDesk desk = new PakeDesk(SEED);
        desk.register(USER, way, PASSWORD, SALT);
        int session = Talk.begin(desk, client, USER, way, PASSWORD, 1);
        String what = (client ? "client" : "server") + " of way " + way + " receives " + message;
        CHECK.due(want, what, () -> desk.receive(session, message));
        CHECK.due(want.equals("1") ? 1 : 3, what + ": state", () -> desk.state(session));
    }
}
