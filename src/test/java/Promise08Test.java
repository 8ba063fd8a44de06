/** Promise 8: receive. */
public final class Promise08Test {
    private static final Check CHECK = new Check();
    private static final String NO_SESSION = "throws.NoSuchElementException";
    private static final String NOT_WAITING = "throws.IllegalStateException";
    private static final String WRONG_FIRST = "throws.IllegalArgumentException";
    private static final String WRONG_CONFIRMATION = "throws.UnsupportedOperationException";
    private static final int SEED = 31;
    private static final int USER = 6;

    public static void main(String[] args) {
        wholeServerOfWord();
        wholeClientOfWord();
        wholeServerOfSalt();
        wholeClientOfSalt();
        wrongFirstMessagesOfWord();
        wrongFirstMessagesOfSalt();
        rightFirstMessagesAtTheEdge();
        wrongConfirmations();
        noSuchSession();
        notWaiting();
        expired();
        expiredAtTheConfirmation();
        CHECK.end();
    }

    private static void wholeServerOfWord() {
        CHECK.sentence("Promise 8", "A session receives a message: the state that it has then.");
        PakeDesk desk = new PakeDesk(SEED);
        desk.register(USER, 0, 5, 0);
        int server = desk.server(USER, 0, -8);
        long word = Sums.word(USER, 5);
        long x = Sums.power(Sums.G, 4321);
        long y = Sums.wordY(-8, word);
        expectWholeServer(desk, server, x, y, Sums.wordKey(USER, x, y, x, Sums.M, word, -8));
    }

    private static void wholeServerOfSalt() {
        CHECK.sentence("Promise 8", "A session receives a message: the state that it has then.");
        PakeDesk desk = new PakeDesk(SEED);
        desk.register(USER, 1, 5, 99);
        int server = desk.server(USER, 1, -8);
        long verifier = Sums.verifier(99, USER, 5);
        long x = 2;
        long y = Sums.saltY(-8, verifier);
        expectWholeServer(desk, server, x, y, Sums.saltKeyOfServer(USER, x, y, verifier, -8));
    }

    private static void expectWholeServer(PakeDesk desk, int server, long x, long y, long key) {
        CHECK.due(1, "X", () -> desk.receive(server, x));
        CHECK.due(y, "Y", () -> desk.message(server));
        CHECK.due(2, "C", () -> desk.receive(server, Sums.confirmationOfClient(key, x, y)));
        CHECK.due(Sums.confirmationOfServer(key, x, y), "D", () -> desk.message(server));
        CHECK.due(key, "key", () -> desk.key(server));
    }

    private static void wholeClientOfWord() {
        CHECK.sentence("Promise 8", "A session receives a message: the state that it has then.");
        PakeDesk desk = new PakeDesk(SEED);
        int client = desk.client(USER, 0, 5, -8);
        long word = Sums.word(USER, 5);
        long x = Sums.wordX(-8, word);
        long y = Sums.power(Sums.G, 987654);
        expectWholeClient(desk, client, x, y, Sums.wordKey(USER, x, y, y, Sums.N, word, -8));
    }

    private static void wholeClientOfSalt() {
        CHECK.sentence("Promise 8", "A session receives a message: the state that it has then.");
        PakeDesk desk = new PakeDesk(SEED);
        int client = desk.client(USER, 1, 5, -8);
        long x = Sums.power(Sums.G, Sums.scalar(-8));
        long y = 3;
        long exponent = Sums.exponent(Sums.fakeSalt(SEED, USER), USER, 5);
        expectWholeClient(desk, client, x, y, Sums.saltKeyOfClient(USER, x, y, exponent, -8));
    }

    private static void expectWholeClient(PakeDesk desk, int client, long x, long y, long key) {
        CHECK.due(x, "X", () -> desk.message(client));
        CHECK.due(1, "Y", () -> desk.receive(client, y));
        CHECK.due(Sums.confirmationOfClient(key, x, y), "C", () -> desk.message(client));
        CHECK.due(2, "D", () -> desk.receive(client, Sums.confirmationOfServer(key, x, y)));
        CHECK.due(Sums.confirmationOfClient(key, x, y), "still C", () -> desk.message(client));
        CHECK.due(key, "key", () -> desk.key(client));
    }

    private static void wrongFirstMessagesOfWord() {
        CHECK.sentence("Promise 8", "IllegalArgumentException if it is a first message that is not right");
        long word = Sums.word(USER, 5);
        long element = Sums.power(Sums.G, 55);
        long[] wrong = {0, -1, 2, Sums.P - 1, Sums.P, Sums.P + 1, Sums.P + element, element - Sums.P,
            Sums.P - element, element | 1L << 32, Long.MIN_VALUE, Long.MAX_VALUE};
        for (long message : wrong) {
            expectWrongFirst(0, true, message);
            expectWrongFirst(0, false, message);
        }
        expectWrongFirst(0, false, Sums.power(Sums.M, word));
        expectWrongFirst(0, true, Sums.power(Sums.N, word));
    }

    private static void wrongFirstMessagesOfSalt() {
        CHECK.sentence("Promise 8", "IllegalArgumentException if it is a first message that is not right");
        for (long message : new long[] {0, -1, Sums.P, Sums.P + 1, 1L << 32, Long.MIN_VALUE, Long.MAX_VALUE}) {
            expectWrongFirst(1, true, message);
            expectWrongFirst(1, false, message);
        }
    }

    private static int begin(PakeDesk desk, int way, boolean client) {
        desk.register(USER, way, 5, 99);
        return client ? desk.client(USER, way, 5, 1) : desk.server(USER, way, 1);
    }

    private static void expectWrongFirst(int way, boolean client, long message) {
        PakeDesk desk = new PakeDesk(SEED);
        int session = begin(desk, way, client);
        long before = desk.message(session);
        String what = (client ? "client" : "server") + " of way " + way + " receives " + message;
        CHECK.due(WRONG_FIRST, what, () -> desk.receive(session, message));
        CHECK.due(3, what + ": state", () -> desk.state(session));
        CHECK.due(before, what + ": message", () -> desk.message(session));
        CHECK.due(NOT_WAITING, what + " again", () -> desk.receive(session, message));
        CHECK.due(NOT_WAITING, what + ": key", () -> desk.key(session));
    }

    private static void rightFirstMessagesAtTheEdge() {
        CHECK.sentence("Promise 8", "IllegalArgumentException if it is a first message that is not right");
        long word = Sums.word(USER, 5);
        long masked = Sums.times(Sums.G, Sums.power(Sums.M, word));
        for (long message : new long[] {1, Sums.G, Sums.M, Sums.N, masked, Sums.P - 2}) {
            boolean element = Sums.element(message);
            expectFirst(0, true, message, element ? "1" : WRONG_FIRST);
            expectFirst(0, false, message, element ? "1" : WRONG_FIRST);
        }
        expectFirst(0, true, Sums.power(Sums.M, word), "1");
        expectFirst(0, false, Sums.power(Sums.N, word), "1");
        for (long message : new long[] {1, 2, Sums.P - 2, Sums.P - 1}) {
            expectFirst(1, true, message, "1");
            expectFirst(1, false, message, "1");
        }
    }

    private static void expectFirst(int way, boolean client, long message, String want) {
        PakeDesk desk = new PakeDesk(SEED);
        int session = begin(desk, way, client);
        CHECK.due(want, "first message " + message + " of way " + way, () -> desk.receive(session, message));
    }

    private static void wrongConfirmations() {
        CHECK.sentence("Promise 8", "UnsupportedOperationException if it is a confirmation that is not: the session fails.");
        for (int way = 0; way < 2; way++) {
            for (int bit = 0; bit < 64; bit += 21) {
                PakeDesk desk = new PakeDesk(SEED);
                desk.register(USER, way, 5, 9);
                int client = desk.client(USER, way, 5, 1);
                int server = desk.server(USER, way, 2);
                int other = desk.server(USER, way, 2);
                desk.pass(client, server, 0);
                desk.pass(client, other, 0);
                desk.pass(server, client, 0);
                long c = desk.message(client);
                long flip = 1L << bit;
                long y = desk.message(server);
                CHECK.due(WRONG_CONFIRMATION, "C altered", () -> desk.receive(server, c ^ flip));
                CHECK.due(3, "state", () -> desk.state(server));
                CHECK.due(y, "message", () -> desk.message(server));
                CHECK.due(NOT_WAITING, "C too late", () -> desk.receive(server, c));
                CHECK.due(2, "C", () -> desk.receive(other, c));
                long d = desk.message(other);
                CHECK.due(WRONG_CONFIRMATION, "D altered", () -> desk.receive(client, d ^ flip));
                CHECK.due(3, "state", () -> desk.state(client));
                CHECK.due(NOT_WAITING, "D too late", () -> desk.receive(client, d));
            }
        }
    }

    private static void noSuchSession() {
        CHECK.sentence("Promise 8", "NoSuchElementException if there is none such.");
        PakeDesk desk = new PakeDesk(SEED);
        CHECK.due(NO_SESSION, "receive(0) of none", () -> desk.receive(0, 1));
        desk.client(0, 0, 1, 1);
        for (int session : new int[] {-1, 1, 39, 40, 41, Integer.MIN_VALUE, Integer.MAX_VALUE}) {
            CHECK.due(NO_SESSION, "receive " + session, () -> desk.receive(session, 1));
        }
        Talk.fill(desk, 39);
        CHECK.due(NO_SESSION, "receive(40) of forty", () -> desk.receive(40, 1));
        CHECK.due(1, "receive(39) of forty", () -> desk.receive(39, Sums.G));
        CHECK.due(1, "receive(0) of forty", () -> desk.receive(0, Sums.G));
    }

    private static void notWaiting() {
        CHECK.sentence("Promise 8", "IllegalStateException if it does not wait for one.");
        PakeDesk desk = new PakeDesk(SEED);
        desk.register(USER, 1, 5, 9);
        int client = desk.client(USER, 1, 5, 1);
        int server = desk.server(USER, 1, 2);
        Talk.whole(desk, client, server);
        long c = desk.message(client);
        long d = desk.message(server);
        CHECK.due(NOT_WAITING, "C again", () -> desk.receive(server, c));
        CHECK.due(NOT_WAITING, "D again", () -> desk.receive(client, d));
        CHECK.due(NOT_WAITING, "0 at the end", () -> desk.receive(client, 0));
        CHECK.due(2, "state", () -> desk.state(client));
        CHECK.due(d, "message", () -> desk.message(server));
    }

    private static void expired() {
        CHECK.sentence("Promise 8", "IllegalStateException if it does not wait for one.");
        PakeDesk desk = new PakeDesk(SEED);
        desk.tick(3);
        int first = desk.server(USER, 1, 2);
        int second = desk.server(USER, 1, 2);
        desk.tick(19);
        CHECK.due(1, "X after 19 ticks", () -> desk.receive(first, 2));
        desk.tick(1);
        CHECK.due(NOT_WAITING, "X after 20 ticks", () -> desk.receive(second, 2));
        CHECK.due(NOT_WAITING, "a wrong X after 20 ticks", () -> desk.receive(second, 0));
        CHECK.due(0, "no Y", () -> desk.message(second));
        CHECK.due(NOT_WAITING, "a wrong C after 20 ticks", () -> desk.receive(first, 0));
        CHECK.due(4, "state", () -> desk.state(first));
    }

    private static void expiredAtTheConfirmation() {
        CHECK.sentence("Promise 8", "IllegalStateException if it does not wait for one.");
        for (int way = 0; way < 2; way++) {
            PakeDesk desk = new PakeDesk(SEED);
            desk.register(USER, way, 5, 9);
            int client = desk.client(USER, way, 5, 1);
            int late = desk.client(USER, way, 5, 1);
            int server = desk.server(USER, way, 2);
            int lateServer = desk.server(USER, way, 2);
            desk.pass(client, server, 0);
            desk.pass(client, lateServer, 0);
            desk.pass(server, client, 0);
            desk.pass(server, late, 0);
            desk.tick(19);
            long c = desk.message(client);
            CHECK.due(2, "C after 19 ticks", () -> desk.receive(server, c));
            long d = desk.message(server);
            CHECK.due(2, "D after 19 ticks", () -> desk.receive(client, d));
            desk.tick(1);
            CHECK.due(NOT_WAITING, "C after 20 ticks", () -> desk.receive(lateServer, c));
            CHECK.due(NOT_WAITING, "D after 20 ticks", () -> desk.receive(late, d));
            CHECK.due(4, "state of the server", () -> desk.state(lateServer));
            CHECK.due(4, "state of the client", () -> desk.state(late));
        }
    }
}
