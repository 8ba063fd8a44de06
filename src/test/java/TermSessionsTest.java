/** The term SESSIONS: their number, their states and their life. */
public final class TermSessionsTest {
    private static final Check CHECK = new Check();
    private static final int SEED = 19;
    private static final int USER = 2;

    public static void main(String[] args) {
        fortyAndNoMore();
        theEndedMakeNoRoom();
        theRefusedTakeNoNumber();
        wordOfTheBeginning();
        verifierOfTheBeginning();
        theClock();
        statesOfAnExchange();
        lifeOfWaitingOnes();
        lifeIsNotMadeLonger();
        lifeCountsFromTheBeginning();
        theEndedDoNotExpire();
        CHECK.end();
    }

    private static void fortyAndNoMore() {
        CHECK.sentence("SESSIONS", "SESSIONS are numbered from 0 on, at most 40, of a CLIENT or a SERVER");
        for (int shift = 0; shift < 2; shift++) {
            PakeDesk desk = new PakeDesk(SEED);
            for (int n = 0; n < 40; n++) {
                boolean client = (n + shift) % 2 == 0;
                int user = n % 8;
                CHECK.due(n, "the session " + n, () -> Talk.begin(desk, client, user, 0, 1, 1));
            }
            CHECK.due(Check.WRONG_STATE, "one client more", () -> desk.client(0, 0, 1, 1));
            CHECK.due(Check.WRONG_STATE, "one server more", () -> desk.server(0, 0, 1));
            CHECK.due(40, "sessions()", desk::sessions);
            CHECK.due(0, "state(39)", () -> desk.state(39));
            CHECK.due(-1, "state(40)", () -> desk.state(40));
        }
    }

    private static void theEndedMakeNoRoom() {
        CHECK.sentence("SESSIONS", "at most 40");
        PakeDesk desk = new PakeDesk(SEED);
        desk.register(USER, 1, 5, 6);
        Talk.whole(desk, desk.client(USER, 1, 5, 1), desk.server(USER, 1, 2));
        Talk.failure(desk, USER);
        Talk.fill(desk, 37);
        desk.tick(100);
        CHECK.due(2, "a finished one", () -> desk.state(0));
        CHECK.due(3, "a failed one", () -> desk.state(2));
        CHECK.due(4, "an expired one", () -> desk.state(3));
        CHECK.due(Check.WRONG_STATE, "one client more", () -> desk.client(USER, 1, 5, 1));
        CHECK.due(Check.WRONG_STATE, "one server more", () -> desk.server(USER, 1, 1));
    }

    private static void theRefusedTakeNoNumber() {
        CHECK.sentence("SESSIONS", "SESSIONS are numbered from 0 on");
        PakeDesk desk = new PakeDesk(SEED);
        CHECK.due(Check.WRONG_ARGUMENT, "a client of no user", () -> desk.client(8, 0, 1, 1));
        CHECK.due(Check.WRONG_ARGUMENT, "a server of no way", () -> desk.server(0, 2, 1));
        CHECK.due(0, "the first one", () -> desk.client(0, 0, 1, 1));
        Talk.failures(desk, USER, 3);
        CHECK.due(Check.WRONG_STATE, "a server of one blocked", () -> desk.server(USER, 0, 1));
        CHECK.due(4, "the next one", () -> desk.server(0, 0, 1));
    }

    /** The word is in the test of the first message, in Y and in the key. */
    private static void wordOfTheBeginning() {
        CHECK.sentence("SESSIONS", "a server takes w, or v, from the record at its beginning.");
        long old = Sums.word(USER, 5);
        long fresh = Sums.word(USER, 6);
        PakeDesk desk = new PakeDesk(SEED);
        int early = desk.server(USER, 0, 9);
        desk.register(USER, 0, 5, 0);
        int first = desk.server(USER, 0, 9);
        int second = desk.server(USER, 0, 9);
        int third = desk.server(USER, 0, 9);
        desk.register(USER, 0, 6, 0);
        expectWordServer(desk, first, Sums.power(Sums.M, fresh), old);
        CHECK.due(Check.WRONG_ARGUMENT, "M to the word of the beginning",
                () -> desk.receive(second, Sums.power(Sums.M, old)));
        desk.forget(USER);
        expectWordServer(desk, third, Sums.G, old);
        expectWordServer(desk, early, Sums.G, Sums.fakeWord(SEED, USER));
    }

    private static void expectWordServer(PakeDesk desk, int server, long x, long word) {
        long y = Sums.wordY(9, word);
        long key = Sums.wordKey(USER, x, y, x, Sums.M, word, 9);
        CHECK.due(1, "X", () -> desk.receive(server, x));
        CHECK.due(y, "Y", () -> desk.message(server));
        // Between the messages the record may change once more.
        desk.register(USER, 0, 7, 8);
        CHECK.due(2, "C", () -> desk.receive(server, Sums.confirmationOfClient(key, x, y)));
        CHECK.due(key, "key", () -> desk.key(server));
    }

    private static void verifierOfTheBeginning() {
        CHECK.sentence("SESSIONS", "a server takes w, or v, from the record at its beginning.");
        PakeDesk desk = new PakeDesk(SEED);
        int early = desk.server(USER, 1, 9);
        desk.register(USER, 0, 5, 99);
        int other = desk.server(USER, 1, 9);
        desk.register(USER, 1, 5, 99);
        int first = desk.server(USER, 1, 9);
        int second = desk.server(USER, 1, 9);
        desk.register(USER, 1, 6, 98);
        expectSaltServer(desk, first, Sums.verifier(99, USER, 5));
        desk.forget(USER);
        expectSaltServer(desk, second, Sums.verifier(99, USER, 5));
        expectSaltServer(desk, early, Sums.fakeVerifier(SEED, USER));
        expectSaltServer(desk, other, Sums.fakeVerifier(SEED, USER));
    }

    private static void expectSaltServer(PakeDesk desk, int server, long verifier) {
        long y = Sums.saltY(9, verifier);
        long key = Sums.saltKeyOfServer(USER, 3, y, verifier, 9);
        CHECK.due(1, "X", () -> desk.receive(server, 3));
        CHECK.due(y, "Y", () -> desk.message(server));
        desk.register(USER, 1, 7, 8);
        CHECK.due(2, "C", () -> desk.receive(server, Sums.confirmationOfClient(key, 3, y)));
        CHECK.due(key, "key", () -> desk.key(server));
    }

    private static void theClock() {
        CHECK.sentence("SESSIONS", "The clock is 0 at first.");
        CHECK.due(0, "tick(0)", () -> new PakeDesk(SEED).tick(0));
        CHECK.due(1, "tick(1)", () -> new PakeDesk(SEED).tick(1));
        CHECK.due(100, "tick(100)", () -> new PakeDesk(-1).tick(100));
    }

    private static void statesOfAnExchange() {
        CHECK.sentence("SESSIONS", "each in state 1 from its first one on (a server behind X, a client behind Y).");
        for (int way = 0; way < 2; way++) {
            PakeDesk desk = new PakeDesk(SEED);
            desk.register(USER, way, 5, 6);
            int client = desk.client(USER, way, 5, 1);
            int server = desk.server(USER, way, 2);
            expectStates(desk, client, 0, server, 0);
            CHECK.due(1, "X", () -> desk.pass(client, server, 0));
            expectStates(desk, client, 0, server, 1);
            CHECK.due(1, "Y", () -> desk.pass(server, client, 0));
            expectStates(desk, client, 1, server, 1);
            CHECK.due(2, "C", () -> desk.pass(client, server, 0));
            expectStates(desk, client, 1, server, 2);
            CHECK.due(2, "D", () -> desk.pass(server, client, 0));
            expectStates(desk, client, 2, server, 2);
        }
    }

    private static void expectStates(PakeDesk desk, int client, int ofClient, int server, int ofServer) {
        CHECK.due(ofClient, "state of the client", () -> desk.state(client));
        CHECK.due(ofServer, "state of the server", () -> desk.state(server));
    }

    private static void lifeOfWaitingOnes() {
        CHECK.sentence("SESSIONS", "4 EXPIRED: if it has state 0 or 1, and 20 ticks have gone since it began.");
        for (int way = 0; way < 2; way++) {
            for (int state = 0; state < 2; state++) {
                expectLife(true, way, state);
                expectLife(false, way, state);
            }
        }
    }

    private static void expectLife(boolean client, int way, int state) {
        PakeDesk desk = new PakeDesk(SEED);
        desk.tick(7);
        int session = Talk.begin(desk, client, USER, way, 5, 6);
        if (state == 1) {
            desk.receive(session, Sums.G);
        }
        String what = (client ? "client" : "server") + " of way " + way + ", state " + state;
        CHECK.due(state, what + " at once", () -> desk.state(session));
        desk.tick(19);
        CHECK.due(state, what + " after 19 ticks", () -> desk.state(session));
        desk.tick(0);
        CHECK.due(state, what + " after 19 ticks and none", () -> desk.state(session));
        desk.tick(1);
        CHECK.due(4, what + " after 20 ticks", () -> desk.state(session));
        desk.tick(1);
        CHECK.due(4, what + " after 21 ticks", () -> desk.state(session));
        desk.tick(100);
        CHECK.due(4, what + " after 121 ticks", () -> desk.state(session));
    }

    private static void lifeIsNotMadeLonger() {
        CHECK.sentence("SESSIONS", "20 ticks have gone since it began.");
        for (boolean client : new boolean[] {true, false}) {
            PakeDesk desk = new PakeDesk(SEED);
            int session = Talk.begin(desk, client, USER, 1, 5, 6);
            desk.tick(19);
            CHECK.due(1, "the first message after 19 ticks", () -> desk.receive(session, 2));
            desk.tick(1);
            CHECK.due(4, "state after 20 ticks", () -> desk.state(session));
            CHECK.due(Check.WRONG_STATE, "a confirmation after 20 ticks", () -> desk.receive(session, 2));
        }
    }

    private static void lifeCountsFromTheBeginning() {
        CHECK.sentence("SESSIONS", "20 ticks have gone since it began.");
        PakeDesk desk = new PakeDesk(SEED);
        int first = desk.client(USER, 1, 5, 6);
        desk.tick(1);
        int second = desk.server(USER, 1, 6);
        desk.tick(18);
        int third = desk.server(USER, 1, 6);
        desk.tick(1);
        CHECK.due(4, "the one of tick 0 at tick 20", () -> desk.state(first));
        CHECK.due(0, "the one of tick 1 at tick 20", () -> desk.state(second));
        desk.tick(1);
        CHECK.due(4, "the one of tick 1 at tick 21", () -> desk.state(second));
        desk.tick(17);
        CHECK.due(0, "the one of tick 19 at tick 38", () -> desk.state(third));
        desk.tick(1);
        CHECK.due(4, "the one of tick 19 at tick 39", () -> desk.state(third));
    }

    private static void theEndedDoNotExpire() {
        CHECK.sentence("SESSIONS", "if it has state 0 or 1, and 20 ticks have gone");
        PakeDesk desk = new PakeDesk(SEED);
        desk.register(USER, 0, 5, 6);
        int client = desk.client(USER, 0, 5, 1);
        int server = desk.server(USER, 0, 2);
        int atX = desk.server(USER, 0, 2);
        int atY = desk.client(USER, 0, 5, 1);
        int atC = Talk.serverAtConfirmation(desk, USER, 0);
        int atD = desk.client(USER, 1, 5, 1);
        desk.receive(atD, 2);
        desk.tick(19);
        Talk.whole(desk, client, server);
        for (int session : new int[] {atX, atY, atC, atD}) {
            Check.answer(() -> desk.receive(session, 0));
        }
        desk.tick(1);
        expectStates(desk, client, 2, server, 2);
        desk.tick(100);
        expectStates(desk, client, 2, server, 2);
        for (int session : new int[] {atX, atY, atC, atD}) {
            CHECK.due(3, "state of a failed one", () -> desk.state(session));
        }
    }
}
