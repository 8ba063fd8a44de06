/** Promise 9: pass. */
public final class Promise09Test {
    private static final Check CHECK = new Check();
    private static final String NO_SESSION = "throws.NoSuchElementException";
    private static final String NOT_WAITING = "throws.IllegalStateException";
    private static final String WRONG_FIRST = "throws.IllegalArgumentException";
    private static final String WRONG_CONFIRMATION = "throws.UnsupportedOperationException";

    public static void main(String[] args) {
        bothWaysComeToOneKey();
        wrongPasswords();
        noUserLooksAlike();
        altered();
        bitsAlone();
        fromItself();
        fromOneThatHasEnded();
        noSuchSession();
        notWaiting();
        wrongFirstMessages();
        wrongConfirmations();
        CHECK.end();
    }

    private static void bothWaysComeToOneKey() {
        CHECK.sentence("Promise 9", "As receive(), with the message that another session had last");
        for (int w = 0; w < 2; w++) {
            int way = w;
            for (int u = 0; u < 8; u++) {
                PakeDesk desk = new PakeDesk(u);
                int user = u;
                desk.register(user, way, 1000 - user, -user);
                int client = desk.client(user, way, 1000 - user, 3 * user);
                int server = desk.server(user, way, -5 * user);
                CHECK.due(1, "X", () -> desk.pass(client, server, 0));
                CHECK.due(1, "Y", () -> desk.pass(server, client, 0));
                CHECK.due(2, "C", () -> desk.pass(client, server, 0));
                CHECK.due(2, "D", () -> desk.pass(server, client, 0));
                CHECK.due(desk.key(server), "key", () -> desk.key(client));
            }
        }
    }

    private static void wrongPasswords() {
        CHECK.sentence("Promise 9", "As receive(), with the message that another session had last");
        for (int way = 0; way < 2; way++) {
            PakeDesk desk = new PakeDesk(3);
            desk.register(4, way, 10, 20);
            int client = desk.client(4, way, 11, 1);
            int server = desk.server(4, way, 2);
            desk.pass(client, server, 0);
            desk.pass(server, client, 0);
            CHECK.due(WRONG_CONFIRMATION, "C of a wrong password", () -> desk.pass(client, server, 0));
            CHECK.due(WRONG_CONFIRMATION, "Y as D", () -> desk.pass(server, client, 0));
        }
    }

    private static void noUserLooksAlike() {
        CHECK.sentence("Promise 9", "As receive(), with the message that another session had last");
        for (int way = 0; way < 2; way++) {
            PakeDesk desk = new PakeDesk(3);
            int client = desk.client(4, way, 11, 1);
            int server = desk.server(4, way, 2);
            CHECK.due(1, "X", () -> desk.pass(client, server, 0));
            CHECK.due(1, "Y", () -> desk.pass(server, client, 0));
            CHECK.due(WRONG_CONFIRMATION, "C", () -> desk.pass(client, server, 0));
        }
    }

    private static void altered() {
        CHECK.sentence("Promise 9", "the message that another session had last, exclusive-or bits");
        PakeDesk desk = new PakeDesk(3);
        int client = desk.client(4, 1, 11, 1);
        int far = desk.server(4, 1, 2);
        CHECK.due(WRONG_FIRST, "X with a high bit", () -> desk.pass(client, far, 1L << 40));
        int sign = desk.server(4, 1, 2);
        CHECK.due(WRONG_FIRST, "X with the sign", () -> desk.pass(client, sign, Long.MIN_VALUE));
        int gone = desk.server(4, 1, 2);
        long x = desk.message(client);
        CHECK.due(WRONG_FIRST, "X out of itself", () -> desk.pass(client, gone, x));
        int near = desk.server(4, 1, 2);
        CHECK.due(1, "X made 9", () -> desk.pass(client, near, x ^ 9));
        long key = Sums.saltKeyOfServer(4, 9, desk.message(near), Sums.fakeVerifier(3, 4), 2);
        long c = Sums.confirmationOfClient(key, 9, desk.message(near));
        CHECK.due(2, "C made right", () -> desk.pass(client, near, x ^ c));
        CHECK.due(x, "the message of the one that it came from", () -> desk.message(client));
        CHECK.due(0, "the state of the one that it came from", () -> desk.state(client));
    }

    private static void bitsAlone() {
        CHECK.sentence("Promise 9", "(bits alone, if that had none)");
        PakeDesk desk = new PakeDesk(3);
        int server = desk.server(4, 1, 2);
        int silent = desk.server(4, 1, 2);
        CHECK.due(1, "from a server without a message", () -> desk.pass(silent, server, 12));
        expectFirst(desk, server, 12);
        for (int from : new int[] {-1, 40, 41, Integer.MIN_VALUE, Integer.MAX_VALUE}) {
            int next = desk.server(4, 1, 2);
            CHECK.due(1, "from no session", () -> desk.pass(from, next, 13));
            expectFirst(desk, next, 13);
        }
        int none = desk.server(4, 1, 2);
        CHECK.due(WRONG_FIRST, "from no session, no bits", () -> desk.pass(-1, none, 0));
    }

    /** A server of user 4 with the fake verifier took x as its first message. */
    private static void expectFirst(PakeDesk desk, int server, long x) {
        long y = Sums.saltY(2, Sums.fakeVerifier(3, 4));
        long key = Sums.saltKeyOfServer(4, x, y, Sums.fakeVerifier(3, 4), 2);
        CHECK.due(2, "C of " + x, () -> desk.receive(server, Sums.confirmationOfClient(key, x, y)));
    }

    private static void fromItself() {
        CHECK.sentence("Promise 9", "the message that another session had last");
        PakeDesk desk = new PakeDesk(3);
        int client = desk.client(4, 1, 11, 1);
        CHECK.due(1, "X to itself", () -> desk.pass(client, client, 0));
        CHECK.due(WRONG_CONFIRMATION, "C to itself", () -> desk.pass(client, client, 0));
    }

    private static void fromOneThatHasEnded() {
        CHECK.sentence("Promise 9", "the message that another session had last");
        PakeDesk desk = new PakeDesk(3);
        int expired = desk.client(4, 1, 11, 1);
        desk.tick(20);
        int failed = desk.client(4, 1, 11, 1);
        Check.answer(() -> desk.receive(failed, 0));
        CHECK.due(4, "state", () -> desk.state(expired));
        CHECK.due(3, "state", () -> desk.state(failed));
        int one = desk.server(4, 1, 2);
        int other = desk.server(4, 1, 2);
        CHECK.due(1, "from an expired one", () -> desk.pass(expired, one, 0));
        CHECK.due(1, "from a failed one", () -> desk.pass(failed, other, 0));
    }

    private static void noSuchSession() {
        CHECK.sentence("Promise 9", "As receive()");
        PakeDesk desk = new PakeDesk(3);
        CHECK.due(NO_SESSION, "from none to none", () -> desk.pass(0, 0, 4));
        int client = desk.client(4, 0, 11, 1);
        for (int session : new int[] {-1, 1, 39, 40, Integer.MIN_VALUE, Integer.MAX_VALUE}) {
            CHECK.due(NO_SESSION, "to session " + session, () -> desk.pass(client, session, 0));
            CHECK.due(NO_SESSION, "from none to session " + session, () -> desk.pass(99, session, 0));
        }
        Talk.fill(desk, 39);
        CHECK.due(NO_SESSION, "to session 40 of forty", () -> desk.pass(client, 40, 0));
        CHECK.due(1, "to session 39 of forty", () -> desk.pass(client, 39, 0));
    }

    private static void notWaiting() {
        CHECK.sentence("Promise 9", "As receive()");
        PakeDesk desk = new PakeDesk(3);
        desk.register(4, 1, 11, 12);
        int client = desk.client(4, 1, 11, 1);
        int server = desk.server(4, 1, 2);
        int late = desk.server(4, 1, 2);
        int later = desk.server(4, 1, 2);
        desk.tick(19);
        Talk.whole(desk, client, server);
        CHECK.due(NOT_WAITING, "C to a finished one", () -> desk.pass(client, server, 0));
        CHECK.due(NOT_WAITING, "D to a finished one", () -> desk.pass(server, client, 0));
        CHECK.due(1, "X after 19 ticks", () -> desk.pass(-1, late, 5));
        desk.tick(1);
        CHECK.due(NOT_WAITING, "X after 20 ticks", () -> desk.pass(-1, later, 5));
        CHECK.due(NOT_WAITING, "C after 20 ticks", () -> desk.pass(client, late, 0));
        int failed = desk.server(4, 1, 2);
        CHECK.due(WRONG_FIRST, "nothing as X", () -> desk.pass(failed, failed, 0));
        CHECK.due(NOT_WAITING, "X to a failed one", () -> desk.pass(-1, failed, 5));
    }

    /** The bits make the message just right, or just not. */
    private static void wrongFirstMessages() {
        CHECK.sentence("Promise 9", "exclusive-or bits");
        for (int way = 0; way < 2; way++) {
            long[] right = way == 0 ? new long[] {1, Sums.P - 2} : new long[] {1, Sums.P - 1};
            long[] wrong = way == 0 ? new long[] {0, 2, Sums.P - 1, Sums.P} : new long[] {0, Sums.P, -1};
            for (long message : right) {
                expectPassed(way, message, "1", 1);
            }
            for (long message : wrong) {
                expectPassed(way, message, WRONG_FIRST, 3);
            }
        }
    }

    private static void expectPassed(int way, long message, String want, int state) {
        PakeDesk desk = new PakeDesk(3);
        int client = desk.client(4, way, 11, 1);
        int server = desk.server(4, way, 2);
        long bits = desk.message(client) ^ message;
        CHECK.due(want, "X made " + message, () -> desk.pass(client, server, bits));
        CHECK.due(state, "state", () -> desk.state(server));
        CHECK.due(0, "state of the one that it came from", () -> desk.state(client));
    }

    private static void wrongConfirmations() {
        CHECK.sentence("Promise 9", "exclusive-or bits");
        for (int way = 0; way < 2; way++) {
            for (long bits : new long[] {1, 1L << 32, Long.MIN_VALUE, -1}) {
                PakeDesk desk = new PakeDesk(3);
                desk.register(4, way, 11, 12);
                int client = desk.client(4, way, 11, 1);
                int server = desk.server(4, way, 2);
                int other = desk.server(4, way, 2);
                desk.pass(client, server, 0);
                desk.pass(client, other, 0);
                desk.pass(server, client, 0);
                CHECK.due(WRONG_CONFIRMATION, "C altered", () -> desk.pass(client, server, bits));
                CHECK.due(3, "state", () -> desk.state(server));
                CHECK.due(2, "C", () -> desk.pass(client, other, 0));
                CHECK.due(WRONG_CONFIRMATION, "D altered", () -> desk.pass(other, client, bits));
                CHECK.due(3, "state", () -> desk.state(client));
            }
        }
    }
}
