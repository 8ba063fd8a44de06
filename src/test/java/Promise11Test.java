/** Promise 11: key. */
public final class Promise11Test {
    private static final Check CHECK = new Check();
    private static final String NO_SESSION = "throws.NoSuchElementException";
    private static final String NOT_FINISHED = "throws.IllegalStateException";

    public static void main(String[] args) {
        known(7, 1, 0, 42, 0, new long[] {12345, 777, -7623988611680308540L});
        known(-3, 2, 1, 99, 555, new long[] {1, 2, -2443132792576857992L});
        endedOnes();
        noSuchSession();
        CHECK.end();
    }

    /** run: the client's secret, the server's, the key. */
    private static void known(int seed, int user, int way, long password, long salt, long[] run) {
        CHECK.sentence("Promise 11", "The key, if the session is finished.");
        PakeDesk desk = new PakeDesk(seed);
        desk.register(user, way, password, salt);
        int client = desk.client(user, way, password, run[0]);
        int server = desk.server(user, way, run[1]);
        expectNoKey(desk, client, server);
        desk.pass(client, server, 0);
        expectNoKey(desk, client, server);
        desk.pass(server, client, 0);
        expectNoKey(desk, client, server);
        desk.pass(client, server, 0);
        CHECK.due(NOT_FINISHED, "key of the client", () -> desk.key(client));
        CHECK.due(run[2], "key of the server", () -> desk.key(server));
        desk.pass(server, client, 0);
        CHECK.due(run[2], "key of the client", () -> desk.key(client));
        desk.tick(100);
        desk.forget(user);
        CHECK.due(run[2], "key of the client, long after", () -> desk.key(client));
        CHECK.due(run[2], "key of the server, long after", () -> desk.key(server));
    }

    private static void expectNoKey(PakeDesk desk, int client, int server) {
        CHECK.due(NOT_FINISHED, "key of the client", () -> desk.key(client));
        CHECK.due(NOT_FINISHED, "key of the server", () -> desk.key(server));
    }

    private static void endedOnes() {
        CHECK.sentence("Promise 11", "IllegalStateException if it is not finished.");
        PakeDesk desk = new PakeDesk(7);
        int failed = Talk.serverAtConfirmation(desk, 3, 1);
        Talk.refuse(desk, failed);
        int expired = Talk.serverAtConfirmation(desk, 3, 0);
        desk.tick(20);
        CHECK.due(NOT_FINISHED, "key of a failed one", () -> desk.key(failed));
        CHECK.due(NOT_FINISHED, "key of an expired one", () -> desk.key(expired));
        int deaf = desk.server(3, 1, 1);
        Check.answer(() -> desk.receive(deaf, 0));
        CHECK.due(NOT_FINISHED, "key of a server that failed at X", () -> desk.key(deaf));
        int refused = desk.client(3, 1, 1, 1);
        desk.receive(refused, 2);
        Talk.refuse(desk, refused);
        CHECK.due(NOT_FINISHED, "key of a client that failed at D", () -> desk.key(refused));
    }

    private static void noSuchSession() {
        CHECK.sentence("Promise 11", "NoSuchElementException if there is no such session;");
        PakeDesk desk = new PakeDesk(7);
        CHECK.due(NO_SESSION, "key(0) of none", () -> desk.key(0));
        desk.client(1, 0, 1, 1);
        for (int session : new int[] {-1, 1, 39, 40, Integer.MIN_VALUE, Integer.MAX_VALUE}) {
            CHECK.due(NO_SESSION, "key " + session, () -> desk.key(session));
        }
        Talk.fill(desk, 39);
        CHECK.due(NO_SESSION, "key(40) of forty", () -> desk.key(40));
        CHECK.due(NOT_FINISHED, "key(39) of forty", () -> desk.key(39));
        CHECK.due(NOT_FINISHED, "key(0) of forty", () -> desk.key(0));
    }
}
