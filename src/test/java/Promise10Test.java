/** Promise 10: message. */
public final class Promise10Test {
    private static final Check CHECK = new Check();

    public static void main(String[] args) {
        step(7, 0, new long[] {1009659361L, 1464572934L, -1068675177149018850L});
        step(7, 1, new long[] {Sums.power(Sums.G, Sums.scalar(12345)), Sums.saltY(777, Sums.verifier(9, 1, 42)), 0});
        endedOnes();
        noneYet();
        noSuchSession();
        CHECK.end();
    }

    private static void step(int seed, int way, long[] known) {
        CHECK.sentence("Promise 10", "The message that a session had last;");
        PakeDesk desk = new PakeDesk(seed);
        desk.register(1, way, 42, 9);
        int client = desk.client(1, way, 42, 12345);
        int server = desk.server(1, way, 777);
        CHECK.due(known[0], "X", () -> desk.message(client));
        CHECK.due(0, "nothing yet", () -> desk.message(server));
        desk.pass(client, server, 0);
        CHECK.due(known[1], "Y", () -> desk.message(server));
        CHECK.due(known[0], "still X", () -> desk.message(client));
        desk.pass(server, client, 0);
        desk.pass(client, server, 0);
        desk.pass(server, client, 0);
        long key = desk.key(server);
        long c = Sums.confirmationOfClient(key, known[0], known[1]);
        CHECK.due(c, "C", () -> desk.message(client));
        CHECK.due(known[2] == 0 ? c : known[2], "C as it is known", () -> desk.message(client));
        CHECK.due(Sums.confirmationOfServer(key, known[0], known[1]), "D", () -> desk.message(server));
        desk.tick(100);
        CHECK.due(c, "C long after", () -> desk.message(client));
    }

    private static void endedOnes() {
        CHECK.sentence("Promise 10", "The message that a session had last;");
        PakeDesk desk = new PakeDesk(7);
        int client = desk.client(1, 1, 42, 12345);
        int deaf = desk.server(1, 1, 777);
        int server = desk.server(1, 1, 777);
        desk.receive(server, 5);
        long y = desk.message(server);
        Check.answer(() -> desk.receive(deaf, 0));
        CHECK.due(0, "of a server that failed at X", () -> desk.message(deaf));
        Talk.refuse(desk, server);
        CHECK.due(y, "of a server that failed at C", () -> desk.message(server));
        desk.tick(20);
        CHECK.due(Sums.power(Sums.G, Sums.scalar(12345)), "of an expired client", () -> desk.message(client));
    }

    private static void noneYet() {
        CHECK.sentence("Promise 10", "0 if there is none");
        for (int w = 0; w < 2; w++) {
            int way = w;
            PakeDesk desk = new PakeDesk(7);
            int server = desk.server(1, way, 777);
            CHECK.due(0, "of a server without X", () -> desk.message(server));
            desk.tick(19);
            CHECK.due(0, "of a server without X, later", () -> desk.message(server));
            int deaf = desk.server(1, way, 777);
            Check.answer(() -> desk.receive(deaf, 0));
            CHECK.due(0, "of a server that failed at X", () -> desk.message(deaf));
            desk.tick(1);
            CHECK.due(0, "of a server that expired", () -> desk.message(server));
        }
    }

    private static void noSuchSession() {
        CHECK.sentence("Promise 10", "0 if there is none, or no such session.");
        PakeDesk desk = new PakeDesk(7);
        CHECK.due(0, "message(0) of none", () -> desk.message(0));
        desk.client(1, 0, 1, 1);
        for (int session : new int[] {-1, 1, 39, 40, Integer.MIN_VALUE, Integer.MAX_VALUE}) {
            CHECK.due(0, "message " + session, () -> desk.message(session));
        }
        Talk.fill(desk, 39);
        CHECK.due(0, "message(40) of forty", () -> desk.message(40));
        CHECK.due(Sums.wordX(38, Sums.word(38 % 8, 38)), "message(39) of forty", () -> desk.message(39));
    }
}
