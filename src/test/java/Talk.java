/** Steps that many tests take. */
final class Talk {
    /** A confirmation that no session of these tests waits for. */
    static final long WRONG = 1;

    private Talk() {
    }

    /** A long whose scalar is the one told, 1 .. Q - 1. */
    static long secretOf(long scalar) {
        return 2 * (scalar - 1);
    }

    /** A client with the password told, or a server; the server has no use for the password. */
    static int begin(PakeDesk desk, boolean client, int user, int way, long password, long secret) {
        return client ? desk.client(user, way, password, secret) : desk.server(user, way, secret);
    }

    /** All four messages between a client and a server, none of them altered. */
    static void whole(PakeDesk desk, int client, int server) {
        desk.pass(client, server, 0);
        desk.pass(server, client, 0);
        desk.pass(client, server, 0);
        desk.pass(server, client, 0);
    }

    /** A new server of a user that has received a first message and waits for its confirmation. */
    static int serverAtConfirmation(PakeDesk desk, int user, int way) {
        int server = desk.server(user, way, 77);
        desk.receive(server, Sums.power(Sums.G, 1234));
        return server;
    }

    static String refuse(PakeDesk desk, int session) {
        return Check.answer(() -> desk.receive(session, WRONG));
    }

    /** A new server of a user fails at its confirmation: one failure of the user. */
    static String failure(PakeDesk desk, int user) {
        return refuse(desk, serverAtConfirmation(desk, user, 1));
    }

    static void failures(PakeDesk desk, int user, int count) {
        for (int i = 0; i < count; i++) {
            failure(desk, user);
        }
    }

    static void fill(PakeDesk desk, int count) {
        for (int i = 0; i < count; i++) {
            desk.client(i % 8, i % 2, i, i);
        }
    }
}
