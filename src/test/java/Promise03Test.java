/** Promise 3: forget. */
public final class Promise03Test {
    private static final Check CHECK = new Check();

    public static void main(String[] args) {
        theRecordIsGone();
        noneToForget();
        whatOutlivesTheRecord();
        CHECK.end();
    }

    private static void theRecordIsGone() {
        CHECK.sentence("Promise 3", "A user's record is gone: true;");
        for (int way = 0; way < 2; way++) {
            PakeDesk desk = new PakeDesk(12);
            desk.register(7, way, 5, 6);
            desk.register(0, way, 5, 6);
            CHECK.due(true, "forget(7)", () -> desk.forget(7));
            CHECK.due(-1, "way(7)", () -> desk.way(7));
            CHECK.due(Sums.fakeSalt(12, 7), "salt(7)", () -> desk.salt(7));
            int word = Talk.serverAtConfirmation(desk, 7, 0);
            int verifier = Talk.serverAtConfirmation(desk, 7, 1);
            CHECK.due(Sums.wordY(77, Sums.fakeWord(12, 7)), "Y, way 0", () -> desk.message(word));
            CHECK.due(Sums.saltY(77, Sums.fakeVerifier(12, 7)), "Y, way 1", () -> desk.message(verifier));
            CHECK.due(way, "way(0)", () -> desk.way(0));
            CHECK.due(false, "forget(7) again", () -> desk.forget(7));
            CHECK.due(true, "register(7)", () -> desk.register(7, 0, 5, 6));
            CHECK.due(true, "forget(7)", () -> desk.forget(7));
        }
    }

    private static void noneToForget() {
        CHECK.sentence("Promise 3", "false if there is none.");
        PakeDesk desk = new PakeDesk(12);
        for (int user : new int[] {0, 7, -1, 8, Integer.MIN_VALUE, Integer.MAX_VALUE}) {
            CHECK.due(false, "forget " + user, () -> desk.forget(user));
        }
    }

    private static void whatOutlivesTheRecord() {
        CHECK.sentence("Promise 3", "A user's record is gone");
        PakeDesk desk = new PakeDesk(12);
        desk.register(1, 0, 42, 0);
        int client = desk.client(1, 0, 42, 3);
        int server = desk.server(1, 0, 4);
        for (int i = 0; i < 3; i++) {
            Talk.failure(desk, 1);
        }
        desk.forget(1);
        CHECK.due(true, "blocked(1)", () -> desk.blocked(1));
        Talk.whole(desk, client, server);
        CHECK.due(2, "the server that had begun", () -> desk.state(server));
    }
}
