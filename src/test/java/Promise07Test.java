/** Promise 7: server. */
public final class Promise07Test {
    private static final Check CHECK = new Check();
    private static final String WRONG = "throws.IllegalArgumentException";
    private static final String REFUSED = "throws.IllegalStateException";

    public static void main(String[] args) {
        numbersAndNoMessage();
        theRecordOfTheBeginning();
        noSuchUserOrWay();
        atMostForty();
        notForTheBlocked();
        blockedAgain();
        theOneNamedFirst();
        CHECK.end();
    }

    private static void numbersAndNoMessage() {
        CHECK.sentence("Promise 7", "A new server: its number.");
        PakeDesk desk = new PakeDesk(7);
        CHECK.due(0, "server", () -> desk.server(0, 0, 1));
        CHECK.due(1, "server", () -> desk.server(7, 1, 1));
        CHECK.due(2, "client", () -> desk.client(7, 1, 1, 1));
        CHECK.due(3, "server", () -> desk.server(7, 0, 1));
        CHECK.due(0, "message", () -> desk.message(0));
        CHECK.due(0, "message", () -> desk.message(1));
        CHECK.due(0, "state", () -> desk.state(3));
    }

    private static void theRecordOfTheBeginning() {
        CHECK.sentence("Promise 7", "A new server: its number.");
        PakeDesk desk = new PakeDesk(7);
        int fakeWord = desk.server(1, 0, 50);
        int fakeVerifier = desk.server(1, 1, 51);
        desk.register(1, 0, 8, 0);
        int word = desk.server(1, 0, 52);
        desk.register(1, 1, 9, 10);
        int verifier = desk.server(1, 1, 53);
        desk.register(1, 1, 11, 12);
        long x = Sums.power(Sums.G, 99);
        for (int session = 0; session < 4; session++) {
            desk.receive(session, x);
        }
        CHECK.due(Sums.wordY(50, Sums.fakeWord(7, 1)), "the fake word", () -> desk.message(fakeWord));
        CHECK.due(Sums.saltY(51, Sums.fakeVerifier(7, 1)), "the fake verifier", () -> desk.message(fakeVerifier));
        CHECK.due(Sums.wordY(52, Sums.word(1, 8)), "the word", () -> desk.message(word));
        CHECK.due(Sums.saltY(53, Sums.verifier(10, 1, 9)), "the verifier", () -> desk.message(verifier));
    }

    private static void noSuchUserOrWay() {
        CHECK.sentence("Promise 7", "IllegalArgumentException as for client();");
        PakeDesk desk = new PakeDesk(7);
        for (int wrong : new int[] {-1, 8, Integer.MIN_VALUE, Integer.MAX_VALUE}) {
            CHECK.due(WRONG, "server of user " + wrong, () -> desk.server(wrong, 0, 1));
        }
        for (int wrong : new int[] {-1, 2, Integer.MIN_VALUE, Integer.MAX_VALUE}) {
            CHECK.due(WRONG, "server of way " + wrong, () -> desk.server(0, wrong, 1));
        }
        CHECK.due(WRONG, "server of neither", () -> desk.server(-1, -1, 1));
        CHECK.due(0, "sessions()", desk::sessions);
        CHECK.due(0, "server of user 0, way 0", () -> desk.server(0, 0, 1));
        CHECK.due(1, "server of user 0, way 1", () -> desk.server(0, 1, 1));
        CHECK.due(2, "server of user 7, way 0", () -> desk.server(7, 0, 1));
        CHECK.due(3, "server of user 7, way 1", () -> desk.server(7, 1, 1));
    }

    private static void atMostForty() {
        CHECK.sentence("Promise 7", "IllegalStateException if there are 40 sessions");
        PakeDesk desk = new PakeDesk(7);
        Talk.fill(desk, 39);
        CHECK.due(39, "the fortieth", () -> desk.server(7, 1, 1));
        CHECK.due(REFUSED, "one more", () -> desk.server(7, 1, 1));
        CHECK.due(40, "sessions()", desk::sessions);
        desk.tick(20);
        CHECK.due(REFUSED, "one more when all are expired", () -> desk.server(7, 1, 1));
    }

    private static void notForTheBlocked() {
        CHECK.sentence("Promise 7", "or the user is blocked.");
        PakeDesk desk = new PakeDesk(7);
        for (int i = 0; i < 3; i++) {
            CHECK.due(i, "server(6)", () -> desk.server(6, 0, 1));
            int server = desk.sessions() - 1;
            desk.receive(server, Sums.G);
            CHECK.same("throws.UnsupportedOperationException", "a wrong C", Talk.refuse(desk, server));
        }
        CHECK.due(REFUSED, "server(6), way 0", () -> desk.server(6, 0, 1));
        CHECK.due(REFUSED, "server(6), way 1", () -> desk.server(6, 1, 1));
        CHECK.due(WRONG, "server(6), no way", () -> desk.server(6, 2, 1));
        CHECK.due(3, "server(5)", () -> desk.server(5, 0, 1));
        desk.tick(29);
        CHECK.due(REFUSED, "server(6), 29 ticks later", () -> desk.server(6, 0, 1));
        desk.tick(1);
        CHECK.due(4, "server(6), 30 ticks later", () -> desk.server(6, 0, 1));
    }

    /** A server that had begun before the block may finish, and the next one may begin. */
    private static void blockedAgain() {
        CHECK.sentence("Promise 7", "or the user is blocked.");
        PakeDesk desk = new PakeDesk(7);
        desk.register(6, 0, 5, 0);
        int client = desk.client(6, 0, 5, 1);
        int server = desk.server(6, 0, 2);
        Talk.failures(desk, 6, 2);
        CHECK.due(4, "server(6) after two failures", () -> desk.server(6, 0, 1));
        Talk.failure(desk, 6);
        CHECK.due(REFUSED, "server(6) after three", () -> desk.server(6, 0, 1));
        Talk.whole(desk, client, server);
        CHECK.due(6, "server(6) when one has finished", () -> desk.server(6, 0, 1));
    }

    private static void theOneNamedFirst() {
        CHECK.sentence("Promise 7", "(The one named first, if both hold.)");
        PakeDesk desk = new PakeDesk(7);
        Talk.failures(desk, 6, 3);
        for (int way : new int[] {-1, 2}) {
            CHECK.due(WRONG, "no way, of one blocked", () -> desk.server(6, way, 1));
        }
        Talk.fill(desk, 37);
        for (int user : new int[] {-1, 8}) {
            CHECK.due(WRONG, "no user, with 40 sessions", () -> desk.server(user, 1, 1));
        }
        for (int way : new int[] {-1, 2}) {
            CHECK.due(WRONG, "no way, with 40 sessions", () -> desk.server(7, way, 1));
            CHECK.due(WRONG, "no way, of one blocked, with 40 sessions", () -> desk.server(6, way, 1));
        }
        CHECK.due(REFUSED, "one blocked, with 40 sessions", () -> desk.server(6, 1, 1));
        CHECK.due(REFUSED, "one not blocked, with 40 sessions", () -> desk.server(7, 1, 1));
    }
}
