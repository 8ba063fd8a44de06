/** Promise 13: blocked. */
public final class Promise13Test {
    private static final Check CHECK = new Check();
    private static final String FAILED = "throws.UnsupportedOperationException";

    public static void main(String[] args) {
        threeAtOnce();
        theThirdLatestCounts();
        moreThanThree();
        onlyServersAtTheirConfirmation();
        finishedTakesAllAway();
        recordsDoNotMatter();
        noSuchUser();
        CHECK.end();
    }

    private static void expect(PakeDesk desk, int user, boolean want) {
        CHECK.due(want, "blocked " + user, () -> desk.blocked(user));
    }

    private static void fail(PakeDesk desk, int user) {
        CHECK.same(FAILED, "a failure of " + user, Talk.failure(desk, user));
    }

    private static void threeAtOnce() {
        CHECK.sentence("Promise 13", "Whether a user is blocked.");
        for (int user : new int[] {0, 7}) {
            PakeDesk desk = new PakeDesk(4);
            expect(desk, user, false);
            fail(desk, user);
            expect(desk, user, false);
            fail(desk, user);
            expect(desk, user, false);
            fail(desk, user);
            expect(desk, user, true);
            expect(desk, 3, false);
            desk.tick(29);
            expect(desk, user, true);
            desk.tick(1);
            expect(desk, user, false);
            desk.tick(100);
            expect(desk, user, false);
        }
    }

    private static void theThirdLatestCounts() {
        CHECK.sentence("Promise 13", "Whether a user is blocked.");
        PakeDesk desk = new PakeDesk(4);
        fail(desk, 2);
        desk.tick(29);
        fail(desk, 2);
        desk.tick(1);
        fail(desk, 2);
        expect(desk, 2, false);
        desk.tick(28);
        fail(desk, 2);
        expect(desk, 2, true);
        desk.tick(1);
        expect(desk, 2, false);
        fail(desk, 2);
        expect(desk, 2, true);
        desk.tick(1);
        expect(desk, 2, false);
    }

    private static void moreThanThree() {
        CHECK.sentence("Promise 13", "Whether a user is blocked.");
        PakeDesk desk = new PakeDesk(4);
        int early = Talk.serverAtConfirmation(desk, 2, 0);
        int later = Talk.serverAtConfirmation(desk, 2, 1);
        fail(desk, 2);
        desk.tick(2);
        fail(desk, 2);
        desk.tick(3);
        fail(desk, 2);
        desk.tick(5);
        CHECK.same(FAILED, "the fourth", Talk.refuse(desk, early));
        CHECK.same(FAILED, "the fifth", Talk.refuse(desk, later));
        desk.tick(24);
        expect(desk, 2, true);
        desk.tick(1);
        expect(desk, 2, false);
    }

    private static void onlyServersAtTheirConfirmation() {
        CHECK.sentence("Promise 13", "Whether a user is blocked.");
        PakeDesk desk = new PakeDesk(4);
        for (int i = 0; i < 4; i++) {
            int server = desk.server(2, 0, 5);
            CHECK.due("throws.IllegalArgumentException", "a wrong X", () -> desk.receive(server, 0));
            int client = desk.client(2, 1, 5, 6);
            desk.receive(client, 9);
            CHECK.same(FAILED, "a wrong D", Talk.refuse(desk, client));
            Talk.serverAtConfirmation(desk, 2, 1);
        }
        expect(desk, 2, false);
        desk.tick(20);
        for (int i = 0; i < 12; i++) {
            Talk.refuse(desk, i);
        }
        expect(desk, 2, false);
    }

    private static void finishedTakesAllAway() {
        CHECK.sentence("Promise 13", "Whether a user is blocked.");
        for (int way = 0; way < 2; way++) {
            PakeDesk desk = new PakeDesk(4);
            desk.register(2, way, 5, 6);
            int client = desk.client(2, way, 5, 1);
            int server = desk.server(2, way, 2);
            for (int i = 0; i < 3; i++) {
                fail(desk, 2);
                fail(desk, 3);
            }
            desk.pass(client, server, 0);
            desk.pass(server, client, 0);
            expect(desk, 2, true);
            desk.pass(client, server, 0);
            expect(desk, 2, false);
            expect(desk, 3, true);
            fail(desk, 2);
            fail(desk, 2);
            expect(desk, 2, false);
            desk.pass(server, client, 0);
            fail(desk, 2);
            expect(desk, 2, true);
        }
    }

    private static void recordsDoNotMatter() {
        CHECK.sentence("Promise 13", "Whether a user is blocked.");
        PakeDesk desk = new PakeDesk(4);
        fail(desk, 2);
        desk.register(2, 0, 5, 6);
        fail(desk, 2);
        desk.forget(2);
        fail(desk, 2);
        desk.register(2, 1, 5, 6);
        expect(desk, 2, true);
    }

    private static void noSuchUser() {
        CHECK.sentence("Promise 13", "Whether a user is blocked.");
        PakeDesk desk = new PakeDesk(4);
        Talk.failures(desk, 0, 3);
        Talk.failures(desk, 7, 3);
        for (int user : new int[] {-1, 8, Integer.MIN_VALUE, Integer.MAX_VALUE}) {
            expect(desk, user, false);
        }
    }
}
