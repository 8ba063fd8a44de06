/** FAILURE and BLOCKED: what counts, how many, how long, and what takes it away. */
public final class TermFailuresTest {
    private static final Check CHECK = new Check();
    private static final int SEED = 37;
    private static final int USER = 2;

    public static void main(String[] args) {
        everyServerAtC();
        notAtX();
        notAtAClient();
        notWhenRefused();
        notWhenExpired();
        notWhenOneBlockedIsRefused();
        threeAtLeast();
        lessThanThirtyTicks();
        theThirdLatest();
        laterOnesCountAnew();
        usersApart();
        finishedTakesAllAway();
        finishedBetweenFailures();
        finishedOfAnotherUser();
        onlyAServerTakesAway();
        CHECK.end();
    }

    private static void expect(PakeDesk desk, boolean want, String when) {
        CHECK.due(want, "blocked " + when, () -> desk.blocked(USER));
    }

    private static void everyServerAtC() {
        CHECK.sentence("FAILURE and BLOCKED", "A user has a FAILURE whenever a server of it fails at C.");
        for (int record = -1; record < 2; record++) {
            for (int way = 0; way < 2; way++) {
                PakeDesk desk = new PakeDesk(SEED);
                desk.register(USER, record, 5, 6);
                for (int i = 0; i < 3; i++) {
                    expect(desk, false, "before the failure " + i);
                    Talk.refuse(desk, Talk.serverAtConfirmation(desk, USER, way));
                }
                expect(desk, true, "after three, way " + way + ", record " + record);
            }
        }
    }

    private static void notAtX() {
        CHECK.sentence("FAILURE and BLOCKED", "whenever a server of it fails at C.");
        PakeDesk desk = new PakeDesk(SEED);
        for (int i = 0; i < 6; i++) {
            int server = desk.server(USER, i % 2, 1);
            CHECK.due(Check.WRONG_ARGUMENT, "a wrong X", () -> desk.receive(server, 0));
        }
        expect(desk, false, "after six that fail at X");
        Talk.failures(desk, USER, 2);
        expect(desk, false, "after two failures more");
    }

    private static void notAtAClient() {
        CHECK.sentence("FAILURE and BLOCKED", "whenever a server of it fails at C.");
        PakeDesk desk = new PakeDesk(SEED);
        for (int i = 0; i < 6; i++) {
            int atY = desk.client(USER, i % 2, 5, 1);
            CHECK.due(Check.WRONG_ARGUMENT, "a wrong Y", () -> desk.receive(atY, 0));
            int atD = desk.client(USER, i % 2, 5, 1);
            desk.receive(atD, Sums.G);
            CHECK.due(Check.WRONG_CONFIRMATION, "a wrong D", () -> desk.receive(atD, 0));
        }
        expect(desk, false, "after twelve clients that fail");
        Talk.failures(desk, USER, 2);
        expect(desk, false, "after two failures more");
    }

    /** A server that has failed does not wait for anything: it fails once. */
    private static void notWhenRefused() {
        CHECK.sentence("FAILURE and BLOCKED", "whenever a server of it fails at C.");
        PakeDesk desk = new PakeDesk(SEED);
        int server = Talk.serverAtConfirmation(desk, USER, 1);
        CHECK.same(Check.WRONG_CONFIRMATION, "a wrong C", Talk.refuse(desk, server));
        for (int i = 0; i < 3; i++) {
            CHECK.same(Check.WRONG_STATE, "a wrong C again", Talk.refuse(desk, server));
        }
        expect(desk, false, "after one server that was told four times");
    }

    private static void notWhenExpired() {
        CHECK.sentence("FAILURE and BLOCKED", "whenever a server of it fails at C.");
        PakeDesk desk = new PakeDesk(SEED);
        for (int i = 0; i < 3; i++) {
            Talk.serverAtConfirmation(desk, USER, 1);
        }
        desk.tick(19);
        CHECK.same(Check.WRONG_CONFIRMATION, "a wrong C after 19 ticks", Talk.refuse(desk, 0));
        desk.tick(1);
        CHECK.same(Check.WRONG_STATE, "a wrong C after 20 ticks", Talk.refuse(desk, 1));
        CHECK.same(Check.WRONG_STATE, "a wrong C after 20 ticks", Talk.refuse(desk, 2));
        expect(desk, false, "after one failure and two that expired");
    }

    /** Failures at ticks 0, 1 and 2; were the refused servers failures too, the block would last longer. */
    private static void notWhenOneBlockedIsRefused() {
        CHECK.sentence("FAILURE and BLOCKED", "whenever a server of it fails at C.");
        PakeDesk desk = new PakeDesk(SEED);
        Talk.failure(desk, USER);
        desk.tick(1);
        Talk.failure(desk, USER);
        desk.tick(1);
        Talk.failure(desk, USER);
        for (int i = 0; i < 3; i++) {
            CHECK.due(Check.WRONG_STATE, "server()", () -> desk.server(USER, 0, 1));
            CHECK.due(Check.WRONG_ARGUMENT, "server() of no way", () -> desk.server(USER, 2, 1));
        }
        desk.tick(27);
        expect(desk, true, "at tick 29");
        desk.tick(1);
        expect(desk, false, "at tick 30");
    }

    private static void threeAtLeast() {
        CHECK.sentence("FAILURE and BLOCKED", "A user is BLOCKED if it has had three at least");
        PakeDesk desk = new PakeDesk(SEED);
        desk.server(USER, 1, 77);
        desk.receive(0, 3);
        for (int i = 1; i <= 3; i++) {
            Talk.failure(desk, USER);
            expect(desk, i >= 3, "after " + i);
        }
        Talk.refuse(desk, 0);
        expect(desk, true, "after 4");
        // At tick 0 and with fewer than three the third latest is no failure of tick 0.
        PakeDesk young = new PakeDesk(SEED);
        Talk.failures(young, USER, 2);
        expect(young, false, "after two at tick 0");
        young.tick(29);
        expect(young, false, "after two, at tick 29");
    }

    private static void lessThanThirtyTicks() {
        CHECK.sentence("FAILURE and BLOCKED", "the third latest was less than 30 ticks ago.");
        for (int start : new int[] {0, 1, 100}) {
            PakeDesk desk = new PakeDesk(SEED);
            desk.tick(start);
            Talk.failures(desk, USER, 3);
            expect(desk, true, "at once");
            desk.tick(29);
            expect(desk, true, "29 ticks later");
            desk.tick(0);
            expect(desk, true, "29 ticks later still");
            desk.tick(1);
            expect(desk, false, "30 ticks later");
            desk.tick(1);
            expect(desk, false, "31 ticks later");
        }
    }

    /** Failures at ticks 10, 20 and 30: the first of them counts, until tick 39. */
    private static void theThirdLatest() {
        CHECK.sentence("FAILURE and BLOCKED", "the third latest was less than 30 ticks ago.");
        PakeDesk desk = new PakeDesk(SEED);
        for (int i = 0; i < 3; i++) {
            desk.tick(10);
            Talk.failure(desk, USER);
        }
        expect(desk, true, "at tick 30");
        desk.tick(9);
        expect(desk, true, "at tick 39");
        desk.tick(1);
        expect(desk, false, "at tick 40");
        // Three failures over 30 ticks do not block at all, over 29 they do.
        PakeDesk slow = new PakeDesk(SEED);
        Talk.failure(slow, USER);
        slow.tick(15);
        Talk.failure(slow, USER);
        slow.tick(15);
        Talk.failure(slow, USER);
        expect(slow, false, "after three over 30 ticks");
        PakeDesk quick = new PakeDesk(SEED);
        Talk.failure(quick, USER);
        quick.tick(15);
        Talk.failure(quick, USER);
        quick.tick(14);
        Talk.failure(quick, USER);
        expect(quick, true, "after three over 29 ticks");
    }

    /** Failures at 0, 5, 10, and of a server that had begun before, at 15: now the one of 5 counts. */
    private static void laterOnesCountAnew() {
        CHECK.sentence("FAILURE and BLOCKED", "the third latest was less than 30 ticks ago.");
        PakeDesk desk = new PakeDesk(SEED);
        int waiting = Talk.serverAtConfirmation(desk, USER, 0);
        Talk.failure(desk, USER);
        desk.tick(5);
        Talk.failure(desk, USER);
        desk.tick(5);
        Talk.failure(desk, USER);
        desk.tick(5);
        CHECK.same(Check.WRONG_CONFIRMATION, "the fourth", Talk.refuse(desk, waiting));
        desk.tick(19);
        expect(desk, true, "at tick 34");
        desk.tick(1);
        expect(desk, false, "at tick 35");
        // The ones of 10 and 15 still count together with one more.
        Talk.failure(desk, USER);
        expect(desk, true, "at tick 35, after the fifth");
        desk.tick(4);
        expect(desk, true, "at tick 39");
        desk.tick(1);
        expect(desk, false, "at tick 40");
    }

    private static void usersApart() {
        CHECK.sentence("FAILURE and BLOCKED", "A user is BLOCKED if it has had three at least");
        PakeDesk desk = new PakeDesk(SEED);
        Talk.failures(desk, USER - 1, 2);
        Talk.failures(desk, USER, 2);
        Talk.failures(desk, USER + 1, 3);
        expect(desk, false, "with two failures of its own");
        CHECK.due(false, "blocked of the one before", () -> desk.blocked(USER - 1));
        CHECK.due(true, "blocked of the one behind", () -> desk.blocked(USER + 1));
    }

    /** A server, and a client next to it that has the message C for it. */
    private static int serverWithC(PakeDesk desk, int user, int way) {
        desk.register(user, way, 5, 6);
        int server = desk.server(user, way, 2);
        int client = desk.client(user, way, 5, 1);
        desk.pass(client, server, 0);
        desk.pass(server, client, 0);
        return server;
    }

    private static void finishedTakesAllAway() {
        CHECK.sentence("FAILURE and BLOCKED", "A server that is finished takes its user's failures away.");
        for (int way = 0; way < 2; way++) {
            PakeDesk desk = new PakeDesk(SEED);
            int server = serverWithC(desk, USER, way);
            int fourth = Talk.serverAtConfirmation(desk, USER, way);
            int fifth = Talk.serverAtConfirmation(desk, USER, way);
            Talk.failures(desk, USER, 3);
            Talk.refuse(desk, fourth);
            Talk.refuse(desk, fifth);
            expect(desk, true, "after five failures");
            CHECK.due(2, "C", () -> desk.pass(server + 1, server, 0));
            expect(desk, false, "after a server has finished");
            CHECK.due(desk.sessions(), "server()", () -> desk.server(USER, 0, 1));
            Talk.failures(desk, USER, 2);
            expect(desk, false, "after two failures more");
            Talk.failure(desk, USER);
            expect(desk, true, "after three failures more");
        }
    }

    private static void finishedBetweenFailures() {
        CHECK.sentence("FAILURE and BLOCKED", "A server that is finished takes its user's failures away.");
        PakeDesk desk = new PakeDesk(SEED);
        int first = serverWithC(desk, USER, 1);
        Talk.failures(desk, USER, 2);
        CHECK.due(2, "C", () -> desk.pass(first + 1, first, 0));
        Talk.failures(desk, USER, 2);
        expect(desk, false, "after two, a finished one, and two");
        // A C that comes too late finishes nothing and takes nothing away.
        int late = serverWithC(desk, USER, 1);
        desk.tick(20);
        CHECK.due(Check.WRONG_STATE, "C after 20 ticks", () -> desk.pass(late + 1, late, 0));
        Talk.failure(desk, USER);
        expect(desk, true, "after the third");
    }

    private static void finishedOfAnotherUser() {
        CHECK.sentence("FAILURE and BLOCKED", "takes its user's failures away.");
        PakeDesk desk = new PakeDesk(SEED);
        int server = serverWithC(desk, USER + 1, 0);
        Talk.failures(desk, USER, 3);
        CHECK.due(2, "C of another user", () -> desk.pass(server + 1, server, 0));
        expect(desk, true, "after a server of another user has finished");
    }

    private static void onlyAServerTakesAway() {
        CHECK.sentence("FAILURE and BLOCKED", "A server that is finished");
        PakeDesk desk = new PakeDesk(SEED);
        int server = serverWithC(desk, USER, 1);
        desk.pass(server + 1, server, 0);
        Talk.failures(desk, USER, 3);
        CHECK.due(2, "D", () -> desk.pass(server, server + 1, 0));
        expect(desk, true, "after a client has finished");
        // What is refused at a finished server does not finish it once more.
        CHECK.due(Check.WRONG_STATE, "C again", () -> desk.pass(server + 1, server, 0));
        expect(desk, true, "after C has come again");
        desk.register(USER, 1, 5, 6);
        expect(desk, true, "with another record");
        desk.forget(USER);
        expect(desk, true, "without a record");
    }
}
