import java.util.ArrayList;
import java.util.List;

/**
 * What a call that is refused changes: nothing, but that a session fails, and a failure of its user.
 * Each call is made on one of two desks that are alike; afterwards both have to answer alike.
 */
public final class RefusedCallsTest {
    private static final Check CHECK = new Check();
    private static final int SEED = 43;

    private static final int EXPIRED_CLIENT = 0;
    private static final int EXPIRED_SERVER = 1;
    private static final int FINISHED_CLIENT = 2;
    private static final int FINISHED_SERVER = 3;
    private static final int FAILED_SERVER = 4;
    private static final int CLIENT_AT_Y = 5;
    private static final int SERVER_AT_X = 6;
    private static final int CLIENT_AT_D = 7;
    private static final int SERVER_AT_C = 8;
    private static final int LAST_CHANCE = 9;
    private static final int COUNT = 15;
    private static final int NO_RECORD = 0;
    private static final int OF_WORD = 1;
    private static final int OF_SALT = 2;
    private static final int NEARLY_BLOCKED = 3;
    private static final int BLOCKED = 4;

    interface Step {
        Object on(PakeDesk desk);
    }

    public static void main(String[] args) {
        theScene();
        register();
        forget();
        client();
        server();
        full();
        noSuchSession();
        notWaiting();
        key();
        tick();
        questions();
        wrongFirstMessages();
        wrongConfirmations();
        CHECK.end();
    }

    /** Users and sessions of all kinds, at tick 23; the failures are a tick apart, so that one more is seen. */
    private static PakeDesk scene() {
        PakeDesk desk = new PakeDesk(SEED);
        desk.register(OF_WORD, 0, 10, 0);
        desk.register(OF_SALT, 1, 20, 21);
        desk.client(OF_WORD, 0, 10, 1);
        Talk.serverAtConfirmation(desk, OF_WORD, 0);
        desk.tick(20);
        Talk.whole(desk, desk.client(OF_WORD, 0, 10, 2), desk.server(OF_WORD, 0, 3));
        Talk.failure(desk, OF_WORD);
        desk.client(OF_SALT, 1, 20, 4);
        desk.server(OF_SALT, 1, 5);
        int client = desk.client(OF_WORD, 0, 10, 6);
        int server = desk.server(OF_WORD, 0, 7);
        desk.pass(client, server, 0);
        desk.pass(server, client, 0);
        Talk.serverAtConfirmation(desk, NEARLY_BLOCKED, 1);
        Talk.failures(desk, NEARLY_BLOCKED, 2);
        for (int i = 0; i < 3; i++) {
            Talk.failure(desk, BLOCKED);
            desk.tick(1);
        }
        return desk;
    }

    private static void theScene() {
        PakeDesk desk = scene();
        int[] states = {4, 4, 2, 2, 3, 0, 0, 1, 1, 1, 3, 3, 3, 3, 3};
        CHECK.due(COUNT, "sessions()", desk::sessions);
        for (int s = 0; s < COUNT; s++) {
            int session = s;
            CHECK.due(states[session], "state(" + session + ")", () -> desk.state(session));
        }
        CHECK.due(false, "blocked of one with two failures", () -> desk.blocked(NEARLY_BLOCKED));
        CHECK.due(true, "blocked of one with three", () -> desk.blocked(BLOCKED));
    }

    /** Steps that would show a hidden change: records are used, failures are counted, the exchanges go on. */
    private static List<String> whatFollows(PakeDesk desk) {
        List<String> answers = new ArrayList<>();
        for (int user = NO_RECORD; user < BLOCKED; user++) {
            for (int way = 0; way < 2; way++) {
                addOneMoreFailure(desk, user, way, answers);
            }
        }
        int[][] passes = {{CLIENT_AT_Y, SERVER_AT_X}, {SERVER_AT_X, CLIENT_AT_Y}, {CLIENT_AT_Y, SERVER_AT_X},
            {SERVER_AT_X, CLIENT_AT_Y}, {CLIENT_AT_D, SERVER_AT_C}, {SERVER_AT_C, CLIENT_AT_D}};
        for (int[] pair : passes) {
            answers.add(Check.answer(() -> desk.pass(pair[0], pair[1], 0)));
        }
        answers.add(Talk.refuse(desk, LAST_CHANCE));
        answers.addAll(Look.at(desk));
        desk.tick(26);
        for (int i = 0; i < 4; i++) {
            answers.add(Check.answer(() -> desk.blocked(NEARLY_BLOCKED)));
            answers.add(Check.answer(() -> desk.blocked(BLOCKED)));
            desk.tick(1);
        }
        answers.addAll(Look.at(desk));
        return answers;
    }

    private static void addOneMoreFailure(PakeDesk desk, int user, int way, List<String> answers) {
        String begun = Check.answer(() -> Talk.serverAtConfirmation(desk, user, way));
        int server = desk.sessions() - 1;
        answers.add(begun + ", " + desk.message(server) + ", " + Talk.refuse(desk, server)
                + ", " + desk.blocked(user));
    }

    private static void expectNoChange(Object want, String what, Step step) {
        PakeDesk told = scene();
        PakeDesk spared = scene();
        CHECK.due(want, what, () -> step.on(told));
        CHECK.sameLines(Look.at(spared), "what is seen after " + what, Look.at(told));
        CHECK.sameLines(whatFollows(spared), "what follows " + what, whatFollows(told));
    }

    private static void register() {
        CHECK.sentence("Promise 2", "False if there is no such user or way.");
        for (int user : new int[] {-1, 8}) {
            expectNoChange(false, "register(" + user + ")", desk -> desk.register(user, 1, 70, 71));
        }
        for (int way : new int[] {-1, 2}) {
            for (int user : new int[] {NO_RECORD, OF_WORD, OF_SALT}) {
                expectNoChange(false, "register(" + user + ", " + way + ")", desk -> desk.register(user, way, 70, 71));
            }
        }
    }

    private static void forget() {
        CHECK.sentence("Promise 3", "false if there is none.");
        for (int user : new int[] {-1, 8, NO_RECORD, BLOCKED}) {
            expectNoChange(false, "forget(" + user + ")", desk -> desk.forget(user));
        }
    }

    private static void client() {
        CHECK.sentence("Promise 6", "IllegalArgumentException if there is no such user or way;");
        for (int user : new int[] {-1, 8}) {
            expectNoChange(Check.WRONG_ARGUMENT, "client(" + user + ")", desk -> desk.client(user, 0, 10, 1));
        }
        for (int way : new int[] {-1, 2}) {
            expectNoChange(Check.WRONG_ARGUMENT, "client of way " + way, desk -> desk.client(OF_WORD, way, 10, 1));
        }
    }

    private static void server() {
        CHECK.sentence("Promise 7", "IllegalArgumentException as for client(); IllegalStateException if there are "
                + "40 sessions, or the user is blocked.");
        for (int user : new int[] {-1, 8}) {
            expectNoChange(Check.WRONG_ARGUMENT, "server(" + user + ")", desk -> desk.server(user, 0, 1));
        }
        for (int way : new int[] {-1, 2}) {
            expectNoChange(Check.WRONG_ARGUMENT, "server of way " + way, desk -> desk.server(OF_WORD, way, 1));
        }
        for (int way : new int[] {0, 1}) {
            expectNoChange(Check.WRONG_STATE, "server of one blocked", desk -> desk.server(BLOCKED, way, 1));
        }
    }

    private static void full() {
        CHECK.sentence("Promise 6", "IllegalStateException if there are 40 sessions.");
        PakeDesk desk = scene();
        Talk.fill(desk, 40 - COUNT);
        List<String> before = Look.at(desk);
        CHECK.due(Check.WRONG_STATE, "client", () -> desk.client(OF_WORD, 0, 10, 1));
        CHECK.due(Check.WRONG_STATE, "server", () -> desk.server(OF_WORD, 0, 1));
        CHECK.sameLines(before, "what is seen", Look.at(desk));
        CHECK.due(2, "the C of the exchange that goes on", () -> desk.pass(CLIENT_AT_D, SERVER_AT_C, 0));
    }

    private static void noSuchSession() {
        CHECK.sentence("Promise 8", "NoSuchElementException if there is none such.");
        for (int session : new int[] {-1, COUNT}) {
            expectNoChange(Check.NO_ELEMENT, "receive(" + session + ")", desk -> desk.receive(session, Sums.G));
            expectNoChange(Check.NO_ELEMENT, "pass to " + session, desk -> desk.pass(CLIENT_AT_Y, session, 0));
        }
    }

    private static void notWaiting() {
        CHECK.sentence("Promise 8", "IllegalStateException if it does not wait for one.");
        for (int session = EXPIRED_CLIENT; session <= FAILED_SERVER; session++) {
            int to = session;
            for (long message : new long[] {0, Sums.G}) {
                expectNoChange(Check.WRONG_STATE, "receive(" + to + ")", desk -> desk.receive(to, message));
            }
            expectNoChange(Check.WRONG_STATE, "pass to " + to, desk -> desk.pass(CLIENT_AT_D, to, 0));
        }
        expectNoChange(Check.WRONG_STATE, "C again", desk -> desk.pass(FINISHED_CLIENT, FINISHED_SERVER, 0));
        expectNoChange(Check.WRONG_STATE, "D again", desk -> desk.pass(FINISHED_SERVER, FINISHED_CLIENT, 0));
        expectNoChange(Check.WRONG_STATE, "to an expired one", desk -> desk.pass(FINISHED_CLIENT, EXPIRED_SERVER, 0));
    }

    private static void key() {
        CHECK.sentence("Promise 11", "NoSuchElementException if there is no such session; "
                + "IllegalStateException if it is not finished.");
        for (int session : new int[] {-1, COUNT}) {
            expectNoChange(Check.NO_ELEMENT, "key(" + session + ")", desk -> desk.key(session));
        }
        for (int session : new int[] {EXPIRED_CLIENT, EXPIRED_SERVER, FAILED_SERVER, CLIENT_AT_Y, SERVER_AT_C}) {
            expectNoChange(Check.WRONG_STATE, "key(" + session + ")", desk -> desk.key(session));
        }
    }

    private static void tick() {
        CHECK.sentence("Promise 14", "IllegalArgumentException if n is not 0 .. 100.");
        for (int n : new int[] {-1, 101, Integer.MIN_VALUE, Integer.MAX_VALUE}) {
            expectNoChange(Check.WRONG_ARGUMENT, "tick(" + n + ")", desk -> desk.tick(n));
        }
    }

    private static void questions() {
        CHECK.sentence("Promise 10", "0 if there is none, or no such session.");
        expectNoChange(0, "message of none yet", desk -> desk.message(SERVER_AT_X));
        expectNoChange(0, "message of no session", desk -> desk.message(COUNT));
        CHECK.sentence("Promise 12", "NONE if there is none.");
        expectNoChange(-1, "state of no session", desk -> desk.state(COUNT));
        expectNoChange(4, "state of an expired one", desk -> desk.state(EXPIRED_SERVER));
        CHECK.sentence("Promise 4", "NONE if there is none.");
        expectNoChange(-1, "way of no user", desk -> desk.way(8));
        CHECK.sentence("Promise 5", "0 if there is no such user.");
        expectNoChange(0, "salt of no user", desk -> desk.salt(8));
        CHECK.sentence("Promise 13", "Whether a user is blocked.");
        expectNoChange(false, "blocked of no user", desk -> desk.blocked(8));
        expectNoChange(true, "blocked", desk -> desk.blocked(BLOCKED));
    }

    private static void wrongFirstMessages() {
        CHECK.sentence("Promise 8", "IllegalArgumentException if it is a first message that is not right");
        for (int session : new int[] {CLIENT_AT_Y, SERVER_AT_X}) {
            for (long message : new long[] {0, Sums.P, -1}) {
                expectFails(session, message, Check.WRONG_ARGUMENT, -1);
            }
        }
        // Three of them at servers of one user are no failures of it.
        PakeDesk desk = scene();
        for (int i = 0; i < 3; i++) {
            int server = desk.server(NEARLY_BLOCKED, 1, 1);
            CHECK.due(Check.WRONG_ARGUMENT, "a wrong X", () -> desk.receive(server, 0));
        }
        CHECK.due(false, "blocked", () -> desk.blocked(NEARLY_BLOCKED));
    }

    private static void wrongConfirmations() {
        CHECK.sentence("Promise 8", "UnsupportedOperationException if it is a confirmation that is not: "
                + "the session fails.");
        for (long message : new long[] {0, 1, -1, Sums.G}) {
            expectFails(CLIENT_AT_D, message, Check.WRONG_CONFIRMATION, -1);
            expectFails(SERVER_AT_C, message, Check.WRONG_CONFIRMATION, -1);
            expectFails(LAST_CHANCE, message, Check.WRONG_CONFIRMATION, NEARLY_BLOCKED);
        }
    }

    /** The session has state 3 then, the user told is blocked then, and nothing else is seen to change. */
    private static void expectFails(int session, long message, String want, int blocked) {
        PakeDesk told = scene();
        List<String> due = new ArrayList<>();
        for (String line : Look.at(scene())) {
            boolean ofSession = line.startsWith("session " + session + ":");
            boolean ofUser = line.startsWith("user " + blocked + ":");
            String failed = ofSession ? line.replaceFirst("state [01],", "state 3,") : line;
            due.add(ofUser ? failed.replace("blocked false", "blocked true") : failed);
        }
        CHECK.due(want, "receive(" + session + ", " + message + ")", () -> told.receive(session, message));
        CHECK.sameLines(due, "what is seen after receive(" + session + ", " + message + ")", Look.at(told));
    }
}
