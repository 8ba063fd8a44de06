/** "What it is": what the whole is for, and that an object holds for all of its 512 calls. */
public final class WhatItIsTest {
    private static final Check CHECK = new Check();
    private static final int MOST_CALLS = 512;

    public static void main(String[] args) {
        twoWaysToACommonKey();
        recordsThatLookAlike();
        aFullDeskToTheLastCall();
        recordsToTheLastCall();
        refusalsToTheLastCall();
        CHECK.end();
    }

    private static void twoWaysToACommonKey() {
        CHECK.sentence("What it is", "Two ways by which one who knows a password and a server that holds a record "
                + "of it come to a common key");
        for (int way = 0; way < 2; way++) {
            PakeDesk desk = new PakeDesk(1);
            desk.register(3, way, 20, 30);
            int client = desk.client(3, way, 20, 40);
            int server = desk.server(3, way, 50);
            Talk.whole(desk, client, server);
            CHECK.due(desk.key(client), "the key of both", () -> desk.key(server));
        }
    }

    /** Where there is no user, each step up to the confirmation answers as where there is one. */
    private static void recordsThatLookAlike() {
        CHECK.sentence("What it is", "records that look alike whether there is a user or not");
        for (int way = 0; way < 2; way++) {
            PakeDesk desk = new PakeDesk(1);
            desk.register(3, way, 20, 30);
            for (int user : new int[] {3, 4}) {
                int client = desk.client(user, way, 21, 40);
                int server = desk.server(user, way, 50);
                CHECK.due(1, "X", () -> desk.pass(client, server, 0));
                CHECK.due(1, "Y", () -> desk.pass(server, client, 0));
                CHECK.due(Check.WRONG_CONFIRMATION, "C", () -> desk.pass(client, server, 0));
            }
        }
    }

    /** 40 sessions in 20 exchanges, with looks at everything between: the last call is the 512th. */
    private static void aFullDeskToTheLastCall() {
        CHECK.sentence("What it is", "An object is used for at most 512 calls after it has been made; "
                + "what later calls answer is free.");
        PakeDesk desk = new PakeDesk(-5);
        Model model = new Model(-5);
        int calls = 0;
        for (int n = 0; n < 20; n++) {
            int user = n % 8;
            int way = n % 2;
            long number = n;
            int client = 2 * n;
            int server = client + 1;
            same("register", () -> desk.register(user, way, number, ~number),
                    () -> model.register(user, way, number, ~number));
            same("client", () -> desk.client(user, way, number, -number),
                    () -> model.client(user, way, number, -number));
            same("server", () -> desk.server(user, way, number << 40), () -> model.server(user, way, number << 40));
            same("X", () -> desk.pass(client, server, 0), () -> model.pass(client, server, 0));
            same("Y", () -> desk.pass(server, client, 0), () -> model.pass(server, client, 0));
            same("C", () -> desk.pass(client, server, 0), () -> model.pass(client, server, 0));
            same("tick", () -> desk.tick(19), () -> model.tick(19));
            same("D", () -> desk.pass(server, client, 0), () -> model.pass(server, client, 0));
            same("key", () -> desk.key(client), () -> model.key(client));
            calls += 9;
        }
        for (; calls < MOST_CALLS; calls++) {
            int session = calls % 40;
            switch (calls % 3) {
                case 0 -> same("key", () -> desk.key(session), () -> model.key(session));
                case 1 -> same("message", () -> desk.message(session), () -> model.message(session));
                default -> same("state", () -> desk.state(session), () -> model.state(session));
            }
        }
    }

    private static void same(String what, Check.Call ofDesk, Check.Call ofModel) {
        CHECK.due(Check.answer(ofModel), what, ofDesk);
    }

    private static void recordsToTheLastCall() {
        CHECK.sentence("What it is", "An object is used for at most 512 calls after it has been made");
        PakeDesk desk = new PakeDesk(-5);
        for (int call = 2; call <= MOST_CALLS; call += 2) {
            int user = call % 8;
            long salt = call;
            CHECK.due(true, "register, call " + (call - 1), () -> desk.register(user, 1, 1, salt));
            CHECK.due(salt, "salt, call " + call, () -> desk.salt(user));
        }
    }

    private static void refusalsToTheLastCall() {
        CHECK.sentence("What it is", "An object is used for at most 512 calls after it has been made");
        PakeDesk desk = new PakeDesk(-5);
        for (int call = 1; call < MOST_CALLS; call++) {
            int n = call;
            CHECK.due(Check.WRONG_ARGUMENT, "client, call " + call, () -> desk.client(n + 7, 0, 1, 1));
        }
        CHECK.due(0, "the 512th call", () -> desk.client(7, 0, 1, 1));
    }
}
