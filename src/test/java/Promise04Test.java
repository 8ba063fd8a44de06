/** Promise 4: way. */
public final class Promise04Test {
    private static final Check CHECK = new Check();

    public static void main(String[] args) {
        theRecordsWay();
        atBothEndsOfTheUsers();
        noRecord();
        noSuchUser();
        CHECK.end();
    }

    private static void theRecordsWay() {
        CHECK.sentence("Promise 4", "The way of a user's record;");
        PakeDesk desk = new PakeDesk(0);
        desk.register(2, 0, 1, 1);
        CHECK.due(0, "way(2)", () -> desk.way(2));
        desk.register(2, 1, 1, 1);
        CHECK.due(1, "way(2)", () -> desk.way(2));
        desk.register(2, 2, 1, 1);
        CHECK.due(1, "way(2) after a refusal", () -> desk.way(2));
        desk.register(2, 0, 1, 1);
        CHECK.due(0, "way(2)", () -> desk.way(2));
    }

    private static void atBothEndsOfTheUsers() {
        CHECK.sentence("Promise 4", "The way of a user's record;");
        PakeDesk desk = new PakeDesk(0);
        desk.register(0, 1, 1, 1);
        desk.register(7, 0, 1, 1);
        CHECK.due(1, "way(0)", () -> desk.way(0));
        CHECK.due(0, "way(7)", () -> desk.way(7));
    }

    private static void noRecord() {
        CHECK.sentence("Promise 4", "NONE if there is none.");
        PakeDesk desk = new PakeDesk(0);
        CHECK.due(-1, "way(2) at first", () -> desk.way(2));
        desk.register(2, 2, 1, 1);
        desk.register(2, -1, 1, 1);
        CHECK.due(-1, "way(2) after refusals", () -> desk.way(2));
        desk.register(2, 1, 1, 1);
        CHECK.due(-1, "way(1)", () -> desk.way(1));
        CHECK.due(-1, "way(3)", () -> desk.way(3));
        desk.forget(2);
        CHECK.due(-1, "way(2) when forgotten", () -> desk.way(2));
        desk.client(2, 1, 1, 1);
        desk.server(2, 1, 1);
        CHECK.due(-1, "way(2) with sessions alone", () -> desk.way(2));
    }

    private static void noSuchUser() {
        CHECK.sentence("Promise 4", "NONE if there is none.");
        PakeDesk desk = new PakeDesk(0);
        for (int user = 0; user < 8; user++) {
            desk.register(user, 1, 1, 1);
        }
        for (int user : new int[] {-1, 8, Integer.MIN_VALUE, Integer.MAX_VALUE}) {
            CHECK.due(-1, "way " + user, () -> desk.way(user));
        }
    }
}
