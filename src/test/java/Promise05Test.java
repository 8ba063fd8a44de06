/** Promise 5: salt. */
public final class Promise05Test {
    private static final Check CHECK = new Check();

    public static void main(String[] args) {
        theSaltOfTheRecord();
        theFakeOne();
        noSuchUser();
        CHECK.end();
    }

    private static void theSaltOfTheRecord() {
        CHECK.sentence("Promise 5", "The salt of a user, of the record of way 1");
        PakeDesk desk = new PakeDesk(-3);
        for (int u : new int[] {0, 3, 7}) {
            int user = u;
            for (long salt : new long[] {555, 0, -1, Long.MIN_VALUE, Long.MAX_VALUE}) {
                desk.register(user, 1, 9, salt);
                CHECK.due(salt, "salt " + user, () -> desk.salt(user));
            }
        }
    }

    private static void theFakeOne() {
        CHECK.sentence("Promise 5", "or the fake one;");
        PakeDesk desk = new PakeDesk(-3);
        CHECK.due(8084409265377706504L, "salt(3)", () -> desk.salt(3));
        for (int u = 0; u < 8; u++) {
            int user = u;
            CHECK.due(Sums.fakeSalt(-3, user), "salt " + user, () -> desk.salt(user));
        }
        desk.register(3, 0, 9, 555);
        CHECK.due(8084409265377706504L, "salt(3) of way 0", () -> desk.salt(3));
        desk.register(3, 1, 9, 556);
        desk.register(3, 0, 9, 557);
        CHECK.due(8084409265377706504L, "salt(3) of way 0 behind way 1", () -> desk.salt(3));
        desk.register(3, 1, 9, 558);
        desk.forget(3);
        CHECK.due(8084409265377706504L, "salt(3) when forgotten", () -> desk.salt(3));
    }

    private static void noSuchUser() {
        CHECK.sentence("Promise 5", "0 if there is no such user.");
        PakeDesk desk = new PakeDesk(-3);
        for (int user : new int[] {-1, 8, Integer.MIN_VALUE, Integer.MAX_VALUE}) {
            CHECK.due(0, "salt " + user, () -> desk.salt(user));
        }
    }
}
