/** Objects in the states that the tests start from; a few dozen of the 512 calls are used up. */
final class Scenes {
    private Scenes() {
    }

    static void team(EntryRows x, int team, int... persons) {
        for (int p : persons) {
            x.member(team, p, true);
        }
    }

    /** Board 0 (least 1, longest 100, no safety) kept by 39; team 0 is 1, 2; team 1 is 3. */
    static EntryRows small() {
        EntryRows x = new EntryRows();
        x.board(1, 100, 0);
        x.keep(0, 39);
        team(x, 0, 2, 1);
        team(x, 1, 3);
        return x;
    }

    /** So many boards of least 1, longest 10, no safety; board b is kept by 20 + b. */
    static EntryRows boards(int made) {
        EntryRows x = new EntryRows();
        for (int b = 0; b < made; b++) {
            x.board(1, 10, 0);
            x.keep(b, 20 + b);
        }
        return x;
    }

    /** Boards as above; team b is person b alone, on board b. */
    static EntryRows boardsInUse(int made) {
        EntryRows x = boards(made);
        for (int b = 0; b < made; b++) {
            team(x, b, b);
            x.enter(b, b, 0, 0, false);
        }
        return x;
    }

    /** The person alone is team 15 and is inside on board 0, kept by somebody else; it is second 0. */
    static EntryRows inside(int person) {
        EntryRows x = new EntryRows();
        x.board(1, 100, 0);
        x.keep(0, person == 39 ? 38 : 39);
        team(x, 15, person);
        x.enter(0, 15, 0, 0, false);
        return x;
    }

    /**
     * Something of everything, at second 120, with a rest of 300.
     *
     * <p>Boards: 0 (1, 100, 1) kept by 39, who has the right; 1 (2, 50, 1) kept by 38, who has not;
     * 2 closed; 3 joined to 1; 4 (1, 10, 0) open, without a keeper, nobody on it.
     *
     * <p>Teams: 0 is 1, 2 on board 0 since 110; 1 is 3, a ready safety team of board 0; 2 is 4, 5 on
     * board 1 since 0; 3 is 6 to 11, ready; 4 is 12, who rests until 310; 5 is 13 and the keeper 38;
     * 6 is 14, 15, a ready safety team of board 1; 7 is 16, ready; the others are empty.
     */
    static EntryRows busy() {
        EntryRows x = new EntryRows();
        x.board(1, 100, 1);
        x.board(2, 50, 1);
        x.board(3, 70, 2);
        x.board(1, 90, 0);
        x.board(1, 10, 0);
        x.keep(0, 39);
        x.right(39, true);
        x.keep(1, 38);
        x.keep(3, 37);
        x.close(2);
        x.rest(300);
        x.heat(2, 7);
        x.heat(5, 100);
        team(x, 0, 1, 2);
        team(x, 1, 3);
        team(x, 2, 4, 5);
        team(x, 3, 6, 7, 8, 9, 10, 11);
        team(x, 4, 12);
        team(x, 5, 13, 38);
        team(x, 6, 14, 15);
        team(x, 7, 16);
        x.safety(0, 1, true);
        x.safety(3, 6, true);
        x.enter(3, 2, 8, 2, false);
        x.enter(3, 4, 3, 3, false);
        x.tick(10);
        x.out(3, 12);
        x.join(3, 1);
        x.tick(100);
        x.enter(0, 0, 4, 5, false);
        x.tick(10);
        return x;
    }

    /** The first persons in teams of six, all inside on board 0 (longest 100), by persons. */
    static EntryRows crowd(int persons) {
        EntryRows x = new EntryRows();
        x.board(1, 100, 0);
        x.keep(0, 39);
        for (int p = 0; p < persons; p++) {
            x.member(p / 6, p, true);
        }
        for (int t = 0; t * 6 < persons; t++) {
            x.enter(0, t, 0, 0, false);
        }
        return x;
    }

    /** Time goes on by the most that a call may, and then by what is left. */
    static void goOn(EntryRows x, int seconds) {
        for (int left = seconds; left > 0; left -= 5_000) {
            x.tick(Math.min(left, 5_000));
        }
    }
}
