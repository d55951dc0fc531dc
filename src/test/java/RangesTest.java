/**
 * Each range that the document names, call by call and argument by argument: the last number inside
 * it and the first outside, on either side; then that what stands at an edge is held, not only taken.
 */
public final class RangesTest {
    private static final int MIN = Integer.MIN_VALUE;
    private static final int MAX = Integer.MAX_VALUE;

    private interface Use {
        void with(int number);
    }

    private final Check check = new Check();

    public static void main(String[] args) {
        RangesTest t = new RangesTest();
        t.check.runAll(t);
        t.check.end();
    }

    private void known(int last, Use use) {
        check.unknown(() -> use.with(-1));
        check.unknown(() -> use.with(last + 1));
        check.unknown(() -> use.with(MIN));
        check.unknown(() -> use.with(MAX));
        for (int n = 0; n <= last; n++) {
            int number = n;
            check.fine(() -> use.with(number));
        }
    }

    private void range(int from, int to, Use use) {
        check.range(() -> use.with(from - 1));
        check.range(() -> use.with(to + 1));
        check.range(() -> use.with(MIN));
        check.range(() -> use.with(MAX));
        check.fine(() -> use.with(from));
        check.fine(() -> use.with(from + (to - from) / 2));
        check.fine(() -> use.with(to));
    }

    private void notNegative(Use use) {
        check.range(() -> use.with(-1));
        check.range(() -> use.with(MIN));
        check.fine(() -> use.with(0));
        check.fine(() -> use.with(MAX));
    }

    // PERSONS 0 .. 39.

    void personsOfKeep() {
        known(39, p -> {
            EntryRows x = new EntryRows();
            x.board(1, 1, 0);
            x.keep(0, p);
        });
    }

    void personsOfRight() {
        known(39, p -> new EntryRows().right(p, true));
        known(39, p -> new EntryRows().right(p, false));
    }

    void personsOfMember() {
        known(39, p -> new EntryRows().member(0, p, true));
        known(39, p -> {
            EntryRows x = new EntryRows();
            if (p >= 0 && p < 40) {
                x.member(15, p, true);
            }
            x.member(15, p, false);
        });
    }

    void personsOfOut() {
        known(39, p -> Scenes.inside(Math.floorMod(p, 40)).out(0, p));
    }

    void personsOfSwap() {
        known(39, p -> withSomebodyElse(p).swap(p, somebodyElse(p)));
        known(39, p -> withSomebodyElse(p).swap(somebodyElse(p), p));
    }

    void personsOfPerson() {
        for (int what = 0; what < 10; what++) {
            int w = what;
            known(39, p -> new EntryRows().person(p, w));
        }
    }

    private static int somebodyElse(int person) {
        return person == 20 ? 21 : 20;
    }

    /** For a wrong number too, so that nothing but the number itself can be refused. */
    private static EntryRows withSomebodyElse(int person) {
        EntryRows x = Scenes.inside(Math.floorMod(person, 20));
        if (person >= 20 && person < 40) {
            x = Scenes.inside(person);
        }
        Scenes.team(x, 0, somebodyElse(person));
        x.enter(0, 0, 0, 0, false);
        return x;
    }

    // TEAMS 0 .. 15.

    void teamsOfMember() {
        known(15, t -> new EntryRows().member(t, 0, true));
        known(15, t -> {
            EntryRows x = new EntryRows();
            x.member(Math.floorMod(t, 16), 0, true);
            x.member(t, 0, false);
        });
    }

    void teamsOfSafety() {
        known(15, t -> Scenes.boards(1).safety(0, t, true));
        known(15, t -> {
            EntryRows x = Scenes.boards(1);
            x.safety(0, Math.floorMod(t, 16), true);
            x.safety(0, t, false);
        });
    }

    void teamsOfEnter() {
        known(15, t -> {
            EntryRows x = Scenes.boards(1);
            x.member(Math.floorMod(t, 16), 0, true);
            x.enter(0, t, 0, 0, false);
        });
    }

    void eachTeamHasItsOwnMembersAndBoard() {
        EntryRows x = Scenes.boards(2);
        for (int t = 0; t < 16; t++) {
            int team = t;
            check.due(1, () -> x.member(team, team, true));
            check.due(1 + t / 2, () -> x.safety(team % 2, team, true));
        }
        for (int t = 0; t < 16; t++) {
            int team = t;
            check.due(t, () -> x.person(team, 8));
            check.due(7 - t / 2, () -> x.safety(team % 2, team, false));
        }
    }

    // PLACES 0 .. 5 have a HEAT (0 .. 100 a second; 0 at first).

    void placesOfHeat() {
        known(5, p -> new EntryRows().heat(p, 1));
    }

    void heatsOfHeat() {
        for (int place = 0; place < 6; place++) {
            int p = place;
            range(0, 100, h -> new EntryRows().heat(p, h));
        }
    }

    void heatIsZeroAtFirst() {
        for (int place = 0; place < 6; place++) {
            int p = place;
            check.due(0, () -> heatBehindTenSeconds(new EntryRows(), p));
        }
    }

    void eachPlaceHasItsOwnHeat() {
        int[] heats = {0, 1, 50, 98, 99, 100};
        for (int place = 0; place < 6; place++) {
            EntryRows x = new EntryRows();
            for (int q = 0; q < 6; q++) {
                x.heat(q, heats[q]);
            }
            int p = place;
            check.due(10 * heats[place], () -> heatBehindTenSeconds(x, p));
        }
    }

    private static int heatBehindTenSeconds(EntryRows x, int place) {
        x.board(1, 10, 0);
        x.keep(0, 39);
        x.member(0, 0, true);
        x.enter(0, 0, 0, place, false);
        x.tick(10);
        x.out(0, 0);
        return x.person(0, 7);
    }

    // BOARDS 0, 1, .. (at most 8): a number is known as soon as its board is made, not before.

    private interface BoardUse {
        void with(EntryRows x, int board);
    }

    private void knownBoards(boolean inUse, BoardUse use) {
        for (int made = 0; made <= 8; made++) {
            int all = made;
            known(made - 1, b -> use.with(inUse ? Scenes.boardsInUse(all) : Scenes.boards(all), b));
        }
    }

    void boardsOfKeep() {
        knownBoards(false, (x, b) -> x.keep(b, 0));
    }

    void boardsOfSafety() {
        knownBoards(false, (x, b) -> x.safety(b, 0, true));
        knownBoards(false, (x, b) -> {
            if (b >= 0 && b < x.count(3)) {
                x.safety(b, 0, true);
            }
            x.safety(b, 0, false);
        });
    }

    void boardsOfEnter() {
        knownBoards(true, (x, b) -> {
            x.member(15, 30, true);
            x.enter(b, 15, 0, 0, false);
        });
        knownBoards(true, (x, b) -> {
            x.member(15, 30, true);
            x.enter(b, 15, 0, 0, true);
        });
    }

    void boardsOfOut() {
        knownBoards(true, (x, b) -> x.out(b, Math.floorMod(b, 8)));
        // -1 is what person() answers of somebody who is not inside; it is no board for all that.
        check.unknown(() -> Scenes.boards(1).out(-1, 0));
    }

    void boardsOfJoin() {
        for (int made = 2; made <= 8; made++) {
            int all = made;
            known(made - 1, b -> Scenes.boardsInUse(all).join(b, b == 0 ? 1 : 0));
            known(made - 1, b -> Scenes.boardsInUse(all).join(b == 0 ? 1 : 0, b));
        }
        check.unknown(() -> new EntryRows().join(0, 0));
        check.unknown(() -> Scenes.boards(1).join(0, 1));
        check.unknown(() -> Scenes.boards(1).join(1, 0));
    }

    void boardsOfClose() {
        knownBoards(false, (x, b) -> x.close(b));
    }

    void boardsOfOn() {
        knownBoards(true, (x, b) -> x.on(b, 0));
    }

    void boardsOfBoardAt() {
        for (int what = 0; what < 5; what++) {
            int w = what;
            knownBoards(true, (x, b) -> x.boardAt(b, w));
        }
    }

    void boardsAreAtMostEight() {
        EntryRows x = new EntryRows();
        for (int b = 0; b < 8; b++) {
            int board = b;
            check.due(b, () -> x.count(3));
            check.due(b, () -> x.board(1, 1, 0));
            check.due(1, () -> x.boardAt(board, 0));
        }
        check.noRoom(() -> x.board(1, 1, 0));
        check.noRoom(() -> x.board(6, 10_000, 3));
        check.due(8, () -> x.count(3));
    }

    void eightBoardsAreFullThoughTheyAreClosed() {
        EntryRows x = Scenes.boards(8);
        x.join(0, 1);
        for (int b = 1; b < 8; b++) {
            x.close(b);
        }
        check.due(0, () -> x.count(3));
        check.noRoom(() -> x.board(1, 1, 0));
    }

    void aClosedBoardsNumberIsNotGivenAgain() {
        EntryRows x = Scenes.boards(3);
        x.close(2);
        x.join(0, 1);
        check.due(3, () -> x.board(1, 1, 0));
        check.due(0, () -> x.boardAt(0, 0));
        check.due(0, () -> x.boardAt(2, 0));
    }

    // A LEAST size (1 .. 6).

    void leastsOfBoard() {
        range(1, 6, least -> new EntryRows().board(least, 1, 0));
    }

    void aTeamOfTheLeastSizeIsReadyAndOneLessIsNot() {
        for (int least = 1; least <= 6; least++) {
            EntryRows x = new EntryRows();
            x.board(least, 1, 0);
            x.keep(0, 39);
            for (int p = 0; p < least - 1; p++) {
                x.member(0, p, true);
            }
            x.safety(0, 0, true);
            check.due(0, () -> x.boardAt(0, 3));
            check.state(() -> x.enter(0, 0, 0, 0, false));
            x.member(0, 30, true);
            check.due(1, () -> x.boardAt(0, 3));
            check.due(0, () -> x.enter(0, 0, 0, 0, false));
            check.due(least, () -> x.boardAt(0, 2));
        }
    }

    void aTeamAboveTheLeastSizeIsReady() {
        for (int least = 1; least <= 6; least++) {
            EntryRows x = new EntryRows();
            x.board(least, 1, 0);
            x.keep(0, 39);
            Scenes.team(x, 0, 1, 2, 3, 4, 5, 6);
            check.due(0, () -> x.enter(0, 0, 0, 0, false));
            check.due(6, () -> x.boardAt(0, 2));
        }
    }

    // A LONGEST time (1 .. 10,000 seconds).

    void longestsOfBoard() {
        range(1, 10_000, longest -> new EntryRows().board(1, longest, 0));
    }

    void longestOneSecond() {
        lateJustBeyond(1);
    }

    void longestOfTenThousandSeconds() {
        lateJustBeyond(10_000);
    }

    void longestBetween() {
        lateJustBeyond(4_999);
        lateJustBeyond(5_000);
        lateJustBeyond(5_001);
    }

    private void lateJustBeyond(int longest) {
        EntryRows x = new EntryRows();
        x.board(1, longest, 0);
        x.keep(0, 39);
        x.member(0, 0, true);
        x.tick(3);
        x.enter(0, 0, 0, 0, false);
        Scenes.goOn(x, longest - 1);
        check.due(-1, () -> x.late(0));
        check.due(0, () -> x.tick(1));
        check.due(-1, () -> x.late(0));
        check.due(1, () -> x.tick(1));
        check.due(0, () -> x.late(0));
        check.due(0, () -> x.tick(1));
        check.due(0, () -> x.late(0));
    }

    // A number of SAFETY teams that it needs (0 .. 3).

    void safetiesOfBoard() {
        range(0, 3, safety -> new EntryRows().board(1, 1, safety));
    }

    void asManySafetyTeamsAsNeededAndOneLess() {
        for (int need = 0; need <= 3; need++) {
            EntryRows x = new EntryRows();
            x.board(1, 1, need);
            x.keep(0, 39);
            x.member(15, 30, true);
            for (int t = 0; t < need; t++) {
                x.member(t, t, true);
                check.state(() -> x.enter(0, 15, 0, 0, false));
                x.safety(0, t, true);
            }
            check.due(need, () -> x.boardAt(0, 3));
            check.due(0, () -> x.enter(0, 15, 0, 0, false));
        }
    }

    void moreSafetyTeamsThanNeededAreFine() {
        EntryRows x = new EntryRows();
        x.board(1, 1, 3);
        x.keep(0, 39);
        for (int t = 0; t < 16; t++) {
            int team = t;
            x.member(t, t, true);
            check.due(t + 1, () -> x.safety(0, team, true));
        }
        check.due(0, () -> x.enter(0, 0, 0, 0, false));
        check.due(15, () -> x.boardAt(0, 3));
    }

    // A task (0 .. 9), a place.

    void tasksOfEnter() {
        range(0, 9, task -> Scenes.small().enter(0, 0, task, 0, false));
        range(0, 9, task -> Scenes.small().enter(0, 0, task, 0, true));
    }

    void placesOfEnter() {
        range(0, 5, place -> Scenes.small().enter(0, 0, 0, place, false));
        range(0, 5, place -> Scenes.small().enter(0, 0, 0, place, true));
    }

    void eachTaskAndPlaceIsHeld() {
        for (int task = 0; task <= 9; task++) {
            for (int place = 0; place <= 5; place++) {
                EntryRows x = Scenes.small();
                x.enter(0, 0, task, place, false);
                check.due(place, () -> x.person(2, 2));
                check.due(task, () -> x.person(2, 3));
            }
        }
    }

    // The REST (0 .. 10,000 seconds; 600 at first).

    void secondsOfRest() {
        range(0, 10_000, s -> new EntryRows().rest(s));
    }

    void restIs600AtFirst() {
        restsFor(Scenes.inside(0), 600);
    }

    void restOfOneSecond() {
        EntryRows x = Scenes.inside(0);
        x.rest(1);
        restsFor(x, 1);
    }

    void longestRest() {
        EntryRows x = Scenes.inside(0);
        x.rest(10_000);
        restsFor(x, 10_000);
    }

    void noRestAtAll() {
        EntryRows x = Scenes.inside(0);
        x.rest(0);
        x.tick(5);
        x.out(0, 0);
        check.due(5, () -> x.person(0, 5));
        check.due(1, () -> x.safety(0, 15, true));
        check.due(1, () -> x.enter(0, 15, 0, 0, false));
    }

    /** The second of its end is not one of the rest any more. */
    private void restsFor(EntryRows x, int seconds) {
        x.tick(5);
        x.safety(0, 15, true);
        x.out(0, 0);
        check.due(5 + seconds, () -> x.person(0, 5));
        Scenes.goOn(x, seconds - 1);
        check.due(0, () -> x.boardAt(0, 3));
        check.state(() -> x.enter(0, 15, 0, 0, false));
        x.tick(1);
        check.due(1, () -> x.boardAt(0, 3));
        check.due(1, () -> x.enter(0, 15, 0, 0, false));
        check.due(5 + seconds, () -> x.person(0, 5));
    }

    // Time goes on (1 .. 5,000 seconds); TIME is in seconds, 0 .. 999,999.

    void secondsOfTick() {
        range(1, 5_000, s -> new EntryRows().tick(s));
    }

    void tickAtEitherEndIsTakenInFull() {
        EntryRows x = new EntryRows();
        check.due(0, () -> x.count(0));
        x.tick(1);
        check.due(1, () -> x.count(0));
        x.tick(5_000);
        check.due(5_001, () -> x.count(0));
    }

    void timeGoesToTheLastSecondAndNotBeyond() {
        EntryRows x = new EntryRows();
        Scenes.goOn(x, 995_000);
        check.range(() -> x.tick(5_000));
        check.due(995_000, () -> x.count(0));
        x.tick(4_998);
        check.range(() -> x.tick(2));
        check.range(() -> x.tick(5_000));
        check.due(999_998, () -> x.count(0));
        check.fine(() -> x.tick(1));
        check.due(999_999, () -> x.count(0));
        check.range(() -> x.tick(1));
        check.range(() -> x.tick(MAX));
        check.due(999_999, () -> x.count(0));
    }

    void lastSecondIsReachedByAFullTick() {
        EntryRows x = new EntryRows();
        x.tick(4_999);
        Scenes.goOn(x, 990_000);
        check.due(994_999, () -> x.count(0));
        check.fine(() -> x.tick(5_000));
        check.due(999_999, () -> x.count(0));
    }

    /** The most that a person's seconds, heat and rest can come to. */
    void workHeatAndRestAtTheLastSecond() {
        EntryRows x = Scenes.inside(39);
        x.heat(0, 100);
        x.rest(10_000);
        Scenes.goOn(x, 999_999);
        check.due(999_999, () -> x.out(0, 39));
        check.due(999_999, () -> x.person(39, 6));
        check.due(99_999_900, () -> x.person(39, 7));
        check.due(1_009_999, () -> x.person(39, 5));
        check.state(() -> x.enter(0, 15, 0, 0, false));
    }

    void goingInAtTheLastSecond() {
        EntryRows x = Scenes.small();
        Scenes.goOn(x, 999_999);
        check.due(0, () -> x.enter(0, 0, 0, 0, false));
        check.due(999_999, () -> x.person(1, 4));
        check.due(0, () -> x.out(0, 1));
        check.due(0, () -> x.person(1, 6));
    }

    // MEMBERS (persons, at most 6; a person in at most one team).

    void membersAreAtMostSix() {
        for (int team = 0; team < 16; team++) {
            EntryRows x = new EntryRows();
            int t = team;
            for (int n = 1; n <= 6; n++) {
                int person = 40 - n;
                int size = n;
                check.due(size, () -> x.member(t, person, true));
            }
            check.noRoom(() -> x.member(t, 0, true));
            check.due(-1, () -> x.person(0, 8));
            check.due(5, () -> x.member(t, 36, false));
            check.due(6, () -> x.member(t, 0, true));
            check.noRoom(() -> x.member(t, 36, true));
        }
    }

    void aTeamThatIsEmptiedHasNone() {
        EntryRows x = new EntryRows();
        Scenes.team(x, 3, 0, 39);
        check.due(1, () -> x.member(3, 0, false));
        check.due(0, () -> x.member(3, 39, false));
        check.state(() -> x.member(3, 39, false));
        check.due(1, () -> x.member(3, 39, true));
    }

    void aPersonIsInAtMostOneTeam() {
        EntryRows x = new EntryRows();
        x.member(0, 7, true);
        for (int t = 0; t < 16; t++) {
            int team = t;
            check.state(() -> x.member(team, 7, true));
        }
        check.due(0, () -> x.person(7, 8));
    }

    void allPersonsMayBeInTeams() {
        EntryRows x = new EntryRows();
        for (int p = 0; p < 40; p++) {
            int person = p;
            check.due(1 + p % 6, () -> x.member(person / 6, person, true));
        }
        for (int p = 0; p < 40; p++) {
            int person = p;
            check.due(p / 6, () -> x.person(person, 8));
        }
    }

    // The i-th (0 first); -1 when there are not so many; below 0 is outside the range.

    void numbersOfOn() {
        notNegative(i -> Scenes.busy().on(0, i));
        notNegative(i -> Scenes.busy().on(2, i));
    }

    void numbersOfLate() {
        notNegative(i -> Scenes.busy().late(i));
        notNegative(i -> new EntryRows().late(i));
    }

    void onOfAnEmptyBoard() {
        EntryRows x = Scenes.boards(1);
        check.due(-1, () -> x.on(0, 0));
        check.due(-1, () -> x.on(0, 1));
        check.due(-1, () -> x.on(0, MAX));
    }

    void lateOfNobody() {
        EntryRows x = Scenes.inside(0);
        check.due(-1, () -> x.late(0));
        x.tick(100);
        check.due(-1, () -> x.late(0));
        check.due(-1, () -> x.late(MAX));
    }

    /** 39 are the most that can be inside, as one of the 40 keeps the board. */
    void onAndLateOfAsManyAsMayBeInside() {
        EntryRows x = Scenes.crowd(39);
        check.due(39, () -> x.count(1));
        check.due(39, () -> x.boardAt(0, 2));
        check.due(39, () -> x.tick(101));
        for (int i = 0; i < 39; i++) {
            int n = i;
            check.due(i, () -> x.on(0, n));
            check.due(i, () -> x.late(n));
        }
        for (int beyond : new int[] {39, 40, 41, MAX}) {
            check.due(-1, () -> x.on(0, beyond));
            check.due(-1, () -> x.late(beyond));
        }
    }

    void theFortiethKeepsAndCannotGoIn() {
        EntryRows x = Scenes.crowd(39);
        x.member(15, 39, true);
        check.state(() -> x.enter(0, 15, 0, 0, false));
        check.state(() -> x.keep(0, 38));
        check.due(39, () -> x.count(1));
    }

    // Unknown: no such what.

    void whatsOfPerson() {
        known(9, what -> Scenes.busy().person(0, what));
        known(9, what -> Scenes.busy().person(39, what));
    }

    void whatsOfBoardAt() {
        known(4, what -> Scenes.busy().boardAt(0, what));
        known(4, what -> Scenes.busy().boardAt(2, what));
    }

    void whatsOfCount() {
        known(3, what -> new EntryRows().count(what));
        known(3, what -> Scenes.busy().count(what));
    }
}
