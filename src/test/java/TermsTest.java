/** The sentences of the sections "What it is" and "Terms", at the cases where each of them turns. */
public final class TermsTest {
    private final Check check = new Check();

    public static void main(String[] args) {
        TermsTest t = new TermsTest();
        t.check.runAll(t);
        t.check.end();
    }

    private static void outAndRested(EntryRows x, int board, int person) {
        x.out(board, person);
        Scenes.goOn(x, 10_000);
    }

    // Promise 1: No boards, no members.

    void newObjectHasNoBoards() {
        EntryRows x = new EntryRows();
        for (int b = 0; b < 8; b++) {
            int board = b;
            check.unknown(() -> x.keep(board, 0));
            check.unknown(() -> x.safety(board, 0, true));
            check.unknown(() -> x.safety(board, 0, false));
            check.unknown(() -> x.enter(board, 0, 0, 0, true));
            check.unknown(() -> x.out(board, 0));
            check.unknown(() -> x.join(board, 0));
            check.unknown(() -> x.close(board));
            check.unknown(() -> x.on(board, 0));
            check.unknown(() -> x.boardAt(board, 0));
        }
        check.due(0, () -> x.count(3));
        check.due(0, () -> x.board(1, 1, 0));
    }

    void newObjectHasNoMembers() {
        EntryRows x = new EntryRows();
        for (int t = 0; t < 16; t++) {
            int team = t;
            check.state(() -> x.member(team, team, false));
            check.due(1, () -> x.member(team, team, true));
        }
    }

    void inANewObjectNobodyHasARightOrIsInside() {
        for (int p = 1; p < 40; p++) {
            EntryRows x = new EntryRows();
            x.board(1, 1, 1);
            x.keep(0, p);
            x.member(0, 0, true);
            check.state(() -> x.enter(0, 0, 0, 0, true));
            check.due(0, () -> x.count(1));
            check.due(0, () -> x.count(2));
        }
    }

    void inANewObjectEverybodyIsNowhere() {
        EntryRows x = new EntryRows();
        int[] due = {-1, -1, -1, -1, -1, 0, 0, 0, -1, -1};
        for (int p = 0; p < 40; p++) {
            for (int what = 0; what < 10; what++) {
                int person = p;
                int w = what;
                check.due(due[what], () -> x.person(person, w));
            }
        }
    }

    void oneObjectKnowsNothingOfAnother() {
        EntryRows busy = Scenes.busy();
        EntryRows x = new EntryRows();
        check.unknown(() -> x.boardAt(0, 0));
        check.due(0, () -> x.count(0));
        check.due(0, () -> x.count(2));
        check.due(1, () -> x.member(0, 1, true));
        check.due(120, () -> busy.count(0));
        check.due(0, () -> busy.person(1, 0));
    }

    // An object is used for at most 512 calls.

    void theLastOfThe512Calls() {
        EntryRows x = Scenes.small();
        // 5 calls made the scene; the last one of all is the reading.
        for (int call = 5; call < 510; call++) {
            x.right(call % 40, true);
        }
        x.enter(0, 0, 3, 4, false);
        check.due(1, () -> x.person(2, 1));
    }

    // THE SECOND is 0 at first and goes on by tick().

    void onlyTickMovesTheSecond() {
        EntryRows x = Scenes.small();
        x.rest(5);
        x.heat(0, 5);
        x.right(0, true);
        x.board(1, 1, 0);
        x.enter(0, 0, 0, 0, false);
        x.swap(1, 2);
        x.out(0, 1);
        x.join(0, 1);
        check.due(0, () -> x.count(0));
        x.tick(1);
        check.due(1, () -> x.count(0));
    }

    // A person is INSIDE, on one board, with a TALLY, a task, a place, the second of going in; or not.

    void aTeamInsideCannotGoInOnAnotherBoard() {
        EntryRows x = Scenes.small();
        x.board(1, 10, 0);
        x.keep(1, 38);
        x.right(38, true);
        x.enter(0, 0, 0, 0, false);
        check.state(() -> x.enter(1, 0, 0, 0, false));
        check.state(() -> x.enter(1, 0, 0, 0, true));
        check.due(0, () -> x.person(1, 0));
        check.due(0, () -> x.boardAt(1, 2));
    }

    void talliesGoOnOverAllBoards() {
        EntryRows x = Scenes.boards(2);
        Scenes.team(x, 0, 5, 6);
        Scenes.team(x, 1, 0);
        Scenes.team(x, 2, 1, 2, 3);
        check.due(0, () -> x.enter(1, 0, 0, 0, false));
        check.due(2, () -> x.enter(0, 1, 0, 0, false));
        check.due(3, () -> x.enter(1, 2, 0, 0, false));
        check.due(6, () -> x.count(2));
    }

    void aTallyIsNotGivenAgain() {
        EntryRows x = Scenes.small();
        x.rest(0);
        x.enter(0, 0, 0, 0, false);
        x.out(0, 2);
        x.out(0, 1);
        check.due(2, () -> x.count(2));
        check.due(2, () -> x.enter(0, 0, 0, 0, false));
        check.due(4, () -> x.count(2));
    }

    void aRefusedEntryUsesNoTally() {
        EntryRows x = Scenes.small();
        check.state(() -> x.enter(0, 9, 0, 0, false));
        check.range(() -> x.enter(0, 0, 10, 0, false));
        check.due(0, () -> x.count(2));
        check.due(0, () -> x.enter(0, 0, 0, 0, false));
    }

    // Behind coming out a person RESTS for the REST, as it was told at the coming out.

    void restToldWhileInsideCounts() {
        EntryRows x = Scenes.inside(4);
        x.rest(70);
        x.out(0, 4);
        check.due(70, () -> x.person(4, 5));
    }

    void restToldBehindTheComingOutDoesNotCount() {
        EntryRows x = Scenes.inside(4);
        x.out(0, 4);
        x.rest(0);
        check.due(600, () -> x.person(4, 5));
        check.state(() -> x.enter(0, 15, 0, 0, false));
        x.rest(10_000);
        x.tick(600);
        check.due(1, () -> x.enter(0, 15, 0, 0, false));
    }

    void restBeginsAtTheComingOutNotAtTheGoingIn() {
        EntryRows x = Scenes.inside(4);
        x.tick(700);
        x.out(0, 4);
        check.due(1_300, () -> x.person(4, 5));
        check.state(() -> x.enter(0, 15, 0, 0, false));
    }

    // A team is READY for a board when it has at least as many members as the least size ..

    void readyForOneBoardAndNotForAnother() {
        EntryRows x = new EntryRows();
        x.board(2, 10, 0);
        x.board(3, 10, 0);
        x.keep(0, 38);
        x.keep(1, 39);
        Scenes.team(x, 0, 1, 2);
        check.due(0, () -> x.safety(1, 0, true));
        check.state(() -> x.enter(1, 0, 0, 0, false));
        x.safety(1, 0, false);
        check.due(1, () -> x.safety(0, 0, true));
        check.due(0, () -> x.enter(0, 0, 0, 0, false));
    }

    void anEmptyTeamIsNeverReady() {
        EntryRows x = Scenes.boards(1);
        x.right(20, true);
        check.due(0, () -> x.safety(0, 3, true));
        check.state(() -> x.enter(0, 3, 0, 0, false));
        check.state(() -> x.enter(0, 3, 0, 0, true));
    }

    // .. and none of them is inside, rests, or keeps a board.

    /** Team 0 is 1 to 6, a safety team of board 1; boards 0 and 1 are kept by 38 and 39. */
    private static EntryRows sixMembers() {
        EntryRows x = new EntryRows();
        x.board(1, 100, 0);
        x.board(1, 100, 0);
        x.keep(0, 38);
        x.keep(1, 39);
        Scenes.team(x, 0, 1, 2, 3, 4, 5, 6);
        x.safety(1, 0, true);
        return x;
    }

    private void ready(EntryRows x) {
        check.due(1, () -> x.boardAt(1, 3));
        int tallies = x.count(2);
        check.due(tallies, () -> x.enter(0, 0, 0, 0, false));
    }

    private void notReady(EntryRows x) {
        check.due(0, () -> x.boardAt(1, 3));
        check.state(() -> x.enter(0, 0, 0, 0, false));
        check.state(() -> x.enter(1, 0, 0, 0, false));
    }

    void oneWhoIsInsideHinders() {
        for (int left = 1; left <= 6; left++) {
            EntryRows x = sixMembers();
            x.rest(0);
            x.enter(0, 0, 0, 0, false);
            for (int p = 1; p <= 6; p++) {
                if (p != left) {
                    x.out(0, p);
                }
            }
            notReady(x);
            x.out(0, left);
            ready(x);
        }
    }

    void oneWhoRestsHinders() {
        for (int tired = 1; tired <= 6; tired++) {
            EntryRows x = sixMembers();
            x.rest(0);
            x.enter(0, 0, 0, 0, false);
            for (int p = 1; p <= 6; p++) {
                x.rest(p == tired ? 20 : 0);
                x.out(0, p);
            }
            x.tick(19);
            notReady(x);
            x.tick(1);
            ready(x);
        }
    }

    void oneWhoKeepsHinders() {
        for (int keeper = 1; keeper <= 6; keeper++) {
            EntryRows x = sixMembers();
            x.board(1, 1, 0);
            x.keep(2, keeper);
            notReady(x);
            x.keep(2, 30);
            ready(x);
        }
    }

    void aKeeperHindersOnTheOwnBoardToo() {
        EntryRows x = sixMembers();
        x.keep(0, 3);
        notReady(x);
        x.keep(0, 38);
        ready(x);
    }

    void whoHindersMayLeaveTheTeam() {
        EntryRows x = sixMembers();
        x.enter(0, 0, 0, 0, false);
        x.rest(0);
        for (int p = 1; p <= 5; p++) {
            x.out(0, p);
        }
        x.rest(100);
        x.out(0, 6);
        notReady(x);
        check.due(5, () -> x.member(0, 6, false));
        ready(x);
    }

    void whoHindersMayComeIntoTheTeam() {
        EntryRows x = sixMembers();
        x.member(0, 1, false);
        x.member(0, 38, true);
        notReady(x);
        x.member(0, 38, false);
        ready(x);
    }

    // SAFETY teams of a board are told; a team is one for at most one board; those that are ready count.

    void aSafetyTeamOfAtMostOneBoard() {
        EntryRows x = Scenes.boards(8);
        x.safety(5, 2, true);
        for (int b = 0; b < 8; b++) {
            int board = b;
            check.state(() -> x.safety(board, 2, true));
        }
        check.due(0, () -> x.safety(5, 2, false));
        check.due(0, () -> x.safety(6, 2, true));
    }

    void aSafetyTeamOfAnotherBoardDoesNotCount() {
        EntryRows x = new EntryRows();
        x.board(1, 10, 1);
        x.board(1, 10, 0);
        x.keep(0, 39);
        Scenes.team(x, 0, 0);
        Scenes.team(x, 1, 1);
        x.safety(1, 1, true);
        check.due(0, () -> x.boardAt(0, 3));
        check.state(() -> x.enter(0, 0, 0, 0, false));
    }

    void aReadyTeamThatWasNotToldDoesNotCount() {
        EntryRows x = new EntryRows();
        x.board(1, 10, 1);
        x.keep(0, 39);
        Scenes.team(x, 0, 0);
        Scenes.team(x, 1, 1);
        check.state(() -> x.enter(0, 0, 0, 0, false));
        x.safety(0, 1, true);
        check.due(0, () -> x.enter(0, 0, 0, 0, false));
    }

    void aSafetyTeamThatIsNotReadyDoesNotCount() {
        EntryRows x = new EntryRows();
        x.board(2, 10, 1);
        x.keep(0, 39);
        Scenes.team(x, 0, 0, 1);
        Scenes.team(x, 1, 2);
        check.due(0, () -> x.safety(0, 1, true));
        check.state(() -> x.enter(0, 0, 0, 0, false));
        x.member(1, 3, true);
        check.due(1, () -> x.boardAt(0, 3));
        check.due(0, () -> x.enter(0, 0, 0, 0, false));
    }

    void aSafetyTeamThatIsNoneAnyMoreDoesNotCount() {
        EntryRows x = new EntryRows();
        x.board(1, 10, 1);
        x.keep(0, 39);
        Scenes.team(x, 0, 0);
        Scenes.team(x, 1, 1);
        x.safety(0, 1, true);
        check.due(0, () -> x.safety(0, 1, false));
        check.state(() -> x.enter(0, 0, 0, 0, false));
    }

    // .. so many OTHER teams are ready as its safety teams as it needs.

    void theTeamItselfDoesNotCount() {
        for (int need = 1; need <= 3; need++) {
            EntryRows x = new EntryRows();
            x.board(1, 10, need);
            x.keep(0, 39);
            for (int t = 0; t < need; t++) {
                Scenes.team(x, t, t);
                x.safety(0, t, true);
            }
            check.due(need, () -> x.boardAt(0, 3));
            check.state(() -> x.enter(0, 0, 0, 0, false));
            Scenes.team(x, 15, 30);
            x.safety(0, 15, true);
            check.due(0, () -> x.enter(0, 0, 0, 0, false));
            check.due(need, () -> x.boardAt(0, 3));
        }
    }

    void aSafetyTeamThatWentInCountsNoMoreAndStaysOne() {
        EntryRows x = new EntryRows();
        x.board(1, 10, 0);
        x.keep(0, 39);
        Scenes.team(x, 0, 0);
        x.rest(0);
        x.safety(0, 0, true);
        x.enter(0, 0, 0, 0, false);
        check.due(0, () -> x.boardAt(0, 3));
        check.state(() -> x.safety(0, 0, true));
        x.out(0, 0);
        check.due(1, () -> x.boardAt(0, 3));
    }

    // A team GOES IN: when the board is open and has a keeper, the team is ready for it ..

    void aBoardWithoutAKeeperLetsNobodyIn() {
        EntryRows x = new EntryRows();
        x.board(1, 10, 0);
        Scenes.team(x, 0, 0);
        for (int p = 0; p < 40; p++) {
            x.right(p, true);
        }
        check.state(() -> x.enter(0, 0, 0, 0, false));
        check.state(() -> x.enter(0, 0, 0, 0, true));
        x.keep(0, 39);
        check.due(0, () -> x.enter(0, 0, 0, 0, false));
    }

    void aClosedBoardLetsNobodyIn() {
        EntryRows x = Scenes.boards(3);
        Scenes.team(x, 0, 0);
        x.right(20, true);
        x.right(21, true);
        x.close(0);
        x.join(1, 2);
        for (int b = 0; b < 2; b++) {
            int board = b;
            check.state(() -> x.enter(board, 0, 0, 0, false));
            check.state(() -> x.enter(board, 0, 0, 0, true));
        }
        check.due(0, () -> x.enter(2, 0, 0, 0, false));
    }

    // .. or, without these, as a RESCUE, when its keeper may let it (a right of persons).

    /** Board 0 needs 3 safety teams and has none; it is kept by 39; team 0 is 0, team 1 is 1. */
    private static EntryRows withoutSafety() {
        EntryRows x = new EntryRows();
        x.board(1, 10, 3);
        x.keep(0, 39);
        Scenes.team(x, 0, 0);
        Scenes.team(x, 1, 1);
        return x;
    }

    void aRescueNeedsTheKeepersRight() {
        EntryRows x = withoutSafety();
        check.state(() -> x.enter(0, 0, 0, 0, true));
        x.right(39, true);
        check.state(() -> x.enter(0, 0, 0, 0, false));
        check.due(0, () -> x.enter(0, 0, 0, 0, true));
        x.right(39, false);
        check.state(() -> x.enter(0, 1, 0, 0, true));
    }

    void theRightOfNobodyElseHelps() {
        EntryRows x = withoutSafety();
        for (int p = 0; p < 39; p++) {
            x.right(p, true);
        }
        check.state(() -> x.enter(0, 0, 0, 0, true));
    }

    void theRightGoesWithThePersonToAnotherBoard() {
        EntryRows x = withoutSafety();
        x.right(39, true);
        x.keep(0, 38);
        check.state(() -> x.enter(0, 0, 0, 0, true));
        x.board(1, 10, 3);
        x.keep(1, 39);
        check.due(0, () -> x.enter(1, 0, 0, 0, true));
    }

    void aRightToldTwiceIsTakenAwayAtOnce() {
        EntryRows x = withoutSafety();
        x.right(39, true);
        x.right(39, true);
        x.right(39, false);
        check.state(() -> x.enter(0, 0, 0, 0, true));
        check.fine(() -> x.right(39, false));
    }

    void aRescueNeedsAReadyTeam() {
        EntryRows x = withoutSafety();
        x.right(39, true);
        x.enter(0, 0, 0, 0, true);
        check.state(() -> x.enter(0, 0, 0, 0, true));
        x.out(0, 0);
        check.state(() -> x.enter(0, 0, 0, 0, true));
        check.state(() -> x.enter(0, 9, 0, 0, true));
        x.tick(600);
        check.due(1, () -> x.enter(0, 0, 0, 0, true));
    }

    void withEnoughSafetyTeamsARescueNeedsNoRight() {
        EntryRows x = withoutSafety();
        for (int t = 2; t < 5; t++) {
            Scenes.team(x, t, t);
            x.safety(0, t, true);
        }
        check.due(0, () -> x.enter(0, 0, 0, 0, true));
        check.state(() -> x.enter(0, 2, 0, 0, true));
    }

    // All members go in, by numbers.

    void membersGoInByNumbersNotByTheOrderOfComing() {
        EntryRows x = new EntryRows();
        x.board(6, 10, 0);
        x.keep(0, 20);
        Scenes.team(x, 4, 39, 0, 17, 38, 1, 16);
        x.tick(9);
        check.due(0, () -> x.enter(0, 4, 7, 3, false));
        int[] byNumbers = {0, 1, 16, 17, 38, 39};
        for (int i = 0; i < 6; i++) {
            int p = byNumbers[i];
            int tally = i;
            check.due(p, () -> x.on(0, tally));
            check.due(0, () -> x.person(p, 0));
            check.due(tally, () -> x.person(p, 1));
            check.due(3, () -> x.person(p, 2));
            check.due(7, () -> x.person(p, 3));
            check.due(9, () -> x.person(p, 4));
        }
        check.due(6, () -> x.count(1));
        check.due(6, () -> x.count(2));
    }

    void onlyMembersGoIn() {
        EntryRows x = Scenes.small();
        x.enter(0, 0, 0, 0, false);
        for (int p = 0; p < 40; p++) {
            int person = p;
            check.due(p == 1 || p == 2 ? 0 : -1, () -> x.person(person, 0));
        }
    }

    // A person comes OUT by the board that has the person.

    void outByNoOtherBoard() {
        EntryRows x = Scenes.boardsInUse(8);
        for (int b = 0; b < 8; b++) {
            for (int p = 0; p < 8; p++) {
                int board = b;
                int person = p;
                if (b != p) {
                    check.state(() -> x.out(board, person));
                }
            }
        }
        for (int b = 0; b < 8; b++) {
            int board = b;
            check.due(0, () -> x.out(board, board));
            check.due(7 - b, () -> x.count(1));
        }
    }

    void outInTheSecondOfGoingIn() {
        EntryRows x = Scenes.inside(8);
        x.heat(0, 100);
        check.due(0, () -> x.out(0, 8));
        check.due(0, () -> x.person(8, 6));
        check.due(0, () -> x.person(8, 7));
        check.due(600, () -> x.person(8, 5));
    }

    void whoIsOutIsNowhere() {
        EntryRows x = Scenes.inside(8);
        x.out(0, 8);
        for (int what = 0; what < 5; what++) {
            int w = what;
            check.due(-1, () -> x.person(8, w));
        }
        check.due(15, () -> x.person(8, 8));
        check.due(-1, () -> x.on(0, 0));
        check.due(0, () -> x.boardAt(0, 2));
        check.state(() -> x.out(0, 8));
    }

    // The seconds inside are WORK, and times the place's heat (as it is at the coming out) HEAT.

    void theHeatAtTheComingOutCountsForAllSeconds() {
        EntryRows x = Scenes.small();
        x.heat(4, 10);
        x.enter(0, 0, 0, 4, false);
        x.tick(6);
        x.heat(4, 100);
        x.tick(1);
        x.heat(4, 3);
        x.heat(3, 50);
        check.due(7, () -> x.out(0, 1));
        check.due(21, () -> x.person(1, 7));
        x.heat(4, 0);
        check.due(21, () -> x.person(1, 7));
        check.due(7, () -> x.out(0, 2));
        check.due(0, () -> x.person(2, 7));
    }

    void workAndHeatAreSummedForEachPerson() {
        EntryRows x = Scenes.small();
        x.rest(0);
        x.heat(0, 2);
        x.heat(1, 5);
        x.enter(0, 0, 0, 0, false);
        x.tick(10);
        x.out(0, 1);
        x.tick(1);
        x.out(0, 2);
        x.enter(0, 0, 0, 1, false);
        x.tick(4);
        check.due(4, () -> x.out(0, 1));
        check.due(4, () -> x.out(0, 2));
        check.due(14, () -> x.person(1, 6));
        check.due(20 + 20, () -> x.person(1, 7));
        check.due(15, () -> x.person(2, 6));
        check.due(22 + 20, () -> x.person(2, 7));
        check.due(0, () -> x.person(3, 6));
    }

    void workIsSummedAtTheComingOutOnly() {
        EntryRows x = Scenes.inside(8);
        x.heat(0, 9);
        x.tick(50);
        check.due(0, () -> x.person(8, 6));
        check.due(0, () -> x.person(8, 7));
    }

    // A board that is JOINED to another open one passes all persons on it to that, with their tallies ..

    void joinedPersonsKeepAllButTheBoard() {
        EntryRows x = Scenes.boards(2);
        Scenes.team(x, 0, 3, 4);
        x.tick(5);
        x.enter(0, 0, 6, 2, false);
        x.tick(7);
        check.due(2, () -> x.join(0, 1));
        int[] due = {1, 1, 2, 6, 5, 0, 0, 0, 0, -1};
        for (int what = 0; what < 10; what++) {
            int w = what;
            check.due(due[what], () -> x.person(4, w));
        }
        check.state(() -> x.out(0, 4));
        check.due(7, () -> x.out(1, 4));
        check.due(7, () -> x.person(4, 6));
    }

    void joinOfEmptyBoards() {
        EntryRows x = Scenes.boards(2);
        check.due(0, () -> x.join(1, 0));
        check.due(0, () -> x.boardAt(1, 0));
        check.due(1, () -> x.boardAt(0, 0));
    }

    void joinOfAnEmptyBoardToOneInUse() {
        EntryRows x = Scenes.boards(2);
        Scenes.team(x, 0, 3, 4);
        x.enter(1, 0, 0, 0, false);
        check.due(2, () -> x.join(0, 1));
        check.due(2, () -> x.boardAt(1, 2));
    }

    void joinMixesTheTallies() {
        EntryRows x = Scenes.boards(2);
        for (int t = 0; t < 4; t++) {
            Scenes.team(x, t, 9 - t);
            x.enter(t % 2, t, 0, 0, false);
        }
        check.due(4, () -> x.join(1, 0));
        for (int i = 0; i < 4; i++) {
            int n = i;
            check.due(9 - i, () -> x.on(0, n));
        }
        check.due(-1, () -> x.on(0, 4));
        check.due(-1, () -> x.on(1, 0));
    }

    void joinedOneBehindTheOther() {
        EntryRows x = Scenes.boardsInUse(8);
        for (int b = 0; b < 7; b++) {
            int board = b;
            check.due(b + 2, () -> x.join(board, board + 1));
            check.due(7 - b, () -> x.count(3));
        }
        check.due(8, () -> x.boardAt(7, 2));
        check.due(8, () -> x.count(1));
        check.state(() -> x.join(7, 0));
        check.state(() -> x.join(7, 7));
    }

    // .. it is closed ..

    void aJoinedBoardIsClosed() {
        EntryRows x = Scenes.boardsInUse(3);
        x.join(0, 1);
        check.due(0, () -> x.boardAt(0, 0));
        check.due(-1, () -> x.boardAt(0, 1));
        check.due(0, () -> x.boardAt(0, 2));
        check.due(0, () -> x.boardAt(0, 3));
        check.due(0, () -> x.boardAt(0, 4));
        check.state(() -> x.keep(0, 30));
        check.state(() -> x.safety(0, 15, true));
        check.state(() -> x.safety(0, 15, false));
        check.state(() -> x.enter(0, 15, 0, 0, true));
        check.state(() -> x.out(0, 0));
        check.state(() -> x.join(0, 2));
        check.state(() -> x.join(2, 0));
        check.state(() -> x.close(0));
    }

    void theOtherBoardStaysAsItWas() {
        EntryRows x = new EntryRows();
        x.board(1, 10, 0);
        x.board(2, 20, 1);
        x.keep(0, 38);
        x.keep(1, 39);
        Scenes.team(x, 0, 0);
        Scenes.team(x, 1, 1, 2);
        Scenes.team(x, 2, 3, 4);
        x.enter(0, 0, 0, 0, false);
        x.join(0, 1);
        check.due(1, () -> x.boardAt(1, 0));
        check.due(39, () -> x.boardAt(1, 1));
        check.due(1, () -> x.person(39, 9));
        check.state(() -> x.enter(1, 1, 0, 0, false));
        x.safety(1, 2, true);
        check.due(1, () -> x.enter(1, 1, 0, 0, false));
        check.due(0, () -> x.tick(20));
        check.due(3, () -> x.tick(1));
    }

    // .. its safety teams are the other one's.

    void theSafetyTeamsPassOnWithAJoin() {
        EntryRows x = new EntryRows();
        x.board(1, 10, 0);
        x.board(2, 10, 2);
        x.board(1, 10, 0);
        x.keep(1, 39);
        Scenes.team(x, 0, 0, 1);
        Scenes.team(x, 1, 2);
        Scenes.team(x, 2, 3, 4);
        Scenes.team(x, 3, 5, 6);
        x.safety(0, 0, true);
        x.safety(0, 1, true);
        x.safety(1, 2, true);
        check.due(2, () -> x.boardAt(0, 3));
        check.state(() -> x.enter(1, 3, 0, 0, false));
        x.join(0, 1);
        // Team 1 was enough for board 0; it is board 1's now, for which it is too small.
        check.due(2, () -> x.boardAt(1, 3));
        check.state(() -> x.safety(2, 1, true));
        check.due(0, () -> x.enter(1, 3, 0, 0, false));
        check.due(2, () -> x.safety(1, 1, false));
        check.due(1, () -> x.safety(1, 0, false));
        check.due(1, () -> x.safety(2, 0, true));
    }

    // A board is CLOSED by itself only when nobody is on it; its safety teams are none then.

    void closedWhenTheLastIsOut() {
        EntryRows x = Scenes.small();
        x.enter(0, 0, 0, 0, false);
        check.state(() -> x.close(0));
        x.out(0, 1);
        check.state(() -> x.close(0));
        check.due(1, () -> x.boardAt(0, 0));
        x.out(0, 2);
        check.fine(() -> x.close(0));
        check.due(0, () -> x.boardAt(0, 0));
        check.due(0, () -> x.count(3));
    }

    void aBoardThatNobodyEverUsedIsClosed() {
        EntryRows x = new EntryRows();
        x.board(1, 1, 0);
        check.fine(() -> x.close(0));
        check.state(() -> x.close(0));
        check.due(0, () -> x.boardAt(0, 0));
    }

    void theSafetyTeamsOfAClosedBoardAreNone() {
        EntryRows x = Scenes.boards(2);
        Scenes.team(x, 0, 0);
        x.safety(0, 0, true);
        x.safety(0, 1, true);
        x.close(0);
        check.due(0, () -> x.boardAt(0, 3));
        check.state(() -> x.safety(1, 0, false));
        check.due(1, () -> x.safety(1, 0, true));
        check.due(1, () -> x.safety(1, 1, true));
    }

    void closingOneLeavesTheOthersSafetyTeams() {
        EntryRows x = Scenes.boards(2);
        Scenes.team(x, 0, 0);
        x.safety(1, 0, true);
        x.close(0);
        check.due(1, () -> x.boardAt(1, 3));
        check.due(21, () -> x.boardAt(1, 1));
    }

    // Either has no keeper any more.

    void theKeeperOfAClosedBoardIsFree() {
        EntryRows x = Scenes.boards(2);
        Scenes.team(x, 0, 20);
        x.close(0);
        check.due(-1, () -> x.boardAt(0, 1));
        check.due(-1, () -> x.person(20, 9));
        check.due(0, () -> x.enter(1, 0, 0, 0, false));
    }

    void theKeeperOfAJoinedBoardIsFree() {
        EntryRows x = Scenes.boards(2);
        Scenes.team(x, 0, 20);
        x.join(0, 1);
        check.due(-1, () -> x.boardAt(0, 1));
        check.due(-1, () -> x.person(20, 9));
        check.due(0, () -> x.enter(1, 0, 0, 0, false));
    }

    void joinToABoardWithoutAKeeperBringsNone() {
        EntryRows x = Scenes.inside(3);
        x.board(1, 10, 0);
        x.join(0, 1);
        check.due(-1, () -> x.boardAt(1, 1));
        check.due(-1, () -> x.person(39, 9));
        check.fine(() -> x.keep(1, 39));
    }

    // A SWAP gives each of two persons inside the other one's tally.

    void aSwapChangesTalliesAlone() {
        EntryRows x = Scenes.boards(2);
        Scenes.team(x, 0, 3);
        Scenes.team(x, 1, 4);
        x.enter(0, 0, 1, 2, false);
        x.tick(5);
        x.enter(1, 1, 3, 4, false);
        x.swap(3, 4);
        int[] dueOf3 = {0, 1, 2, 1, 0, 0, 0, 0, 0, -1};
        int[] dueOf4 = {1, 0, 4, 3, 5, 0, 0, 0, 1, -1};
        for (int what = 0; what < 10; what++) {
            int w = what;
            check.due(dueOf3[what], () -> x.person(3, w));
            check.due(dueOf4[what], () -> x.person(4, w));
        }
        check.due(2, () -> x.count(2));
    }

    void aSwapBothWaysRound() {
        EntryRows x = Scenes.small();
        x.enter(0, 0, 0, 0, false);
        x.swap(1, 2);
        check.due(2, () -> x.on(0, 0));
        x.swap(1, 2);
        check.due(1, () -> x.on(0, 0));
        x.swap(2, 1);
        check.due(2, () -> x.on(0, 0));
        check.due(1, () -> x.on(0, 1));
    }

    void aSwapOfTheFirstAndTheLastPerson() {
        EntryRows x = new EntryRows();
        x.board(1, 10, 0);
        x.keep(0, 20);
        Scenes.team(x, 0, 0, 39);
        x.enter(0, 0, 0, 0, false);
        check.fine(() -> x.swap(39, 0));
        check.due(1, () -> x.person(0, 1));
        check.due(0, () -> x.person(39, 1));
    }

    // THE SUM of a board is s = 0, then for each person on it, by tallies: .. in 32 bits.
    // The numbers due were worked out with whole numbers of any length, cut to 32 bits at each step.

    void theSumOfAnEmptyBoard() {
        EntryRows x = Scenes.inside(7);
        x.board(1, 1, 0);
        check.due(0, () -> x.boardAt(1, 4));
        x.out(0, 7);
        check.due(0, () -> x.boardAt(0, 4));
    }

    void theSumOfPersonZeroWithTallyZero() {
        EntryRows x = Scenes.inside(0);
        check.due(0, () -> x.boardAt(0, 4));
    }

    void theSumGoesBeyond32Bits() {
        EntryRows x = Scenes.inside(39);
        check.due(665_032_960, () -> x.boardAt(0, 4));
        EntryRows y = Scenes.crowd(39);
        check.due(-389_963_702, () -> y.boardAt(0, 4));
    }

    void theSumGoesByTallies() {
        EntryRows x = Scenes.small();
        x.enter(0, 0, 0, 0, false);
        check.due(1_592_022_284, () -> x.boardAt(0, 4));
        x.enter(0, 1, 0, 0, false);
        check.due(692_581_593, () -> x.boardAt(0, 4));
        x.swap(1, 2);
        check.due(-2_128_896_587, () -> x.boardAt(0, 4));
    }

    void theSumOfEachBoardAndOfBothJoined() {
        EntryRows x = Scenes.small();
        x.board(1, 100, 0);
        x.keep(1, 38);
        x.enter(0, 0, 0, 0, false);
        x.enter(1, 1, 0, 0, false);
        check.due(1_592_022_284, () -> x.boardAt(0, 4));
        check.due(-529_180_736, () -> x.boardAt(1, 4));
        x.join(1, 0);
        check.due(692_581_593, () -> x.boardAt(0, 4));
        check.due(0, () -> x.boardAt(1, 4));
    }

    /**
     * A tally takes a call of its own (the person comes into a team, or came out before) and a sixth
     * of one (the team's going in), so that 512 calls end below tally 440: "modulo 1,000" takes
     * nothing away from any of them, and this is as far as it can be looked at.
     */
    void theSumWithTheHighestTallies() {
        EntryRows x = new EntryRows();
        x.board(6, 1, 0);
        x.keep(0, 0);
        x.rest(0);
        Scenes.team(x, 0, 34, 35, 36, 37, 38, 39);
        for (int n = 0; n < 71; n++) {
            x.enter(0, 0, 0, 0, false);
            for (int p = 34; p < 40; p++) {
                x.out(0, p);
            }
        }
        check.due(426, () -> x.enter(0, 0, 0, 0, false));
        check.due(431, () -> x.person(39, 1));
        check.due(432, () -> x.count(2));
        check.due(1_149_916_804, () -> x.boardAt(0, 4));
    }

    // tick: how many persons CAME TO BE inside longer than their board's longest time.

    void tickWithNobodyInside() {
        EntryRows x = Scenes.small();
        check.due(0, () -> x.tick(5_000));
        check.due(0, () -> new EntryRows().tick(5_000));
    }

    void tickCountsOverAllBoardsByEachOnesTime() {
        EntryRows x = new EntryRows();
        for (int b = 0; b < 4; b++) {
            x.board(1, 10 * (b + 1), 0);
            x.keep(b, 30 + b);
            Scenes.team(x, b, b, 10 + b);
            x.enter(b, b, 0, 0, false);
        }
        check.due(0, () -> x.tick(10));
        check.due(4, () -> x.tick(11));
        check.due(0, () -> x.tick(9));
        check.due(2, () -> x.tick(1));
        check.due(2, () -> x.tick(5_000));
        check.due(0, () -> x.tick(5_000));
        check.due(13, () -> x.late(7));
    }

    void whoComesOutAndGoesInAgainIsCountedAgain() {
        EntryRows x = Scenes.inside(3);
        x.rest(0);
        check.due(1, () -> x.tick(101));
        x.out(0, 3);
        check.due(-1, () -> x.late(0));
        x.enter(0, 15, 0, 0, false);
        check.due(0, () -> x.tick(100));
        check.due(1, () -> x.tick(1));
    }

    void whoCameOutIsNotCounted() {
        EntryRows x = Scenes.small();
        x.enter(0, 0, 0, 0, false);
        x.tick(100);
        x.out(0, 1);
        check.due(1, () -> x.tick(1));
        check.due(2, () -> x.late(0));
        check.due(-1, () -> x.late(1));
    }

    void whomAJoinMadeLateNoTickCounts() {
        EntryRows x = Scenes.inside(3);
        x.board(1, 20, 0);
        x.tick(21);
        check.due(-1, () -> x.late(0));
        x.join(0, 1);
        check.due(3, () -> x.late(0));
        check.due(0, () -> x.tick(1));
    }

    void whomAJoinGaveMoreTimeIsCountedWhenThatIsOver() {
        EntryRows x = Scenes.inside(3);
        x.board(1, 200, 0);
        check.due(1, () -> x.tick(101));
        x.join(0, 1);
        check.due(-1, () -> x.late(0));
        check.due(0, () -> x.tick(99));
        check.due(1, () -> x.tick(1));
    }

    void aSwapDoesNotMoveTheTimeInside() {
        EntryRows x = Scenes.small();
        x.enter(0, 0, 0, 0, false);
        x.tick(50);
        x.enter(0, 1, 0, 0, false);
        x.swap(1, 3);
        check.due(2, () -> x.tick(51));
        check.due(1, () -> x.late(0));
        check.due(2, () -> x.late(1));
        check.due(-1, () -> x.late(2));
        check.due(101, () -> x.out(0, 1));
        check.due(51, () -> x.out(0, 3));
    }

    // keep: a board's keeper; who keeps one can't keep another, but may be relieved.

    void aNewKeeperRelievesTheOldOne() {
        EntryRows x = Scenes.boards(2);
        check.fine(() -> x.keep(0, 5));
        check.due(5, () -> x.boardAt(0, 1));
        check.due(-1, () -> x.person(20, 9));
        check.due(0, () -> x.person(5, 9));
        check.state(() -> x.keep(1, 5));
        check.fine(() -> x.keep(1, 20));
        check.due(1, () -> x.person(20, 9));
        check.due(-1, () -> x.person(21, 9));
    }

    void whoRestsMayKeep() {
        EntryRows x = Scenes.inside(3);
        x.out(0, 3);
        check.fine(() -> x.keep(0, 3));
        check.due(3, () -> x.boardAt(0, 1));
    }

    void whoIsOutMayKeepAgain() {
        EntryRows x = Scenes.inside(3);
        check.state(() -> x.keep(0, 3));
        outAndRested(x, 0, 3);
        check.fine(() -> x.keep(0, 3));
        check.state(() -> x.enter(0, 15, 0, 0, false));
    }

    // member: the person is inside; so a team inside may still get others.

    void aTeamInsideMayGetMembersButLoseNone() {
        EntryRows x = Scenes.small();
        x.enter(0, 0, 0, 0, false);
        check.state(() -> x.member(0, 1, false));
        check.due(3, () -> x.member(0, 9, true));
        check.due(-1, () -> x.person(9, 0));
        check.due(2, () -> x.member(0, 9, false));
        x.out(0, 1);
        check.due(1, () -> x.member(0, 1, false));
    }

    // count: persons inside, tallies given, open boards.

    void countsGoUpAndDown() {
        EntryRows x = Scenes.boards(3);
        Scenes.team(x, 0, 0, 1);
        check.due(3, () -> x.count(3));
        x.enter(0, 0, 0, 0, false);
        check.due(2, () -> x.count(1));
        check.due(2, () -> x.count(2));
        x.join(0, 1);
        check.due(2, () -> x.count(3));
        check.due(2, () -> x.count(1));
        x.out(1, 0);
        check.due(1, () -> x.count(1));
        check.due(2, () -> x.count(2));
        x.close(2);
        check.due(1, () -> x.count(3));
    }
}
