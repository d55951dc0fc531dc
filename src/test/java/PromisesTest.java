/** Each promise of the document by its number: ordinary calls, the named edges, wrong calls. */
public final class PromisesTest {
    private static final int MIN = Integer.MIN_VALUE;
    private static final int MAX = Integer.MAX_VALUE;

    private final Check check = new Check();

    public static void main(String[] args) {
        PromisesTest t = new PromisesTest();
        t.check.runAll(t);
        t.check.end();
    }

    void newObject() {
        check.about("promise 1");
        EntryRows x = new EntryRows();
        for (int what = 0; what < 4; what++) {
            int w = what;
            check.due(0, () -> x.count(w));
        }
        check.unknown(() -> x.boardAt(0, 0));
        int[] due = {-1, -1, -1, -1, -1, 0, 0, 0, -1, -1};
        for (int p = 0; p < 40; p++) {
            for (int what = 0; what < 10; what++) {
                int person = p;
                int w = what;
                check.due(due[what], () -> x.person(person, w));
            }
        }
        check.due(-1, () -> x.late(0));
        EntryRows y = new EntryRows();
        y.board(1, 1, 0);
        for (int t = 0; t < 16; t++) {
            int team = t;
            check.due(0, () -> y.safety(0, team, true));
            check.fine(() -> y.safety(0, team, false));
        }
        check.due(0, () -> x.count(3));
    }

    void board() {
        check.about("promise 2");
        EntryRows x = new EntryRows();
        check.range(() -> x.board(0, 1, 0));
        check.range(() -> x.board(7, 1, 0));
        check.range(() -> x.board(1, 0, 0));
        check.range(() -> x.board(1, 10_001, 0));
        check.range(() -> x.board(1, 1, -1));
        check.range(() -> x.board(1, 1, 4));
        check.due(0, () -> x.count(3));
        check.due(0, () -> x.board(1, 1, 0));
        check.due(1, () -> x.board(6, 10_000, 3));
        for (int b = 2; b < 8; b++) {
            int board = b;
            check.unknown(() -> x.boardAt(board, 0));
            check.due(board, () -> x.board(2, 5, 1));
            check.due(1, () -> x.boardAt(board, 0));
            check.due(-1, () -> x.boardAt(board, 1));
            check.due(0, () -> x.boardAt(board, 2));
        }
        check.noRoom(() -> x.board(1, 1, 0));
        check.range(() -> x.board(0, 1, 0));
        x.close(3);
        check.noRoom(() -> x.board(1, 1, 0));
        check.due(7, () -> x.count(3));
    }

    void keep() {
        check.about("promise 3");
        EntryRows x = Scenes.small();
        check.unknown(() -> x.keep(1, 5));
        check.unknown(() -> x.keep(-1, 5));
        check.unknown(() -> x.keep(0, 40));
        check.unknown(() -> x.keep(0, -1));
        x.board(1, 1, 0);
        check.state(() -> x.keep(0, 39));
        check.state(() -> x.keep(1, 39));
        x.enter(0, 1, 0, 0, false);
        check.state(() -> x.keep(1, 3));
        check.due(-1, () -> x.boardAt(1, 1));
        x.out(0, 3);
        // Resting doesn't hinder keeping.
        check.fine(() -> x.keep(1, 3));
        check.due(1, () -> x.person(3, 9));
        check.due(3, () -> x.boardAt(1, 1));
        x.close(1);
        check.state(() -> x.keep(1, 7));
        check.unknown(() -> x.keep(1, 40));
        check.due(-1, () -> x.person(3, 9));
        check.due(-1, () -> x.boardAt(1, 1));
    }

    void keepReplaces() {
        EntryRows x = Scenes.small();
        check.fine(() -> x.keep(0, 38));
        check.due(38, () -> x.boardAt(0, 1));
        check.due(0, () -> x.person(38, 9));
        check.due(-1, () -> x.person(39, 9));
        check.fine(() -> x.keep(0, 39));
        check.due(-1, () -> x.person(38, 9));
    }

    void right() {
        check.about("promise 4");
        EntryRows x = new EntryRows();
        check.unknown(() -> x.right(-1, true));
        check.unknown(() -> x.right(40, false));
        x.board(1, 10, 1);
        x.keep(0, 39);
        Scenes.team(x, 0, 0);
        Scenes.team(x, 1, 1);
        check.state(() -> x.enter(0, 0, 0, 0, true));
        check.fine(() -> x.right(39, true));
        check.state(() -> x.enter(0, 0, 0, 0, false));
        check.due(0, () -> x.enter(0, 0, 0, 0, true));
        check.fine(() -> x.right(39, false));
        check.state(() -> x.enter(0, 1, 0, 0, true));
        // The right belongs to the person: another keeper needs it too.
        x.right(39, true);
        x.keep(0, 38);
        check.state(() -> x.enter(0, 1, 0, 0, true));
        x.right(38, true);
        check.due(1, () -> x.enter(0, 1, 0, 0, true));
    }

    void rest() {
        check.about("promise 5");
        EntryRows x = Scenes.small();
        check.range(() -> x.rest(-1));
        check.range(() -> x.rest(10_001));
        x.enter(0, 1, 0, 0, false);
        x.out(0, 3);
        check.due(600, () -> x.person(3, 5));
        x.tick(599);
        check.state(() -> x.enter(0, 1, 0, 0, false));
        x.tick(1);
        check.due(1, () -> x.enter(0, 0, 0, 0, false));
        check.due(3, () -> x.enter(0, 1, 0, 0, false));
        check.due(600, () -> x.person(3, 5));
        check.fine(() -> x.rest(0));
        x.out(0, 3);
        check.due(4, () -> x.enter(0, 1, 0, 0, false));
        check.fine(() -> x.rest(10_000));
        x.out(0, 3);
        check.due(10_600, () -> x.person(3, 5));
    }

    void restTellsAtTheComingOut() {
        EntryRows x = Scenes.small();
        x.rest(50);
        x.enter(0, 1, 0, 0, false);
        x.rest(70);
        x.out(0, 3);
        x.rest(10);
        check.due(70, () -> x.person(3, 5));
        x.tick(10);
        check.state(() -> x.enter(0, 1, 0, 0, false));
        x.tick(60);
        check.fine(() -> x.enter(0, 1, 0, 0, false));
    }

    void heat() {
        check.about("promise 6");
        EntryRows x = Scenes.small();
        check.unknown(() -> x.heat(-1, 0));
        check.unknown(() -> x.heat(6, 0));
        check.unknown(() -> x.heat(6, 101));
        check.range(() -> x.heat(0, -1));
        check.range(() -> x.heat(5, 101));
        x.heat(5, 3);
        x.enter(0, 0, 0, 5, false);
        x.tick(10);
        check.fine(() -> x.heat(5, 100));
        x.out(0, 1);
        check.fine(() -> x.heat(5, 0));
        x.out(0, 2);
        // The heat at the coming out counts for all the seconds inside.
        check.due(1000, () -> x.person(1, 7));
        check.due(0, () -> x.person(2, 7));
    }

    void member() {
        check.about("promise 7");
        EntryRows x = new EntryRows();
        check.unknown(() -> x.member(-1, 0, true));
        check.unknown(() -> x.member(16, 0, true));
        check.unknown(() -> x.member(0, -1, true));
        check.unknown(() -> x.member(0, 40, false));
        for (int p = 0; p < 6; p++) {
            int person = p;
            check.due(p + 1, () -> x.member(15, person, true));
        }
        check.noRoom(() -> x.member(15, 6, true));
        check.due(-1, () -> x.person(6, 8));
        check.state(() -> x.member(15, 5, true));
        check.state(() -> x.member(14, 5, true));
        check.state(() -> x.member(14, 5, false));
        check.state(() -> x.member(15, 6, false));
        check.due(15, () -> x.person(5, 8));
        check.due(5, () -> x.member(15, 0, false));
        check.due(-1, () -> x.person(0, 8));
        check.due(6, () -> x.member(15, 39, true));
        check.due(1, () -> x.member(0, 0, true));
        check.due(0, () -> x.person(0, 8));
        check.due(0, () -> x.member(0, 0, false));
    }

    void memberInside() {
        EntryRows x = Scenes.small();
        x.enter(0, 0, 0, 0, false);
        check.state(() -> x.member(0, 1, false));
        check.state(() -> x.member(1, 1, true));
        check.due(0, () -> x.person(1, 8));
        check.due(3, () -> x.member(0, 9, true));
        check.state(() -> x.enter(0, 0, 0, 0, false));
        x.out(0, 1);
        check.due(2, () -> x.member(0, 1, false));
        // A keeper may be in a team, which is not ready then.
        check.due(2, () -> x.member(1, 39, true));
        check.state(() -> x.enter(0, 1, 0, 0, false));
    }

    void safety() {
        check.about("promise 8");
        EntryRows x = Scenes.small();
        x.board(2, 10, 1);
        check.unknown(() -> x.safety(2, 0, true));
        check.unknown(() -> x.safety(-1, 0, true));
        check.unknown(() -> x.safety(0, 16, true));
        check.unknown(() -> x.safety(0, -1, false));
        check.state(() -> x.safety(0, 0, false));
        check.due(1, () -> x.safety(1, 0, true));
        check.state(() -> x.safety(1, 0, true));
        check.state(() -> x.safety(0, 0, true));
        check.state(() -> x.safety(0, 0, false));
        // Team 1 has one member, too few for board 1, enough for board 0.
        check.due(1, () -> x.safety(1, 1, true));
        check.due(1, () -> x.safety(1, 1, false));
        check.due(1, () -> x.safety(0, 1, true));
        check.due(0, () -> x.safety(1, 0, false));
        check.due(2, () -> x.safety(0, 0, true));
        x.close(1);
        check.state(() -> x.safety(1, 5, true));
        check.state(() -> x.safety(1, 0, false));
        check.unknown(() -> x.safety(1, 16, false));
        check.due(2, () -> x.boardAt(0, 3));
    }

    void safetyReadiness() {
        EntryRows x = Scenes.small();
        x.board(1, 10, 0);
        x.safety(1, 0, true);
        x.safety(1, 1, true);
        check.due(2, () -> x.boardAt(1, 3));
        x.enter(0, 0, 0, 0, false);
        check.due(1, () -> x.boardAt(1, 3));
        x.out(0, 1);
        x.out(0, 2);
        check.due(1, () -> x.boardAt(1, 3));
        x.tick(599);
        check.due(1, () -> x.boardAt(1, 3));
        x.tick(1);
        check.due(2, () -> x.boardAt(1, 3));
        x.keep(1, 3);
        check.due(1, () -> x.boardAt(1, 3));
        x.keep(1, 4);
        check.due(2, () -> x.boardAt(1, 3));
        x.member(1, 3, false);
        check.due(1, () -> x.boardAt(1, 3));
    }

    void enter() {
        check.about("promise 9");
        EntryRows x = Scenes.small();
        x.tick(7);
        check.due(0, () -> x.enter(0, 1, 9, 5, false));
        check.due(1, () -> x.enter(0, 0, 3, 4, true));
        int[] dueOf1 = {0, 1, 4, 3, 7, 0, 0, 0, 0, -1};
        int[] dueOf3 = {0, 0, 5, 9, 7, 0, 0, 0, 1, -1};
        for (int what = 0; what < 10; what++) {
            int w = what;
            check.due(dueOf1[what], () -> x.person(1, w));
            check.due(dueOf3[what], () -> x.person(3, w));
        }
        check.due(2, () -> x.person(2, 1));
        check.due(3, () -> x.count(2));
        check.due(3, () -> x.boardAt(0, 2));
    }

    void enterNeedsKeeperAndReadyTeam() {
        EntryRows x = new EntryRows();
        x.board(2, 100, 0);
        Scenes.team(x, 0, 0, 1);
        Scenes.team(x, 1, 2);
        check.state(() -> x.enter(0, 0, 0, 0, false));
        check.state(() -> x.enter(0, 0, 0, 0, true));
        x.keep(0, 39);
        x.right(39, true);
        check.state(() -> x.enter(0, 1, 0, 0, false));
        check.state(() -> x.enter(0, 1, 0, 0, true));
        check.state(() -> x.enter(0, 2, 0, 0, true));
        check.due(0, () -> x.enter(0, 0, 0, 0, false));
        check.state(() -> x.enter(0, 0, 0, 0, true));
        x.out(0, 0);
        x.out(0, 1);
        check.state(() -> x.enter(0, 0, 0, 0, true));
        x.tick(600);
        x.board(1, 1, 0);
        x.keep(1, 1);
        check.state(() -> x.enter(0, 0, 0, 0, true));
        x.keep(1, 20);
        x.close(0);
        check.state(() -> x.enter(0, 0, 0, 0, false));
        check.state(() -> x.enter(0, 0, 0, 0, true));
        check.due(2, () -> x.enter(1, 0, 0, 0, false));
    }

    void enterNeedsSafety() {
        EntryRows x = new EntryRows();
        x.board(1, 100, 2);
        x.keep(0, 39);
        for (int t = 0; t < 4; t++) {
            Scenes.team(x, t, 10 + t);
        }
        x.safety(0, 0, true);
        check.state(() -> x.enter(0, 3, 0, 0, false));
        check.due(2, () -> x.safety(0, 1, true));
        // A team is not its own safety.
        check.state(() -> x.enter(0, 1, 0, 0, false));
        x.safety(0, 2, true);
        check.due(0, () -> x.enter(0, 1, 0, 0, false));
        check.due(2, () -> x.boardAt(0, 3));
        check.due(1, () -> x.enter(0, 3, 0, 0, false));
        check.state(() -> x.enter(0, 2, 0, 0, false));
        check.due(2, () -> x.count(1));
    }

    void enterAsRescue() {
        EntryRows x = new EntryRows();
        x.board(1, 100, 1);
        x.keep(0, 39);
        Scenes.team(x, 0, 0);
        Scenes.team(x, 1, 1);
        Scenes.team(x, 2, 2);
        x.safety(0, 1, true);
        // Told as a rescue, but with all that is needed: it goes in without the keeper's right.
        check.due(0, () -> x.enter(0, 0, 0, 0, true));
        check.state(() -> x.enter(0, 1, 0, 0, true));
        x.right(0, true);
        check.state(() -> x.enter(0, 1, 0, 0, true));
        x.right(39, true);
        check.state(() -> x.enter(0, 1, 0, 0, false));
        check.due(1, () -> x.enter(0, 1, 0, 0, true));
        check.due(2, () -> x.enter(0, 2, 0, 0, true));
    }

    void enterRefusedInOrder() {
        EntryRows x = Scenes.small();
        x.close(0);
        check.unknown(() -> x.enter(1, 0, 10, 6, false));
        check.unknown(() -> x.enter(-1, 0, 0, 0, false));
        check.unknown(() -> x.enter(0, 16, 10, 6, false));
        check.unknown(() -> x.enter(0, -1, 0, 0, false));
        check.range(() -> x.enter(0, 0, 10, 0, false));
        check.range(() -> x.enter(0, 0, -1, 0, false));
        check.range(() -> x.enter(0, 0, 0, 6, false));
        check.range(() -> x.enter(0, 0, 0, -1, false));
        check.state(() -> x.enter(0, 0, 9, 5, false));
        check.due(0, () -> x.count(2));
    }

    void out() {
        check.about("promise 10");
        EntryRows x = Scenes.small();
        x.board(1, 10, 0);
        x.heat(2, 5);
        check.unknown(() -> x.out(2, 0));
        check.unknown(() -> x.out(-1, 0));
        check.unknown(() -> x.out(0, 40));
        check.unknown(() -> x.out(0, -1));
        check.state(() -> x.out(0, 1));
        x.enter(0, 0, 1, 2, false);
        x.tick(30);
        check.state(() -> x.out(1, 1));
        check.due(0, () -> x.person(1, 6));
        check.due(30, () -> x.out(0, 1));
        int[] due = {-1, -1, -1, -1, -1, 630, 30, 150, 0, -1};
        for (int what = 0; what < 10; what++) {
            int w = what;
            check.due(due[what], () -> x.person(1, w));
        }
        check.state(() -> x.out(0, 1));
        check.due(1, () -> x.count(1));
        check.due(30, () -> x.out(0, 2));
        x.tick(600);
        x.enter(0, 0, 1, 2, false);
        x.tick(4);
        check.due(4, () -> x.out(0, 1));
        check.due(34, () -> x.person(1, 6));
        check.due(170, () -> x.person(1, 7));
        check.due(4, () -> x.out(0, 2));
    }

    void swap() {
        check.about("promise 11");
        EntryRows x = Scenes.small();
        check.unknown(() -> x.swap(-1, 1));
        check.unknown(() -> x.swap(1, 40));
        check.state(() -> x.swap(1, 2));
        check.state(() -> x.swap(1, 1));
        x.enter(0, 0, 0, 0, false);
        check.state(() -> x.swap(1, 3));
        check.state(() -> x.swap(3, 1));
        check.state(() -> x.swap(1, 1));
        check.fine(() -> x.swap(1, 2));
        check.due(1, () -> x.person(1, 1));
        check.due(0, () -> x.person(2, 1));
        check.due(2, () -> x.on(0, 0));
        check.due(1, () -> x.on(0, 1));
    }

    void swapAcrossBoards() {
        EntryRows x = Scenes.small();
        x.board(1, 10, 0);
        x.keep(1, 38);
        x.enter(0, 0, 1, 1, false);
        x.tick(5);
        x.enter(1, 1, 2, 2, false);
        check.fine(() -> x.swap(3, 1));
        int[] dueOf1 = {0, 2, 1, 1, 0};
        int[] dueOf3 = {1, 0, 2, 2, 5};
        for (int what = 0; what < 5; what++) {
            int w = what;
            check.due(dueOf1[what], () -> x.person(1, w));
            check.due(dueOf3[what], () -> x.person(3, w));
        }
        check.due(2, () -> x.on(0, 0));
        check.due(1, () -> x.on(0, 1));
        check.due(3, () -> x.on(1, 0));
    }

    void join() {
        check.about("promise 12");
        EntryRows x = Scenes.small();
        x.board(1, 10, 0);
        x.board(1, 10, 0);
        check.unknown(() -> x.join(0, 3));
        check.unknown(() -> x.join(3, 0));
        check.unknown(() -> x.join(-1, 0));
        check.state(() -> x.join(0, 0));
        x.close(2);
        check.state(() -> x.join(0, 2));
        check.state(() -> x.join(2, 0));
        x.keep(1, 38);
        x.enter(0, 0, 1, 2, false);
        x.tick(9);
        x.enter(1, 1, 0, 0, false);
        check.due(3, () -> x.join(0, 1));
        check.state(() -> x.join(0, 1));
        check.due(0, () -> x.boardAt(0, 0));
        check.due(-1, () -> x.boardAt(0, 1));
        check.due(0, () -> x.boardAt(0, 2));
        check.due(-1, () -> x.person(39, 9));
        check.due(38, () -> x.boardAt(1, 1));
        int[] dueOf2 = {1, 1, 2, 1, 0};
        for (int what = 0; what < 5; what++) {
            int w = what;
            check.due(dueOf2[what], () -> x.person(2, w));
        }
        check.state(() -> x.out(0, 1));
        check.due(9, () -> x.out(1, 1));
        check.due(1, () -> x.count(3));
    }

    void joinPassesTheRest() {
        EntryRows x = Scenes.small();
        x.board(2, 10, 0);
        x.safety(0, 0, true);
        x.safety(0, 1, true);
        // The keeper stays with neither; the other board needs none to be joined to.
        check.due(0, () -> x.join(0, 1));
        check.due(0, () -> x.boardAt(0, 3));
        // Team 1 is too small for board 1, but is its safety team all the same.
        check.due(1, () -> x.boardAt(1, 3));
        check.state(() -> x.safety(1, 1, true));
        check.due(1, () -> x.safety(1, 1, false));
        check.due(-1, () -> x.boardAt(1, 1));
        check.fine(() -> x.keep(1, 39));
    }

    void close() {
        check.about("promise 13");
        EntryRows x = Scenes.small();
        check.unknown(() -> x.close(1));
        check.unknown(() -> x.close(-1));
        x.board(1, 10, 0);
        x.safety(0, 0, true);
        x.enter(0, 1, 0, 0, false);
        check.state(() -> x.close(0));
        check.due(1, () -> x.boardAt(0, 0));
        check.due(39, () -> x.boardAt(0, 1));
        check.due(1, () -> x.boardAt(0, 3));
        x.out(0, 3);
        check.fine(() -> x.close(0));
        check.state(() -> x.close(0));
        check.due(0, () -> x.boardAt(0, 0));
        check.due(-1, () -> x.boardAt(0, 1));
        check.due(0, () -> x.boardAt(0, 3));
        check.due(0, () -> x.boardAt(0, 4));
        check.due(-1, () -> x.person(39, 9));
        check.due(-1, () -> x.on(0, 0));
        check.state(() -> x.out(0, 3));
        check.due(1, () -> x.safety(1, 0, true));
        check.fine(() -> x.keep(1, 39));
        check.due(2, () -> x.board(1, 1, 0));
    }

    void tick() {
        check.about("promise 14");
        EntryRows x = Scenes.small();
        check.range(() -> x.tick(0));
        check.range(() -> x.tick(-1));
        check.range(() -> x.tick(5_001));
        check.due(0, () -> x.count(0));
        x.enter(0, 0, 0, 0, false);
        check.due(0, () -> x.tick(60));
        x.enter(0, 1, 0, 0, false);
        check.due(0, () -> x.tick(40));
        check.due(2, () -> x.tick(1));
        check.due(0, () -> x.tick(1));
        x.out(0, 2);
        check.due(1, () -> x.tick(5_000));
        check.due(5_102, () -> x.count(0));
        check.due(0, () -> x.tick(5_000));
    }

    void tickToTheLastSecond() {
        EntryRows x = Scenes.small();
        x.heat(0, 100);
        x.rest(10_000);
        x.enter(0, 1, 0, 0, false);
        for (int i = 0; i < 199; i++) {
            x.tick(5_000);
        }
        check.due(995_000, () -> x.count(0));
        check.range(() -> x.tick(5_000));
        check.due(995_000, () -> x.count(0));
        check.due(0, () -> x.tick(4_999));
        check.range(() -> x.tick(1));
        check.due(999_999, () -> x.count(0));
        check.due(3, () -> x.late(0));
        check.due(999_999, () -> x.out(0, 3));
        check.due(99_999_900, () -> x.person(3, 7));
        check.due(1_009_999, () -> x.person(3, 5));
    }

    void tickAndJoin() {
        EntryRows x = Scenes.small();
        x.board(1, 20, 0);
        x.board(1, 200, 0);
        x.enter(0, 1, 0, 0, false);
        check.due(0, () -> x.tick(50));
        check.due(-1, () -> x.late(0));
        x.join(0, 1);
        // The joining made the person late, not the time that goes on behind it.
        check.due(3, () -> x.late(0));
        check.due(0, () -> x.tick(1));
        x.join(1, 2);
        check.due(-1, () -> x.late(0));
        check.due(0, () -> x.tick(149));
        check.due(1, () -> x.tick(1));
    }

    void on() {
        check.about("promise 15");
        EntryRows x = Scenes.small();
        check.unknown(() -> x.on(1, 0));
        check.unknown(() -> x.on(-1, -1));
        check.range(() -> x.on(0, -1));
        check.due(-1, () -> x.on(0, 0));
        x.enter(0, 1, 0, 0, false);
        x.enter(0, 0, 0, 0, false);
        check.due(3, () -> x.on(0, 0));
        check.due(1, () -> x.on(0, 1));
        check.due(2, () -> x.on(0, 2));
        check.due(-1, () -> x.on(0, 3));
        check.due(-1, () -> x.on(0, MAX));
        x.out(0, 1);
        check.due(2, () -> x.on(0, 1));
        check.due(-1, () -> x.on(0, 2));
    }

    void late() {
        check.about("promise 16");
        EntryRows x = Scenes.small();
        check.range(() -> x.late(-1));
        check.range(() -> x.late(MIN));
        x.enter(0, 1, 0, 0, false);
        x.enter(0, 0, 0, 0, false);
        x.tick(100);
        check.due(-1, () -> x.late(0));
        x.tick(1);
        // By persons, though 3 has the least tally.
        check.due(1, () -> x.late(0));
        check.due(2, () -> x.late(1));
        check.due(3, () -> x.late(2));
        check.due(-1, () -> x.late(3));
        check.due(-1, () -> x.late(MAX));
        x.out(0, 2);
        check.due(3, () -> x.late(1));
        check.due(-1, () -> x.late(2));
    }

    void person() {
        check.about("promise 17");
        EntryRows x = Scenes.small();
        check.unknown(() -> x.person(-1, 0));
        check.unknown(() -> x.person(40, 0));
        check.unknown(() -> x.person(0, -1));
        check.unknown(() -> x.person(0, 10));
        x.heat(4, 2);
        x.tick(11);
        x.enter(0, 1, 0, 0, false);
        x.enter(0, 0, 8, 4, false);
        x.tick(20);
        int[] inside = {0, 2, 4, 8, 11, 0, 0, 0, 0, -1};
        for (int what = 0; what < 10; what++) {
            int w = what;
            check.due(inside[what], () -> x.person(2, w));
        }
        x.rest(9);
        x.out(0, 2);
        x.board(1, 1, 0);
        x.keep(1, 2);
        int[] keeping = {-1, -1, -1, -1, -1, 40, 20, 40, 0, 1};
        for (int what = 0; what < 10; what++) {
            int w = what;
            check.due(keeping[what], () -> x.person(2, w));
        }
    }

    void boardAt() {
        check.about("promise 18");
        EntryRows x = Scenes.small();
        check.unknown(() -> x.boardAt(1, 0));
        check.unknown(() -> x.boardAt(-1, 0));
        check.unknown(() -> x.boardAt(0, -1));
        check.unknown(() -> x.boardAt(0, 5));
        x.safety(0, 1, true);
        x.enter(0, 0, 0, 0, false);
        int[] due = {1, 39, 2, 1};
        for (int what = 0; what < 4; what++) {
            int w = what;
            check.due(due[what], () -> x.boardAt(0, w));
        }
    }

    void sum() {
        EntryRows x = Scenes.small();
        check.due(0, () -> x.boardAt(0, 4));
        x.enter(0, 1, 0, 0, false);
        int one = Integer.rotateLeft(3_000, 5) * 0x85EBCA6B;
        check.due(one, () -> x.boardAt(0, 4));
        x.enter(0, 0, 0, 0, false);
        int two = Integer.rotateLeft(one ^ 1_001, 5) * 0x85EBCA6B;
        int three = Integer.rotateLeft(two ^ 2_002, 5) * 0x85EBCA6B;
        check.due(three, () -> x.boardAt(0, 4));
        x.swap(2, 3);
        int a = Integer.rotateLeft(2_000, 5) * 0x85EBCA6B;
        int b = Integer.rotateLeft(a ^ 1_001, 5) * 0x85EBCA6B;
        int c = Integer.rotateLeft(b ^ 3_002, 5) * 0x85EBCA6B;
        check.due(c, () -> x.boardAt(0, 4));
        x.board(1, 1, 0);
        x.join(0, 1);
        check.due(0, () -> x.boardAt(0, 4));
        check.due(c, () -> x.boardAt(1, 4));
    }

    void count() {
        check.about("promise 19");
        EntryRows x = Scenes.small();
        check.unknown(() -> x.count(-1));
        check.unknown(() -> x.count(4));
        x.board(1, 1, 0);
        x.tick(3);
        x.enter(0, 0, 0, 0, false);
        x.out(0, 1);
        int[] due = {3, 1, 2, 2};
        for (int what = 0; what < 4; what++) {
            int w = what;
            check.due(due[what], () -> x.count(w));
        }
        x.close(1);
        check.due(1, () -> x.count(3));
    }

    /** The first and the last person, the last team, the last board, and as many inside as may be. */
    void edgeNumbers() {
        check.about("edge numbers");
        EntryRows x = new EntryRows();
        for (int b = 0; b < 8; b++) {
            x.board(1, 50, 0);
        }
        Scenes.team(x, 15, 0, 39);
        x.safety(7, 15, true);
        check.due(1, () -> x.boardAt(7, 3));
        x.keep(7, 38);
        check.due(0, () -> x.enter(7, 15, 0, 0, false));
        check.due(0, () -> x.boardAt(7, 3));
        check.due(2, () -> x.tick(51));
        check.due(0, () -> x.late(0));
        check.due(39, () -> x.late(1));
        x.keep(6, 37);
        check.due(2, () -> x.join(7, 6));
        for (int p = 1; p < 37; p++) {
            x.member((p - 1) / 6, p, true);
        }
        for (int t = 5; t >= 0; t--) {
            x.enter(6, t, 0, 0, false);
        }
        check.due(38, () -> x.boardAt(6, 2));
        check.due(38, () -> x.count(1));
        check.due(0, () -> x.on(6, 0));
        check.due(39, () -> x.on(6, 1));
        check.due(31, () -> x.on(6, 2));
        check.due(6, () -> x.on(6, 37));
        check.due(-1, () -> x.on(6, 38));
        check.due(36, () -> x.tick(51));
        check.due(36, () -> x.late(36));
        check.due(39, () -> x.late(37));
        check.due(-1, () -> x.late(38));
    }

    void wildArguments() {
        check.about("wild arguments");
        for (int wild : new int[] {MIN, MAX}) {
            EntryRows x = Scenes.small();
            check.range(() -> x.board(wild, 1, 0));
            check.range(() -> x.board(1, wild, 0));
            check.range(() -> x.board(1, 1, wild));
            check.unknown(() -> x.keep(wild, 0));
            check.unknown(() -> x.keep(0, wild));
            check.unknown(() -> x.right(wild, true));
            check.range(() -> x.rest(wild));
            check.unknown(() -> x.heat(wild, 0));
            check.range(() -> x.heat(0, wild));
            check.unknown(() -> x.member(wild, 0, true));
            check.unknown(() -> x.member(0, wild, true));
            check.unknown(() -> x.safety(wild, 0, true));
            check.unknown(() -> x.safety(0, wild, true));
            check.unknown(() -> x.enter(wild, 0, 0, 0, true));
            check.unknown(() -> x.enter(0, wild, 0, 0, true));
            check.range(() -> x.enter(0, 0, wild, 0, true));
            check.range(() -> x.enter(0, 0, 0, wild, true));
            check.unknown(() -> x.out(wild, 0));
            check.unknown(() -> x.out(0, wild));
            check.unknown(() -> x.swap(wild, 0));
            check.unknown(() -> x.swap(0, wild));
            check.unknown(() -> x.join(wild, 0));
            check.unknown(() -> x.join(0, wild));
            check.unknown(() -> x.close(wild));
            check.range(() -> x.tick(wild));
            check.unknown(() -> x.on(wild, 0));
            check.unknown(() -> x.person(wild, 0));
            check.unknown(() -> x.person(0, wild));
            check.unknown(() -> x.boardAt(wild, 0));
            check.unknown(() -> x.boardAt(0, wild));
            check.unknown(() -> x.count(wild));
        }
    }
}
