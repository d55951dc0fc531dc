import java.util.List;

/**
 * Questions to an object that tell two states apart. What the face shows is read; what it does not
 * show (heats, the rest, rights, leasts, longests, who is whose safety team) is told by what further
 * calls answer. Each probe wants an object of its own, as it changes it and uses up its calls.
 */
final class Probes {
    interface Probe {
        void ask(EntryRows x, List<String> answers);
    }

    static final Probe[] ALL = {
        (x, answers) -> persons(x, 0, 20, answers),
        (x, answers) -> persons(x, 20, 40, answers),
        Probes::boards,
        Probes::safetyTeams,
        (x, answers) -> goingIn(x, false, answers),
        (x, answers) -> goingIn(x, true, answers),
        Probes::timeGoesOn,
        Probes::allComeOut,
        Probes::restsEnd,
        Probes::moreBoards,
        Probes::moreMembers,
    };

    private Probes() {
    }

    private static void add(List<String> answers, String call, Check.Call asked) {
        answers.add(call + " " + Check.answer(asked));
    }

    private static void persons(EntryRows x, int from, int below, List<String> answers) {
        for (int p = from; p < below; p++) {
            for (int what = 0; what < 10; what++) {
                int person = p;
                int w = what;
                add(answers, "person(" + p + ", " + what + ")", () -> x.person(person, w));
            }
        }
    }

    private static void boards(EntryRows x, List<String> answers) {
        for (int what = 0; what < 4; what++) {
            int w = what;
            add(answers, "count(" + what + ")", () -> x.count(w));
        }
        for (int b = 0; b < 8; b++) {
            int board = b;
            for (int what = 0; what < 5; what++) {
                int w = what;
                add(answers, "boardAt(" + b + ", " + what + ")", () -> x.boardAt(board, w));
            }
            for (int i = 0; i < 8; i++) {
                int n = i;
                add(answers, "on(" + b + ", " + i + ")", () -> x.on(board, n));
            }
        }
        late(x, answers);
    }

    private static void late(EntryRows x, List<String> answers) {
        for (int i = 0; i < 8; i++) {
            int n = i;
            add(answers, "late(" + i + ")", () -> x.late(n));
        }
    }

    private static void safetyTeams(EntryRows x, List<String> answers) {
        for (int b = 0; b < 8; b++) {
            for (int t = 0; t < 16; t++) {
                int board = b;
                int team = t;
                add(answers, "safety(" + b + ", " + t + ", false)", () -> x.safety(board, team, false));
            }
        }
    }

    // Board 0 of the busy scene would let every team in, so the others are asked before it.
    private static void goingIn(EntryRows x, boolean rescue, List<String> answers) {
        for (int b = 7; b >= 0; b--) {
            for (int t = 0; t < 16; t++) {
                int board = b;
                int team = t;
                add(answers, "enter(" + b + ", " + t + ", " + rescue + ")", () -> x.enter(board, team, 0, 0, rescue));
            }
        }
        boards(x, answers);
    }

    private static void timeGoesOn(EntryRows x, List<String> answers) {
        for (int seconds : new int[] {1, 1, 20, 50, 100, 5_000, 4_999}) {
            add(answers, "tick(" + seconds + ")", () -> x.tick(seconds));
            add(answers, "count(0)", () -> x.count(0));
            late(x, answers);
        }
    }

    private static void allComeOut(EntryRows x, List<String> answers) {
        Check.outcome(() -> x.tick(1));
        for (int p = 0; p < 40; p++) {
            int person = p;
            int board = x.person(p, 0);
            add(answers, "out(" + board + ", " + p + ")", () -> x.out(board, person));
        }
        for (int p = 0; p < 40; p++) {
            for (int what = 5; what <= 7; what++) {
                int person = p;
                int w = what;
                add(answers, "person(" + p + ", " + what + ")", () -> x.person(person, w));
            }
        }
    }

    private static void restsEnd(EntryRows x, List<String> answers) {
        add(answers, "tick(190)", () -> x.tick(190));
        goingIn(x, false, answers);
    }

    private static void moreBoards(EntryRows x, List<String> answers) {
        for (int n = 0; n < 9; n++) {
            add(answers, "board(1, 1, 0)", () -> x.board(1, 1, 0));
        }
    }

    private static void moreMembers(EntryRows x, List<String> answers) {
        for (int t = 0; t < 16; t++) {
            int team = t;
            add(answers, "member(" + t + ", " + (17 + t) + ", true)", () -> x.member(team, 17 + team, true));
        }
    }
}
