import java.util.Arrays;

/**
 * Entry boards at a scene: who is inside on which board, with which tally, and who stands ready.
 *
 * <p>Every row is made once, in the constructors; no call makes an object. A row that names a
 * board, a team or a person holds NONE where there is none, so each such number is looked at
 * before it is used as an index.
 */
public final class EntryRows {
    private static final int NONE = -1;

    private static final int PERSONS = 40;
    private static final int TEAMS = 16;
    private static final int PLACES = 6;
    private static final int BOARDS = 8;
    private static final int TASKS = 10;

    private static final int MOST_MEMBERS = 6;
    private static final int MOST_LEAST = 6;
    private static final int MOST_LONGEST = 10_000;
    private static final int MOST_SAFETY = 3;
    private static final int MOST_REST = 10_000;
    private static final int MOST_HEAT = 100;
    private static final int MOST_TICK = 5_000;
    private static final int LAST_SECOND = 999_999;
    private static final int FIRST_REST = 600;

    private static final int SUM_SCALE = 1_000;
    private static final int SUM_TURN = 5;
    private static final int SUM_FACTOR = 0x85EBCA6B;

    private final Persons persons = new Persons();
    private final Boards boards = new Boards();
    private final int[] safetyBoardOfTeam = new int[TEAMS];
    private final int[] heatOfPlace = new int[PLACES];
    private int second = 0;
    private int talliesGiven = 0;
    private int restSeconds = FIRST_REST;

    public EntryRows() {
        Arrays.fill(safetyBoardOfTeam, NONE);
    }

    public int board(int least, int longest, int safety)
            throws IndexOutOfBoundsException, UnsupportedOperationException {
        requireRange(least, 1, MOST_LEAST);
        requireRange(longest, 1, MOST_LONGEST);
        requireRange(safety, 0, MOST_SAFETY);
        if (!boards.hasRoom()) {
            throw new UnsupportedOperationException("there are as many boards as may be");
        }
        return boards.make(least, longest, safety);
    }

    public void keep(int board, int person) throws IllegalArgumentException, IllegalStateException {
        requireBoard(board);
        requirePerson(person);
        requireOpen(board);
        requireOutside(person);
        requireState(persons.keptBoard[person] == NONE);
        dropKeeper(board);
        boards.keeper[board] = person;
        persons.keptBoard[person] = board;
    }

    public void right(int person, boolean on) throws IllegalArgumentException {
        requirePerson(person);
        persons.mayLetRescue[person] = on;
    }

    public void rest(int seconds) throws IndexOutOfBoundsException {
        requireRange(seconds, 0, MOST_REST);
        restSeconds = seconds;
    }

    public void heat(int place, int h) throws IllegalArgumentException, IndexOutOfBoundsException {
        requireKnown(isPlace(place));
        requireRange(h, 0, MOST_HEAT);
        heatOfPlace[place] = h;
    }

    public int member(int team, int person, boolean on)
            throws IllegalArgumentException, IllegalStateException, UnsupportedOperationException {
        requireTeam(team);
        requirePerson(person);
        requireState(persons.team[person] == (on ? NONE : team));
        requireOutside(person);
        if (on && persons.sizeOfTeam(team) >= MOST_MEMBERS) {
            throw new UnsupportedOperationException("the team has as many members as may be");
        }
        persons.team[person] = on ? team : NONE;
        return persons.sizeOfTeam(team);
    }

    public int safety(int board, int team, boolean on)
            throws IllegalArgumentException, IllegalStateException {
        requireBoard(board);
        requireTeam(team);
        requireOpen(board);
        requireState(safetyBoardOfTeam[team] == (on ? NONE : board));
        safetyBoardOfTeam[team] = on ? board : NONE;
        return readySafetyTeams(board, NONE);
    }

    public int enter(int board, int team, int task, int place, boolean rescue)
            throws IllegalArgumentException, IndexOutOfBoundsException, IllegalStateException {
        requireBoard(board);
        requireTeam(team);
        requireRange(task, 0, TASKS - 1);
        requireRange(place, 0, PLACES - 1);
        requireOpen(board);
        requireState(boards.keeper[board] != NONE);
        requireState(isReady(team, board));
        requireState(isCovered(board, team) || (rescue && keeperMayLetRescue(board)));
        int first = talliesGiven;
        for (int p = 0; p < PERSONS; p++) {
            if (persons.team[p] == team) {
                persons.setEntry(p, board, talliesGiven, task, place, second);
                talliesGiven++;
            }
        }
        return first;
    }

    public int out(int board, int person) throws IllegalArgumentException, IllegalStateException {
        requireBoard(board);
        requirePerson(person);
        requireState(persons.board[person] == board);
        int place = persons.place[person];
        int heatNow = isPlace(place) ? heatOfPlace[place] : 0;
        return persons.comeOut(person, second, heatNow, restSeconds);
    }

    public void swap(int person, int other) throws IllegalArgumentException, IllegalStateException {
        requirePerson(person);
        requirePerson(other);
        requireState(persons.isInside(person) && persons.isInside(other));
        requireState(person != other);
        int tally = persons.tally[person];
        persons.tally[person] = persons.tally[other];
        persons.tally[other] = tally;
    }

    public int join(int board, int other) throws IllegalArgumentException, IllegalStateException {
        requireBoard(board);
        requireBoard(other);
        requireOpen(board);
        requireOpen(other);
        requireState(board != other);
        persons.moveAll(board, other);
        shut(board, other);
        return persons.countOn(other);
    }

    public void close(int board) throws IllegalArgumentException, IllegalStateException {
        requireBoard(board);
        requireOpen(board);
        requireState(persons.countOn(board) == 0);
        shut(board, NONE);
    }

    public int tick(int seconds) throws IndexOutOfBoundsException {
        requireRange(seconds, 1, MOST_TICK);
        requireRange(second + seconds, 0, LAST_SECOND);
        int before = second;
        second += seconds;
        int newlyLate = 0;
        for (int p = 0; p < PERSONS; p++) {
            if (isLateAt(p, second) && !isLateAt(p, before)) {
                newlyLate++;
            }
        }
        return newlyLate;
    }

    public int on(int board, int i) throws IllegalArgumentException, IndexOutOfBoundsException {
        requireBoard(board);
        requireNotNegative(i);
        int steps = Math.min(i, PERSONS);
        int person = persons.nextOn(board, NONE);
        for (int n = 0; n < steps && isPerson(person); n++) {
            person = persons.nextOn(board, persons.tally[person]);
        }
        return person;
    }

    public int late(int i) throws IndexOutOfBoundsException {
        requireNotNegative(i);
        int passed = 0;
        for (int p = 0; p < PERSONS; p++) {
            if (isLateAt(p, second)) {
                if (passed == i) {
                    return p;
                }
                passed++;
            }
        }
        return NONE;
    }

    public int person(int person, int what) throws IllegalArgumentException {
        requirePerson(person);
        switch (what) {
            case 0: return persons.board[person];
            case 1: return persons.tally[person];
            case 2: return persons.place[person];
            case 3: return persons.task[person];
            case 4: return persons.since[person];
            case 5: return persons.restEnd[person];
            case 6: return persons.workSum[person];
            case 7: return persons.heatSum[person];
            case 8: return persons.team[person];
            case 9: return persons.keptBoard[person];
            default: throw new IllegalArgumentException("no such what");
        }
    }

    public int boardAt(int board, int what) throws IllegalArgumentException {
        requireBoard(board);
        switch (what) {
            case 0: return boards.open[board] ? 1 : 0;
            case 1: return boards.keeper[board];
            case 2: return persons.countOn(board);
            case 3: return readySafetyTeams(board, NONE);
            case 4: return sumOf(board);
            default: throw new IllegalArgumentException("no such what");
        }
    }

    public int count(int what) throws IllegalArgumentException {
        switch (what) {
            case 0: return second;
            case 1: return persons.countInside();
            case 2: return talliesGiven;
            case 3: return boards.countOpen();
            default: throw new IllegalArgumentException("no such what");
        }
    }

    private static boolean isPerson(int person) {
        return person >= 0 && person < PERSONS;
    }

    private static boolean isPlace(int place) {
        return place >= 0 && place < PLACES;
    }

    private static void requireKnown(boolean known) {
        if (!known) {
            throw new IllegalArgumentException("an unknown number");
        }
    }

    private static void requirePerson(int person) {
        requireKnown(isPerson(person));
    }

    private static void requireTeam(int team) {
        requireKnown(team >= 0 && team < TEAMS);
    }

    private void requireBoard(int board) {
        requireKnown(boards.has(board));
    }

    private static void requireRange(int number, int from, int to) {
        if (number < from || number > to) {
            throw new IndexOutOfBoundsException("a number outside its range");
        }
    }

    private static void requireNotNegative(int i) {
        requireRange(i, 0, Integer.MAX_VALUE);
    }

    private static void requireState(boolean holds) {
        if (!holds) {
            throw new IllegalStateException("not in this state");
        }
    }

    private void requireOpen(int board) {
        requireState(boards.open[board]);
    }

    private void requireOutside(int person) {
        requireState(!persons.isInside(person));
    }

    private boolean isReady(int team, int board) {
        return persons.isTeamReady(team, boards.least[board], second);
    }

    /** The team that goes in can't be its own safety, so it is left out of the count. */
    private boolean isCovered(int board, int goingIn) {
        return readySafetyTeams(board, goingIn) >= boards.safetyNeeded[board];
    }

    private int readySafetyTeams(int board, int leftOut) {
        int ready = 0;
        for (int t = 0; t < TEAMS; t++) {
            if (t != leftOut && safetyBoardOfTeam[t] == board && isReady(t, board)) {
                ready++;
            }
        }
        return ready;
    }

    private boolean keeperMayLetRescue(int board) {
        int keeper = boards.keeper[board];
        return isPerson(keeper) && persons.mayLetRescue[keeper];
    }

    private void dropKeeper(int board) {
        int keeper = boards.keeper[board];
        if (isPerson(keeper)) {
            persons.keptBoard[keeper] = NONE;
        }
        boards.keeper[board] = NONE;
    }

    private void shut(int board, int safetyHeir) {
        dropKeeper(board);
        boards.open[board] = false;
        for (int t = 0; t < TEAMS; t++) {
            if (safetyBoardOfTeam[t] == board) {
                safetyBoardOfTeam[t] = safetyHeir;
            }
        }
    }

    private boolean isLateAt(int person, int atSecond) {
        int board = persons.board[person];
        return boards.has(board) && atSecond - persons.since[person] > boards.longest[board];
    }

    private int sumOf(int board) {
        int sum = 0;
        int person = persons.nextOn(board, NONE);
        for (int n = 0; n < PERSONS && isPerson(person); n++) {
            int tally = persons.tally[person];
            int mixed = sum ^ (SUM_SCALE * person + tally % SUM_SCALE);
            sum = Integer.rotateLeft(mixed, SUM_TURN) * SUM_FACTOR;
            person = persons.nextOn(board, tally);
        }
        return sum;
    }

    /** The rows of all persons; board to since are NONE while a person is not inside. */
    private static final class Persons {
        private final int[] board = new int[PERSONS];
        private final int[] tally = new int[PERSONS];
        private final int[] place = new int[PERSONS];
        private final int[] task = new int[PERSONS];
        private final int[] since = new int[PERSONS];
        private final int[] restEnd = new int[PERSONS];
        private final int[] workSum = new int[PERSONS];
        private final int[] heatSum = new int[PERSONS];
        private final int[] team = new int[PERSONS];
        private final int[] keptBoard = new int[PERSONS];
        private final boolean[] mayLetRescue = new boolean[PERSONS];

        private Persons() {
            Arrays.fill(board, NONE);
            Arrays.fill(tally, NONE);
            Arrays.fill(place, NONE);
            Arrays.fill(task, NONE);
            Arrays.fill(since, NONE);
            Arrays.fill(team, NONE);
            Arrays.fill(keptBoard, NONE);
        }

        private boolean isInside(int person) {
            return board[person] != NONE;
        }

        private boolean isFree(int person, int second) {
            return !isInside(person) && second >= restEnd[person] && keptBoard[person] == NONE;
        }

        private int sizeOfTeam(int ofTeam) {
            int size = 0;
            for (int p = 0; p < PERSONS; p++) {
                if (team[p] == ofTeam) {
                    size++;
                }
            }
            return size;
        }

        private boolean isTeamReady(int ofTeam, int least, int second) {
            for (int p = 0; p < PERSONS; p++) {
                if (team[p] == ofTeam && !isFree(p, second)) {
                    return false;
                }
            }
            return sizeOfTeam(ofTeam) >= least;
        }

        private void setEntry(int person, int onBoard, int withTally, int forTask, int atPlace, int from) {
            board[person] = onBoard;
            tally[person] = withTally;
            task[person] = forTask;
            place[person] = atPlace;
            since[person] = from;
        }

        private int comeOut(int person, int second, int heatNow, int restSeconds) {
            int inside = second - since[person];
            workSum[person] += inside;
            heatSum[person] += inside * heatNow;
            restEnd[person] = second + restSeconds;
            setEntry(person, NONE, NONE, NONE, NONE, NONE);
            return inside;
        }

        private int countOn(int onBoard) {
            int found = 0;
            for (int p = 0; p < PERSONS; p++) {
                if (board[p] == onBoard) {
                    found++;
                }
            }
            return found;
        }

        private int countInside() {
            return PERSONS - countOn(NONE);
        }

        private void moveAll(int from, int to) {
            for (int p = 0; p < PERSONS; p++) {
                if (board[p] == from) {
                    board[p] = to;
                }
            }
        }

        /** The person on the board with the least tally above the given one, or NONE. */
        private int nextOn(int onBoard, int aboveTally) {
            int next = NONE;
            int nextTally = Integer.MAX_VALUE;
            for (int p = 0; p < PERSONS; p++) {
                if (board[p] == onBoard && tally[p] > aboveTally && tally[p] < nextTally) {
                    next = p;
                    nextTally = tally[p];
                }
            }
            return next;
        }
    }

    /** The rows of all boards that may be made; the first ones, as many as are made, count. */
    private static final class Boards {
        private final boolean[] open = new boolean[BOARDS];
        private final int[] least = new int[BOARDS];
        private final int[] longest = new int[BOARDS];
        private final int[] safetyNeeded = new int[BOARDS];
        private final int[] keeper = new int[BOARDS];
        private int made = 0;

        private Boards() {
            Arrays.fill(keeper, NONE);
        }

        private boolean has(int board) {
            return board >= 0 && board < made;
        }

        private boolean hasRoom() {
            return made < BOARDS;
        }

        /** Only to be called behind hasRoom(). */
        private int make(int leastSize, int longestTime, int safety) {
            int number = made;
            open[number] = true;
            least[number] = leastSize;
            longest[number] = longestTime;
            safetyNeeded[number] = safety;
            made++;
            return number;
        }

        private int countOpen() {
            int found = 0;
            for (int b = 0; b < made; b++) {
                if (open[b]) {
                    found++;
                }
            }
            return found;
        }
    }
}
