import java.util.ArrayList;
import java.util.List;

/**
 * Each refusal of each promise, alone and where two are due at once, and that what is refused
 * changes nothing: an object that met the refusal answers like one that never did.
 *
 * <p>"Refusals, in this order: an unknown number: IllegalArgumentException; a number outside its
 * range: IndexOutOfBoundsException; not in this state: IllegalStateException; no room:
 * UnsupportedOperationException. What is refused changes nothing."
 */
public final class RefusalsTest {
    private static final int MIN = Integer.MIN_VALUE;
    private static final int MAX = Integer.MAX_VALUE;

    private interface Scene {
        EntryRows make();
    }

    private interface Use {
        void on(EntryRows x);
    }

    private final Check check = new Check();

    public static void main(String[] args) {
        RefusalsTest t = new RefusalsTest();
        t.check.runAll(t);
        t.check.end();
    }

    private void refused(String due, Scene scene, Use call) {
        for (Probes.Probe probe : Probes.ALL) {
            EntryRows met = scene.make();
            check.same("throws." + due, Check.outcome(() -> call.on(met)));
            List<String> before = new ArrayList<>();
            List<String> behind = new ArrayList<>();
            probe.ask(scene.make(), before);
            probe.ask(met, behind);
            check.same(firstOther(before, behind), firstOther(behind, before));
        }
    }

    /** The first answer that the other list has not, so that a failure is told in one line. */
    private static String firstOther(List<String> these, List<String> others) {
        for (int i = 0; i < these.size(); i++) {
            if (i >= others.size() || !these.get(i).equals(others.get(i))) {
                return "changes nothing: " + these.get(i);
            }
        }
        return "changes nothing";
    }

    private void unknown(Use call) {
        refused("IllegalArgumentException", Scenes::busy, call);
    }

    private void range(Use call) {
        refused("IndexOutOfBoundsException", Scenes::busy, call);
    }

    private void state(Use call) {
        state(Scenes::busy, call);
    }

    private void state(Scene scene, Use call) {
        refused("IllegalStateException", scene, call);
    }

    // Promise 2: range: they are not so; no room: there are 8.

    private static EntryRows eightBoards() {
        EntryRows x = Scenes.busy();
        x.board(2, 3, 1);
        x.board(1, 1, 0);
        x.board(1, 1, 0);
        return x;
    }

    void boardLeastOutsideItsRange() {
        range(x -> x.board(0, 1, 0));
        range(x -> x.board(7, 1, 0));
    }

    void boardLongestOutsideItsRange() {
        range(x -> x.board(1, 0, 0));
        range(x -> x.board(1, 10_001, 0));
    }

    void boardSafetyOutsideItsRange() {
        range(x -> x.board(1, 1, -1));
        range(x -> x.board(1, 1, 4));
    }

    void boardWithoutRoom() {
        refused("UnsupportedOperationException", RefusalsTest::eightBoards, x -> x.board(1, 1, 0));
    }

    void boardRangeBeforeNoRoom() {
        refused("IndexOutOfBoundsException", RefusalsTest::eightBoards, x -> x.board(0, 1, 0));
        refused("IndexOutOfBoundsException", RefusalsTest::eightBoards, x -> x.board(1, 10_001, 0));
        refused("IndexOutOfBoundsException", RefusalsTest::eightBoards, x -> x.board(1, 1, 4));
    }

    // Promise 3: unknown: no such board or person; state: it is closed; the person is inside, or keeps one.

    void keepUnknown() {
        unknown(x -> x.keep(-1, 30));
        unknown(x -> x.keep(5, 30));
        unknown(x -> x.keep(4, -1));
        unknown(x -> x.keep(4, 40));
    }

    void keepClosed() {
        state(x -> x.keep(2, 30));
        state(x -> x.keep(3, 30));
    }

    void keepByOneInside() {
        state(x -> x.keep(0, 1));
        state(x -> x.keep(1, 1));
        state(x -> x.keep(4, 5));
    }

    void keepByAKeeper() {
        state(x -> x.keep(0, 39));
        state(x -> x.keep(1, 39));
        state(x -> x.keep(4, 38));
    }

    void keepUnknownBeforeState() {
        unknown(x -> x.keep(2, 40));
        unknown(x -> x.keep(3, -1));
        unknown(x -> x.keep(5, 39));
        unknown(x -> x.keep(-1, 1));
    }

    // Promise 4: unknown: no such person.

    void rightUnknown() {
        unknown(x -> x.right(-1, true));
        unknown(x -> x.right(40, true));
        unknown(x -> x.right(40, false));
        unknown(x -> x.right(MIN, false));
    }

    // Promise 5: range: it is not so.

    void restOutsideItsRange() {
        range(x -> x.rest(-1));
        range(x -> x.rest(10_001));
        range(x -> x.rest(MAX));
    }

    // Promise 6: unknown: no such place; range: it.

    void heatUnknown() {
        unknown(x -> x.heat(-1, 50));
        unknown(x -> x.heat(6, 50));
    }

    void heatOutsideItsRange() {
        range(x -> x.heat(2, -1));
        range(x -> x.heat(5, 101));
    }

    void heatUnknownBeforeRange() {
        unknown(x -> x.heat(-1, -1));
        unknown(x -> x.heat(6, 101));
        unknown(x -> x.heat(MAX, MIN));
    }

    // Promise 7: unknown: no such team or person; state: (comes in) the person is in a team,
    // (leaves) is not in this one; the person is inside; no room: there are 6.

    void memberUnknown() {
        unknown(x -> x.member(-1, 30, true));
        unknown(x -> x.member(16, 30, true));
        unknown(x -> x.member(8, -1, true));
        unknown(x -> x.member(8, 40, true));
        unknown(x -> x.member(-1, 16, false));
        unknown(x -> x.member(16, 16, false));
        unknown(x -> x.member(7, -1, false));
        unknown(x -> x.member(7, 40, false));
    }

    void memberComesInBeingInATeam() {
        state(x -> x.member(7, 16, true));
        state(x -> x.member(8, 16, true));
        state(x -> x.member(8, 13, true));
    }

    void memberLeavesNotBeingInThisOne() {
        state(x -> x.member(7, 30, false));
        state(x -> x.member(7, 15, false));
        state(x -> x.member(8, 16, false));
        state(x -> x.member(8, 30, false));
    }

    void memberInside() {
        state(x -> x.member(0, 1, false));
        state(x -> x.member(2, 5, false));
        state(x -> x.member(0, 1, true));
        state(x -> x.member(8, 1, true));
        state(x -> x.member(8, 1, false));
    }

    void memberWithoutRoom() {
        refused("UnsupportedOperationException", Scenes::busy, x -> x.member(3, 30, true));
        refused("UnsupportedOperationException", Scenes::busy, x -> x.member(3, 39, true));
    }

    void memberUnknownBeforeState() {
        unknown(x -> x.member(16, 1, true));
        unknown(x -> x.member(16, 1, false));
        unknown(x -> x.member(-1, 30, false));
        unknown(x -> x.member(0, 40, false));
    }

    void memberUnknownBeforeNoRoom() {
        unknown(x -> x.member(3, 40, true));
        unknown(x -> x.member(3, -1, true));
    }

    void memberStateBeforeNoRoom() {
        state(x -> x.member(3, 6, true));
        state(x -> x.member(3, 16, true));
        state(x -> x.member(3, 1, true));
    }

    void memberLeavingAFullTeamNeedsNoRoom() {
        EntryRows x = Scenes.busy();
        check.due(5, () -> x.member(3, 11, false));
        check.state(() -> x.member(3, 11, false));
    }

    // Promise 8: unknown: no such board or team; state: the board is closed; (it becomes one) it is
    // one of some board, (not any more) it is none of this one.

    void safetyUnknown() {
        unknown(x -> x.safety(-1, 7, true));
        unknown(x -> x.safety(5, 7, true));
        unknown(x -> x.safety(0, -1, true));
        unknown(x -> x.safety(0, 16, true));
        unknown(x -> x.safety(-1, 7, false));
        unknown(x -> x.safety(5, 1, false));
        unknown(x -> x.safety(0, -1, false));
        unknown(x -> x.safety(0, 16, false));
    }

    void safetyOfAClosedBoard() {
        state(x -> x.safety(2, 7, true));
        state(x -> x.safety(3, 7, true));
        state(x -> x.safety(2, 7, false));
        state(x -> x.safety(3, 6, false));
    }

    void safetyBecomesOneBeingOne() {
        state(x -> x.safety(0, 1, true));
        state(x -> x.safety(1, 1, true));
        state(x -> x.safety(4, 6, true));
    }

    void safetyNotAnyMoreBeingNoneOfThisOne() {
        state(x -> x.safety(0, 7, false));
        state(x -> x.safety(1, 1, false));
        state(x -> x.safety(0, 6, false));
        state(x -> x.safety(4, 8, false));
    }

    void safetyUnknownBeforeState() {
        unknown(x -> x.safety(2, 16, true));
        unknown(x -> x.safety(3, -1, false));
        unknown(x -> x.safety(5, 1, true));
        unknown(x -> x.safety(-1, 7, false));
    }

    // Promise 9: unknown: no such board or team; range: task, place; state: as above.

    private static EntryRows keeperWithoutTheRight() {
        EntryRows x = Scenes.busy();
        x.keep(0, 36);
        return x;
    }

    void enterUnknown() {
        unknown(x -> x.enter(-1, 3, 0, 0, false));
        unknown(x -> x.enter(5, 3, 0, 0, false));
        unknown(x -> x.enter(0, -1, 0, 0, false));
        unknown(x -> x.enter(0, 16, 0, 0, true));
    }

    void enterTaskOutsideItsRange() {
        range(x -> x.enter(0, 3, -1, 0, false));
        range(x -> x.enter(0, 3, 10, 0, true));
    }

    void enterPlaceOutsideItsRange() {
        range(x -> x.enter(0, 3, 0, -1, false));
        range(x -> x.enter(0, 3, 0, 6, true));
    }

    void enterOnAClosedBoard() {
        state(x -> x.enter(2, 3, 0, 0, false));
        state(x -> x.enter(3, 3, 0, 0, false));
        state(x -> x.enter(2, 3, 0, 0, true));
        state(x -> x.enter(3, 3, 0, 0, true));
    }

    void enterOnABoardWithoutAKeeper() {
        state(x -> x.enter(4, 3, 0, 0, false));
        state(x -> x.enter(4, 3, 0, 0, true));
    }

    void enterWithTooFew() {
        state(x -> x.enter(1, 7, 0, 0, false));
        state(x -> x.enter(1, 8, 0, 0, false));
        state(x -> x.enter(0, 8, 0, 0, true));
    }

    void enterBeingInside() {
        state(x -> x.enter(0, 0, 0, 0, false));
        state(x -> x.enter(1, 0, 0, 0, false));
        state(x -> x.enter(0, 2, 0, 0, true));
    }

    void enterResting() {
        state(x -> x.enter(0, 4, 0, 0, false));
        state(x -> x.enter(0, 4, 0, 0, true));
    }

    void enterKeeping() {
        state(x -> x.enter(0, 5, 0, 0, false));
        state(x -> x.enter(1, 5, 0, 0, false));
        state(x -> x.enter(0, 5, 0, 0, true));
    }

    void enterWithoutEnoughSafetyTeams() {
        state(x -> x.enter(0, 1, 0, 0, false));
    }

    void enterAsARescueWithoutTheRight() {
        state(RefusalsTest::keeperWithoutTheRight, x -> x.enter(0, 1, 0, 0, true));
    }

    void enterUnknownBeforeRange() {
        unknown(x -> x.enter(5, 3, 10, 0, false));
        unknown(x -> x.enter(-1, 3, 0, 6, false));
        unknown(x -> x.enter(0, 16, -1, 0, false));
        unknown(x -> x.enter(0, -1, 0, -1, true));
    }

    void enterUnknownBeforeState() {
        unknown(x -> x.enter(2, 16, 0, 0, false));
        unknown(x -> x.enter(4, -1, 0, 0, false));
        unknown(x -> x.enter(5, 0, 0, 0, false));
        unknown(x -> x.enter(-1, 8, 0, 0, true));
    }

    void enterRangeBeforeState() {
        range(x -> x.enter(2, 3, 10, 0, false));
        range(x -> x.enter(3, 3, 0, 6, true));
        range(x -> x.enter(4, 3, -1, 0, false));
        range(x -> x.enter(0, 0, 0, -1, false));
        range(x -> x.enter(0, 4, 10, 6, true));
        range(x -> x.enter(0, 1, 10, 0, false));
    }

    void enterAllThreeAtOnce() {
        unknown(x -> x.enter(2, 16, 10, 6, false));
        unknown(x -> x.enter(5, 0, -1, -1, true));
    }

    // Promise 10: unknown: no such board or person; state: the person is not on it.

    void outUnknown() {
        unknown(x -> x.out(-1, 1));
        unknown(x -> x.out(5, 1));
        unknown(x -> x.out(0, -1));
        unknown(x -> x.out(0, 40));
    }

    void outNotInside() {
        state(x -> x.out(0, 3));
        state(x -> x.out(1, 12));
        state(x -> x.out(4, 0));
    }

    void outByAnotherBoard() {
        state(x -> x.out(1, 1));
        state(x -> x.out(0, 5));
        state(x -> x.out(4, 1));
    }

    void outByAClosedBoard() {
        state(x -> x.out(2, 1));
        state(x -> x.out(3, 4));
        state(x -> x.out(3, 0));
    }

    void outUnknownBeforeState() {
        unknown(x -> x.out(2, 40));
        unknown(x -> x.out(-1, 3));
        unknown(x -> x.out(5, 12));
        unknown(x -> x.out(4, -1));
    }

    // Promise 11: unknown: no such persons; state: one is not inside, or they are one.

    void swapUnknown() {
        unknown(x -> x.swap(-1, 1));
        unknown(x -> x.swap(40, 1));
        unknown(x -> x.swap(1, -1));
        unknown(x -> x.swap(1, 40));
    }

    void swapNotInside() {
        state(x -> x.swap(1, 3));
        state(x -> x.swap(3, 1));
        state(x -> x.swap(3, 16));
        state(x -> x.swap(12, 4));
        state(x -> x.swap(1, 39));
    }

    void swapOfOne() {
        state(x -> x.swap(1, 1));
        state(x -> x.swap(3, 3));
    }

    void swapUnknownBeforeState() {
        unknown(x -> x.swap(40, 3));
        unknown(x -> x.swap(3, -1));
        unknown(x -> x.swap(40, 40));
        unknown(x -> x.swap(-1, -1));
    }

    // Promise 12: unknown: no such boards; state: one is closed, or they are one.

    void joinUnknown() {
        unknown(x -> x.join(-1, 0));
        unknown(x -> x.join(5, 0));
        unknown(x -> x.join(0, -1));
        unknown(x -> x.join(0, 5));
    }

    void joinOfClosedBoards() {
        state(x -> x.join(2, 0));
        state(x -> x.join(3, 0));
        state(x -> x.join(0, 2));
        state(x -> x.join(0, 3));
        state(x -> x.join(3, 1));
        state(x -> x.join(2, 3));
    }

    void joinToItself() {
        state(x -> x.join(0, 0));
        state(x -> x.join(4, 4));
        state(x -> x.join(2, 2));
    }

    void joinUnknownBeforeState() {
        unknown(x -> x.join(2, 5));
        unknown(x -> x.join(-1, 3));
        unknown(x -> x.join(5, 5));
        unknown(x -> x.join(-1, -1));
    }

    // Promise 13: unknown: no such board; state: it is closed, or somebody is on it.

    void closeUnknown() {
        unknown(x -> x.close(-1));
        unknown(x -> x.close(5));
        unknown(x -> x.close(8));
    }

    void closeClosed() {
        state(x -> x.close(2));
        state(x -> x.close(3));
    }

    void closeWithSomebodyOnIt() {
        state(x -> x.close(0));
        state(x -> x.close(1));
    }

    // Promise 14: range: the seconds, or beyond 999,999.

    private static EntryRows nearTheEnd() {
        EntryRows x = Scenes.inside(3);
        Scenes.goOn(x, 995_000);
        return x;
    }

    private static EntryRows atTheEnd() {
        EntryRows x = nearTheEnd();
        x.tick(4_999);
        return x;
    }

    void tickOutsideItsRange() {
        range(x -> x.tick(0));
        range(x -> x.tick(-1));
        range(x -> x.tick(5_001));
        range(x -> x.tick(MIN));
        range(x -> x.tick(MAX));
    }

    void tickBeyondTheLastSecond() {
        refused("IndexOutOfBoundsException", RefusalsTest::nearTheEnd, x -> x.tick(5_000));
        refused("IndexOutOfBoundsException", RefusalsTest::nearTheEnd, x -> x.tick(5_001));
        refused("IndexOutOfBoundsException", RefusalsTest::atTheEnd, x -> x.tick(1));
        refused("IndexOutOfBoundsException", RefusalsTest::atTheEnd, x -> x.tick(5_000));
        refused("IndexOutOfBoundsException", RefusalsTest::atTheEnd, x -> x.tick(0));
        refused("IndexOutOfBoundsException", RefusalsTest::atTheEnd, x -> x.tick(-1));
        refused("IndexOutOfBoundsException", RefusalsTest::atTheEnd, x -> x.tick(MAX));
    }

    // Promise 15: unknown: no such board; range: i is below 0.

    void onUnknown() {
        unknown(x -> x.on(-1, 0));
        unknown(x -> x.on(5, 0));
    }

    void onBelowZero() {
        range(x -> x.on(0, -1));
        range(x -> x.on(2, -1));
        range(x -> x.on(4, MIN));
    }

    void onUnknownBeforeRange() {
        unknown(x -> x.on(-1, -1));
        unknown(x -> x.on(5, MIN));
    }

    // Promise 16: range: i is below 0.

    void lateBelowZero() {
        range(x -> x.late(-1));
        range(x -> x.late(MIN));
    }

    // Promises 17 to 19: unknown: no such person, board or what.

    void personUnknown() {
        unknown(x -> x.person(-1, 0));
        unknown(x -> x.person(40, 0));
        unknown(x -> x.person(0, -1));
        unknown(x -> x.person(0, 10));
        unknown(x -> x.person(40, 10));
    }

    void boardAtUnknown() {
        unknown(x -> x.boardAt(-1, 0));
        unknown(x -> x.boardAt(5, 0));
        unknown(x -> x.boardAt(0, -1));
        unknown(x -> x.boardAt(0, 5));
        unknown(x -> x.boardAt(5, 5));
    }

    void countUnknown() {
        unknown(x -> x.count(-1));
        unknown(x -> x.count(4));
    }

    // Reading changes nothing either.

    void readingChangesNothing() {
        for (Probes.Probe probe : Probes.ALL) {
            EntryRows read = Scenes.busy();
            for (int n = 0; n < 5; n++) {
                read.person(n, n);
                read.boardAt(n, 4);
                read.count(n % 4);
                read.on(n, 1);
                read.late(n);
            }
            List<String> before = new ArrayList<>();
            List<String> behind = new ArrayList<>();
            probe.ask(Scenes.busy(), before);
            probe.ask(read, behind);
            check.same(firstOther(before, behind), firstOther(behind, before));
        }
    }

    /** The probes must see what they are for, or "changes nothing" would be said of anything. */
    void theProbesSeeEachKindOfChange() {
        Use[] changes = {
            x -> x.board(1, 1, 0), x -> x.keep(4, 30), x -> x.right(38, true), x -> x.right(39, false),
            x -> x.rest(299), x -> x.heat(2, 8), x -> x.heat(5, 99), x -> x.member(8, 30, true),
            x -> x.member(7, 16, false), x -> x.safety(4, 8, true), x -> x.safety(0, 1, false),
            x -> x.enter(0, 7, 0, 0, false), x -> x.out(0, 1), x -> x.swap(1, 2), x -> x.join(4, 0),
            x -> x.close(4), x -> x.tick(1),
        };
        for (int i = 0; i < changes.length; i++) {
            boolean seen = false;
            for (Probes.Probe probe : Probes.ALL) {
                EntryRows changed = Scenes.busy();
                changes[i].on(changed);
                List<String> before = new ArrayList<>();
                List<String> behind = new ArrayList<>();
                probe.ask(Scenes.busy(), before);
                probe.ask(changed, behind);
                seen |= !before.equals(behind);
            }
            check.same("seen", seen ? "seen" : "change " + i + " is not seen");
        }
    }
}
