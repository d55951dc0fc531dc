import java.util.ArrayList;
import java.util.HashMap;
import java.util.HashSet;
import java.util.List;
import java.util.Map;
import java.util.Set;
import java.util.TreeMap;
import java.util.TreeSet;

/**
 * The document a second time, with the Java library's collections: boards hold their persons by
 * tallies, teams their members, so that a slip in the rows of EntryRows is not repeated here.
 */
final class Model {
    private static final class Entry {
        int task;
        int place;
        int since;
    }

    private static final class Board {
        int least;
        int longest;
        int need;
        boolean open = true;
        Integer keeper = null;
        final TreeMap<Integer, Integer> byTally = new TreeMap<>();
        final Set<Integer> safety = new HashSet<>();
    }

    private final List<Board> boards = new ArrayList<>();
    private final Map<Integer, TreeSet<Integer>> teams = new HashMap<>();
    private final Map<Integer, Entry> inside = new HashMap<>();
    private final Map<Integer, Integer> restUntil = new HashMap<>();
    private final Map<Integer, Integer> work = new HashMap<>();
    private final Map<Integer, Integer> heatSum = new HashMap<>();
    private final Map<Integer, Integer> heat = new HashMap<>();
    private final Set<Integer> rights = new HashSet<>();
    private int now = 0;
    private int rest = 600;
    private int tallies = 0;

    Model() {
        for (int t = 0; t < 16; t++) {
            teams.put(t, new TreeSet<>());
        }
    }

    private static void unknown(boolean bad) {
        if (bad) {
            throw new IllegalArgumentException();
        }
    }

    private static void range(boolean bad) {
        if (bad) {
            throw new IndexOutOfBoundsException();
        }
    }

    private static void state(boolean bad) {
        if (bad) {
            throw new IllegalStateException();
        }
    }

    private static void noRoom(boolean bad) {
        if (bad) {
            throw new UnsupportedOperationException();
        }
    }

    private Board known(int board) {
        unknown(board < 0 || board >= boards.size());
        return boards.get(board);
    }

    private static void knownPerson(int person) {
        unknown(person < 0 || person > 39);
    }

    private TreeSet<Integer> knownTeam(int team) {
        unknown(!teams.containsKey(team));
        return teams.get(team);
    }

    private int boardOf(int person) {
        for (int b = 0; b < boards.size(); b++) {
            if (boards.get(b).byTally.containsValue(person)) {
                return b;
            }
        }
        return -1;
    }

    private int tallyOf(int person) {
        for (Board b : boards) {
            for (Map.Entry<Integer, Integer> e : b.byTally.entrySet()) {
                if (e.getValue() == person) {
                    return e.getKey();
                }
            }
        }
        return -1;
    }

    private int teamOf(int person) {
        for (int t = 0; t < 16; t++) {
            if (teams.get(t).contains(person)) {
                return t;
            }
        }
        return -1;
    }

    private int keptBy(int person) {
        for (int b = 0; b < boards.size(); b++) {
            Integer keeper = boards.get(b).keeper;
            if (keeper != null && keeper == person) {
                return b;
            }
        }
        return -1;
    }

    private boolean ready(int team, Board board) {
        for (int p : teams.get(team)) {
            boolean rests = now < restUntil.getOrDefault(p, 0);
            if (inside.containsKey(p) || rests || keptBy(p) >= 0) {
                return false;
            }
        }
        return teams.get(team).size() >= board.least;
    }

    private int readySafety(Board board) {
        int n = 0;
        for (int t : board.safety) {
            n += ready(t, board) ? 1 : 0;
        }
        return n;
    }

    private boolean isLate(int person, int at) {
        int b = boardOf(person);
        return b >= 0 && at - inside.get(person).since > boards.get(b).longest;
    }

    int board(int least, int longest, int safety) {
        range(least < 1 || least > 6 || longest < 1 || longest > 10000 || safety < 0 || safety > 3);
        noRoom(boards.size() == 8);
        Board b = new Board();
        b.least = least;
        b.longest = longest;
        b.need = safety;
        boards.add(b);
        return boards.size() - 1;
    }

    int keep(int board, int person) {
        Board b = known(board);
        knownPerson(person);
        state(!b.open || inside.containsKey(person) || keptBy(person) >= 0);
        b.keeper = person;
        return 0;
    }

    int right(int person, boolean on) {
        knownPerson(person);
        if (on) {
            rights.add(person);
        } else {
            rights.remove(person);
        }
        return 0;
    }

    int rest(int seconds) {
        range(seconds < 0 || seconds > 10000);
        rest = seconds;
        return 0;
    }

    int heat(int place, int h) {
        unknown(place < 0 || place > 5);
        range(h < 0 || h > 100);
        heat.put(place, h);
        return 0;
    }

    int member(int team, int person, boolean on) {
        TreeSet<Integer> members = knownTeam(team);
        knownPerson(person);
        state(on && teamOf(person) >= 0);
        state(!on && !members.contains(person));
        state(inside.containsKey(person));
        noRoom(on && members.size() == 6);
        if (on) {
            members.add(person);
        } else {
            members.remove(person);
        }
        return members.size();
    }

    int safety(int board, int team, boolean on) {
        Board b = known(board);
        knownTeam(team);
        state(!b.open);
        if (on) {
            for (Board any : boards) {
                state(any.safety.contains(team));
            }
            b.safety.add(team);
        } else {
            state(!b.safety.remove(team));
        }
        return readySafety(b);
    }

    int enter(int board, int team, int task, int place, boolean rescue) {
        Board b = known(board);
        TreeSet<Integer> members = knownTeam(team);
        range(task < 0 || task > 9 || place < 0 || place > 5);
        state(!b.open || b.keeper == null || !ready(team, b));
        int others = readySafety(b) - (b.safety.contains(team) ? 1 : 0);
        state(others < b.need && !(rescue && rights.contains(b.keeper)));
        int first = tallies;
        for (int p : members) {
            Entry e = new Entry();
            e.task = task;
            e.place = place;
            e.since = now;
            inside.put(p, e);
            b.byTally.put(tallies++, p);
        }
        return first;
    }

    int out(int board, int person) {
        Board b = known(board);
        knownPerson(person);
        state(boardOf(person) != board);
        b.byTally.values().remove(person);
        Entry e = inside.remove(person);
        int seconds = now - e.since;
        work.merge(person, seconds, Integer::sum);
        heatSum.merge(person, seconds * heat.getOrDefault(e.place, 0), Integer::sum);
        restUntil.put(person, now + rest);
        return seconds;
    }

    int swap(int person, int other) {
        knownPerson(person);
        knownPerson(other);
        state(person == other || !inside.containsKey(person) || !inside.containsKey(other));
        Board a = boards.get(boardOf(person));
        Board b = boards.get(boardOf(other));
        int tallyA = tallyOf(person);
        int tallyB = tallyOf(other);
        a.byTally.remove(tallyA);
        b.byTally.remove(tallyB);
        a.byTally.put(tallyB, person);
        b.byTally.put(tallyA, other);
        return 0;
    }

    int join(int board, int other) {
        Board from = known(board);
        Board to = known(other);
        state(!from.open || !to.open || from == to);
        to.byTally.putAll(from.byTally);
        to.safety.addAll(from.safety);
        from.byTally.clear();
        shut(from);
        return to.byTally.size();
    }

    int close(int board) {
        Board b = known(board);
        state(!b.open || !b.byTally.isEmpty());
        shut(b);
        return 0;
    }

    private static void shut(Board b) {
        b.open = false;
        b.keeper = null;
        b.safety.clear();
    }

    int tick(int seconds) {
        range(seconds < 1 || seconds > 5000 || (long) now + seconds > 999999);
        int n = 0;
        for (int p : inside.keySet()) {
            n += !isLate(p, now) && isLate(p, now + seconds) ? 1 : 0;
        }
        now += seconds;
        return n;
    }

    int on(int board, int i) {
        Board b = known(board);
        range(i < 0);
        List<Integer> all = new ArrayList<>(b.byTally.values());
        return i < all.size() ? all.get(i) : -1;
    }

    int late(int i) {
        range(i < 0);
        List<Integer> all = new ArrayList<>();
        for (int p : new TreeSet<>(inside.keySet())) {
            if (isLate(p, now)) {
                all.add(p);
            }
        }
        return i < all.size() ? all.get(i) : -1;
    }

    int person(int person, int what) {
        knownPerson(person);
        unknown(what < 0 || what > 9);
        Entry e = inside.get(person);
        int[] all = {
            boardOf(person), tallyOf(person), e == null ? -1 : e.place, e == null ? -1 : e.task,
            e == null ? -1 : e.since, restUntil.getOrDefault(person, 0), work.getOrDefault(person, 0),
            heatSum.getOrDefault(person, 0), teamOf(person), keptBy(person),
        };
        return all[what];
    }

    int boardAt(int board, int what) {
        Board b = known(board);
        unknown(what < 0 || what > 4);
        int keeper = b.keeper == null ? -1 : b.keeper;
        int[] all = {b.open ? 1 : 0, keeper, b.byTally.size(), readySafety(b), sum(b)};
        return all[what];
    }

    private static int sum(Board b) {
        int s = 0;
        for (Map.Entry<Integer, Integer> e : b.byTally.entrySet()) {
            int x = s ^ (1000 * e.getValue() + e.getKey() % 1000);
            s = ((x << 5) | (x >>> 27)) * 0x85EBCA6B;
        }
        return s;
    }

    int count(int what) {
        unknown(what < 0 || what > 3);
        int open = 0;
        for (Board b : boards) {
            open += b.open ? 1 : 0;
        }
        int[] all = {now, inside.size(), tallies, open};
        return all[what];
    }
}
