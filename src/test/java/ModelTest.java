import java.util.Arrays;
import java.util.Map;
import java.util.Random;
import java.util.TreeMap;

/** Long runs of calls, answered by EntryRows as by the model; the seeds are fixed. */
public final class ModelTest {
    private static final int RUNS = 3_000;
    private static final int MOST_CALLS = 512;
    private static final String[] CALLS = {
        "board", "keep", "right", "rest", "heat", "member", "safety", "enter", "out", "swap",
        "join", "close", "tick", "on", "late", "person", "boardAt", "count",
    };
    // How often each call comes; joins and closes are rare, or no board would stay open.
    private static final int[] WEIGHTS = {6, 25, 10, 8, 10, 80, 30, 150, 200, 60, 4, 4, 70, 60, 40, 120, 80, 20};

    private final Check check = new Check();
    private final Map<String, Integer> outcomes = new TreeMap<>();
    private Model model;
    private int persons;
    private int teams;

    public static void main(String[] args) {
        ModelTest t = new ModelTest();
        for (int run = 0; run < RUNS && !t.check.failed(); run++) {
            t.run(run);
        }
        t.eachOutcomeWasSeen();
        t.check.end();
    }

    private void run(int seed) {
        Random random = new Random(seed);
        // Few persons and teams in some runs, so that calls meet the same ones often.
        persons = 4 + random.nextInt(33);
        teams = 2 + random.nextInt(7);
        EntryRows x = new EntryRows();
        model = new Model();
        for (int call = 0; call < MOST_CALLS && !check.failed(); call++) {
            String name = call < 2 ? "board" : call == 2 ? "rest" : pick(random);
            int[] a = arguments(name, random);
            String due = answer(null, model, name, a);
            check.about("run " + seed + ", call " + call + ", " + name + Arrays.toString(a));
            check.same(due, answer(x, null, name, a));
            String kind = due.startsWith("throws.") ? due : "an answer";
            outcomes.merge(name + " " + kind, 1, Integer::sum);
        }
    }

    private static String pick(Random random) {
        int all = 0;
        for (int w : WEIGHTS) {
            all += w;
        }
        int left = random.nextInt(all);
        int i = 0;
        while (left >= WEIGHTS[i]) {
            left -= WEIGHTS[i++];
        }
        return CALLS[i];
    }

    /** A number of 0 .. below - 1; now and then one beyond either end. */
    private static int number(Random random, int below) {
        if (random.nextInt(60) != 0) {
            return random.nextInt(below);
        }
        int[] wild = {-1, below, below + 1, Integer.MIN_VALUE, Integer.MAX_VALUE};
        return wild[random.nextInt(wild.length)];
    }

    private int[] arguments(String name, Random r) {
        int board = number(r, r.nextInt(4) == 0 ? 8 : 2);
        int person = number(r, r.nextInt(20) == 0 ? 40 : persons);
        int team = number(r, r.nextInt(20) == 0 ? 16 : teams);
        int flag = r.nextInt(4) == 0 ? 0 : 1;
        switch (name) {
            case "board": return new int[] {1 + number(r, r.nextInt(3) == 0 ? 6 : 2), 1 + number(r, r.nextBoolean() ? 10_000 : 300), number(r, r.nextBoolean() ? 4 : 2)};
            // Mostly keepers of no team, or few teams would ever be ready.
            case "keep": return new int[] {board, r.nextInt(4) == 0 ? person : 36 + r.nextInt(4)};
            case "right": return new int[] {person, flag};
            case "rest": return new int[] {number(r, r.nextInt(4) == 0 ? 10_001 : 30)};
            case "heat": return new int[] {number(r, 6), number(r, 101)};
            case "member": return new int[] {team, person, flag};
            case "safety": return new int[] {board, team, flag};
            case "enter": return new int[] {board, team, number(r, 10), number(r, 6), 1 - flag};
            case "out": return comingOut(board, person, r);
            case "swap": return new int[] {somebodyInside(r), r.nextBoolean() ? somebodyInside(r) : person};
            case "join": return new int[] {board, number(r, 8)};
            case "close": return new int[] {board};
            case "tick": return new int[] {1 + number(r, r.nextInt(8) == 0 ? 5_000 : 200)};
            case "on": return new int[] {board, number(r, 12)};
            case "late": return new int[] {number(r, 6)};
            case "person": return new int[] {person, number(r, 10)};
            case "boardAt": return new int[] {board, number(r, 5)};
            default: return new int[] {number(r, 4)};
        }
    }

    /** A person drawn at random is hardly ever inside, so half of these calls look for one. */
    private int somebodyInside(Random r) {
        int start = r.nextInt(40);
        for (int n = 0; n < 40; n++) {
            int p = (start + n) % 40;
            if (model.person(p, 0) >= 0) {
                return p;
            }
        }
        return start;
    }

    private int[] comingOut(int board, int person, Random r) {
        if (r.nextBoolean()) {
            return new int[] {board, person};
        }
        int p = somebodyInside(r);
        return new int[] {model.person(p, 0), p};
    }

    private static String answer(EntryRows x, Model m, String name, int[] a) {
        try {
            return Integer.toString(x != null ? call(x, name, a) : call(m, name, a));
        } catch (RuntimeException e) {
            return "throws." + e.getClass().getSimpleName();
        }
    }

    private static int call(EntryRows x, String name, int[] a) {
        switch (name) {
            case "board": return x.board(a[0], a[1], a[2]);
            case "keep": x.keep(a[0], a[1]); return 0;
            case "right": x.right(a[0], a[1] == 1); return 0;
            case "rest": x.rest(a[0]); return 0;
            case "heat": x.heat(a[0], a[1]); return 0;
            case "member": return x.member(a[0], a[1], a[2] == 1);
            case "safety": return x.safety(a[0], a[1], a[2] == 1);
            case "enter": return x.enter(a[0], a[1], a[2], a[3], a[4] == 1);
            case "out": return x.out(a[0], a[1]);
            case "swap": x.swap(a[0], a[1]); return 0;
            case "join": return x.join(a[0], a[1]);
            case "close": x.close(a[0]); return 0;
            case "tick": return x.tick(a[0]);
            case "on": return x.on(a[0], a[1]);
            case "late": return x.late(a[0]);
            case "person": return x.person(a[0], a[1]);
            case "boardAt": return x.boardAt(a[0], a[1]);
            default: return x.count(a[0]);
        }
    }

    private static int call(Model m, String name, int[] a) {
        switch (name) {
            case "board": return m.board(a[0], a[1], a[2]);
            case "keep": return m.keep(a[0], a[1]);
            case "right": return m.right(a[0], a[1] == 1);
            case "rest": return m.rest(a[0]);
            case "heat": return m.heat(a[0], a[1]);
            case "member": return m.member(a[0], a[1], a[2] == 1);
            case "safety": return m.safety(a[0], a[1], a[2] == 1);
            case "enter": return m.enter(a[0], a[1], a[2], a[3], a[4] == 1);
            case "out": return m.out(a[0], a[1]);
            case "swap": return m.swap(a[0], a[1]);
            case "join": return m.join(a[0], a[1]);
            case "close": return m.close(a[0]);
            case "tick": return m.tick(a[0]);
            case "on": return m.on(a[0], a[1]);
            case "late": return m.late(a[0]);
            case "person": return m.person(a[0], a[1]);
            case "boardAt": return m.boardAt(a[0], a[1]);
            default: return m.count(a[0]);
        }
    }

    /** Runs that never reach an outcome would prove nothing about it. */
    private void eachOutcomeWasSeen() {
        check.about("outcomes of the runs");
        String[] due = {
            "board IO UO", "keep IA IS", "right IA", "rest IO", "heat IA IO", "member IA IS UO",
            "safety IA IS", "enter IA IO IS", "out IA IS", "swap IA IS", "join IA IS", "close IA IS",
            "tick IO", "on IA IO", "late IO", "person IA", "boardAt IA", "count IA",
        };
        int kinds = 0;
        for (String line : due) {
            String[] words = line.split(" ");
            for (int i = 0; i < words.length; i++) {
                String kind = i == 0 ? "an answer" : "throws." + fullName(words[i]);
                boolean seen = outcomes.getOrDefault(words[0] + " " + kind, 0) >= 20;
                check.same("seen", seen ? "seen" : "hardly ever: " + words[0] + " " + kind);
                kinds++;
            }
        }
        check.same(Integer.toString(kinds), Integer.toString(outcomes.size()));
        System.out.println(outcomes);
    }

    private static String fullName(String shortName) {
        switch (shortName) {
            case "IA": return "IllegalArgumentException";
            case "IO": return "IndexOutOfBoundsException";
            case "IS": return "IllegalStateException";
            default: return "UnsupportedOperationException";
        }
    }
}
