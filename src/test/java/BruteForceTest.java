import java.util.ArrayList;
import java.util.List;
import java.util.NoSuchElementException;

/**
 * Random runs of calls on short rows against a model that makes every PARTING there is and sorts them.
 * The numbers come from a fixed seed, so that each run of this test is the same.
 */
public final class BruteForceTest {
    private static long seed = 20261116;

    private static int pick(int bound) {
        seed = seed * 6364136223846793005L + 1442695040888963407L;
        return (int) ((seed >>> 33) % bound);
    }

    private static void due(int run, String call, long got, long want) {
        Checks.due("run " + run + ": " + call, got, want);
    }

    /** A way through the words so far: end line and go line by turns, with what stands behind it. */
    private static final class Way {
        final int[] steps;
        final int state;
        final boolean open;
        final int cost;

        Way(int[] steps, int state, boolean open, int cost) {
            this.steps = steps;
            this.state = state;
            this.open = open;
            this.cost = cost;
        }

        Way with(int end, int go, int state, boolean open, int cost) {
            int[] longer = java.util.Arrays.copyOf(steps, steps.length + 2);
            longer[steps.length] = end;
            longer[steps.length + 1] = go;
            return new Way(longer, state, open, cost);
        }

        boolean isAheadOf(Way other) {
            if (cost != other.cost) {
                return cost < other.cost;
            }
            return java.util.Arrays.compare(steps, other.steps) < 0;
        }
    }

    private static final class Model {
        final int[] kinds = new int[100];
        final boolean[] names = new boolean[100];
        final List<int[]> row = new ArrayList<>();
        final List<int[]> gos = new ArrayList<>();
        final List<int[]> ends = new ArrayList<>();

        Model() {
            java.util.Arrays.fill(kinds, 1);
        }

        List<Way> ways() {
            List<Way> ways = new ArrayList<>();
            ways.add(new Way(new int[0], 0, false, 0));
            for (int i = 0; i < row.size(); i++) {
                List<Way> longer = new ArrayList<>();
                for (Way way : ways) {
                    addSteps(way, i, longer);
                }
                ways = longer;
            }
            return ways;
        }

        void addSteps(Way way, int i, List<Way> into) {
            for (int e = -1; e < ends.size(); e++) {
                if (e >= 0 && (i == 0 || way.open || ends.get(e)[0] != way.state)) {
                    continue;
                }
                for (int g = 0; g < gos.size(); g++) {
                    int[] go = gos.get(g);
                    int state = e < 0 ? way.state : 0;
                    boolean fits = go[0] == state && (kinds[row.get(i)[0]] & 1 << go[1]) != 0;
                    boolean quotes = go[4] == 2 ? !way.open : go[4] != 3 || way.open;
                    if (fits && quotes && obeys(row.get(i)[1], e, go[4])) {
                        boolean open = go[4] == 2 || (way.open && go[4] != 3);
                        int price = go[3] + (e < 0 ? 0 : ends.get(e)[1]);
                        into.add(way.with(e, g, go[2], open, way.cost + price));
                    }
                }
            }
        }

        boolean obeys(int hand, int end, int goMark) {
            if (hand < 0) {
                return true;
            }
            return hand < 4 ? end < 0 && goMark == hand : end >= 0 && ends.get(end)[2] == hand;
        }

        /** All PARTINGS, the told one first, SECOND's next; the last end line stands behind the steps. */
        List<Way> partings() {
            List<Way> all = new ArrayList<>();
            if (row.isEmpty()) {
                return all;
            }
            for (Way way : ways()) {
                for (int e = 0; e < ends.size(); e++) {
                    if (!way.open && ends.get(e)[0] == way.state) {
                        all.add(way.with(e, 0, 0, false, way.cost + ends.get(e)[1]));
                    }
                }
            }
            all.sort((a, b) -> a.isAheadOf(b) ? -1 : b.isAheadOf(a) ? 1 : 0);
            return all;
        }

        boolean hasHope(int state, boolean open, boolean[] seen) {
            int node = state * 2 + (open ? 1 : 0);
            if (seen[node]) {
                return false;
            }
            seen[node] = true;
            for (int[] end : ends) {
                if (end[0] == state && !open) {
                    return true;
                }
            }
            for (int[] go : gos) {
                boolean quotes = go[4] == 2 ? !open : go[4] != 3 || open;
                boolean behind = go[4] == 2 || (open && go[4] != 3);
                if (go[0] == state && quotes && hasHope(go[2], behind, seen)) {
                    return true;
                }
            }
            return false;
        }

        int settled() {
            Way[] firsts = new Way[20];
            for (Way way : ways()) {
                int node = way.state * 2 + (way.open ? 1 : 0);
                if (firsts[node] == null || way.isAheadOf(firsts[node])) {
                    firsts[node] = way;
                }
            }
            int[] one = null;
            int same = 0;
            for (Way way : firsts) {
                if (way == null || !hasHope(way.state, way.open, new boolean[20])) {
                    continue;
                }
                if (one == null) {
                    one = way.steps;
                    same = row.size();
                }
                int differs = java.util.Arrays.mismatch(one, way.steps);
                same = differs < 0 ? same : Math.min(same, differs / 2);
            }
            return same;
        }
    }

    private static final String[] GO_MARKS = {"", " with comma", " with open", " with close"};
    private static final String[] END_MARKS = {"stop", "question", "colon"};

    private static void tellGrammar(StopSetter x, Model model, int run) {
        model.gos.clear();
        model.ends.clear();
        int states = 1 + pick(4);
        int costs = 1 + pick(4);
        StringBuilder text = new StringBuilder();
        for (int left = 1 + pick(9); left > 0; left--) {
            int[] go = {pick(states), pick(3), pick(states), pick(costs), Math.max(0, pick(6) - 2)};
            model.gos.add(go);
            text.append("go ").append(go[0]).append(" kind ").append(go[1]).append(" to ").append(go[2]);
            text.append(" cost ").append(go[3]).append(GO_MARKS[go[4]]).append(";");
        }
        for (int left = pick(4); left > 0; left--) {
            int[] end = {pick(states), pick(costs), 4 + pick(3)};
            model.ends.add(end);
            text.append("end ").append(end[0]).append(" cost ").append(end[1]);
            text.append(" with ").append(END_MARKS[end[2] - 4]).append(" ;\n");
        }
        Checks.feed(x, text);
        due(run, "grammar", x.grammar(), 0);
    }

    private static void change(StopSetter x, Model model, int run) {
        int n = model.row.size();
        int what = pick(8);
        if (what <= 2 && n < 5) {
            int word = 1 + pick(4);
            model.row.add(new int[] {word, -1});
            due(run, "word", x.word(word), n + 1);
        } else if (what == 3 && n > 0) {
            model.row.remove(n - 1);
            due(run, "drop", x.drop(), n - 1);
        } else if (what == 4 && n > 0) {
            int i = pick(n);
            int mark = pick(8) - 1;
            boolean fits = i > 0 || mark < 4;
            due(run, "hand", x.hand(i, mark) ? 1 : 0, fits ? 1 : 0);
            if (fits) {
                model.row.get(i)[1] = mark;
            }
        } else if (what == 5 && n > 0) {
            int i = pick(n);
            model.row.get(i)[1] = -1;
            due(run, "hand", x.hand(i, -1) ? 1 : 0, 1);
        } else if (what == 6) {
            int word = 1 + pick(4);
            model.kinds[word] = 1 + pick(7);
            due(run, "kinds", x.kinds(word, model.kinds[word]) ? 1 : 0, 1);
        } else if (what == 7) {
            int word = 1 + pick(4);
            model.names[word] = pick(2) == 0;
            due(run, "name", x.name(word, model.names[word]) ? 1 : 0, 1);
        }
    }

    private static void compare(StopSetter x, Model model, int run) {
        List<Way> partings = model.partings();
        int n = model.row.size();
        Way told = partings.isEmpty() ? null : partings.get(0);
        due(run, "settled", x.settled(), model.settled());
        due(run, "cost", x.cost(), told == null ? -1 : told.cost);
        due(run, "second", x.second(), partings.size() < 2 ? -1 : partings.get(1).cost);
        due(run, "last", x.last(), told == null ? -1 : told.steps[2 * n]);
        int sentences = told == null ? -1 : 1;
        for (int i = 0; i < n; i++) {
            sentences += told != null && told.steps[2 * i] >= 0 ? 1 : 0;
            compareWord(x, model, told, i, run);
        }
        due(run, "sentences", x.sentences(), sentences);
    }

    private static void compareWord(StopSetter x, Model model, Way told, int i, int run) {
        if (told == null) {
            try {
                due(run, "look(" + i + ") of no parting", x.look(i, 0), Integer.MIN_VALUE);
            } catch (NoSuchElementException e) {
                return;
            }
            return;
        }
        int end = told.steps[2 * i];
        int[] go = model.gos.get(told.steps[2 * i + 1]);
        int endMark = end < 0 ? 0 : model.ends.get(end)[2];
        int opened = 0;
        for (int k = 0; k <= i; k++) {
            int mark = model.gos.get(told.steps[2 * k + 1])[4];
            opened += mark == 2 ? 1 : mark == 3 ? -1 : 0;
        }
        boolean raised = i == 0 || model.names[model.row.get(i)[0]] || endMark == 4 || endMark == 5 || go[4] == 2;
        int[] want = {end, told.steps[2 * i + 1], endMark, go[4], raised ? 1 : 0, go[2], opened};
        for (int what = 0; what < want.length; what++) {
            due(run, "look(" + i + ", " + what + ")", x.look(i, what), want[what]);
        }
    }

    public static void main(String[] args) {
        for (int run = 1; run <= 1500; run++) {
            StopSetter x = new StopSetter();
            Model model = new Model();
            tellGrammar(x, model, run);
            for (int step = 0; step < 9; step++) {
                for (int calls = 1 + pick(4); calls > 0; calls--) {
                    change(x, model, run);
                }
                if (pick(12) == 0) {
                    tellGrammar(x, model, run);
                }
                compare(x, model, run);
            }
        }
        System.exit(Checks.exitCode());
    }
}
