import java.util.ArrayList;
import java.util.Arrays;
import java.util.List;

/**
 * Long rows under large grammars against a model that goes from the row's end to its start, the other
 * way round than the program does; and what is settled must stay whatever words come behind.
 */
public final class LongRowTest {
    private static final int FAR = 1 << 28;
    private static long seed = 77;

    private static int pick(int bound) {
        seed = seed * 6364136223846793005L + 1442695040888963407L;
        return (int) ((seed >>> 33) % bound);
    }

    private static void due(int run, String call, long got, long want) {
        Checks.due("run " + run + ": " + call, got, want);
    }

    private static final class Model {
        final List<int[]> gos = new ArrayList<>();
        final List<int[]> ends = new ArrayList<>();
        final int[] kinds = new int[100];
        final int[] row = new int[60];
        final int[] marks = new int[60];
        int size;

        /** The steps from a node over a word, in their order: end line, go line, node behind, cost. */
        List<int[]> steps(int i, int node) {
            List<int[]> steps = new ArrayList<>();
            int mark = marks[i];
            for (int e = -1; e < ends.size(); e++) {
                if (e < 0 ? mark >= 4 : i == 0 || node % 2 == 1 || ends.get(e)[0] != node / 2) {
                    continue;
                }
                if (e >= 0 && mark >= 0 && ends.get(e)[2] != mark) {
                    continue;
                }
                for (int g = 0; g < gos.size(); g++) {
                    int[] go = gos.get(g);
                    if (go[0] != (e < 0 ? node / 2 : 0) || (kinds[row[i]] >> go[1]) % 2 == 0) {
                        continue;
                    }
                    if ((mark >= 0 && mark < 4 && go[4] != mark) || go[4] == 2 + 1 - node % 2) {
                        continue;
                    }
                    int open = go[4] == 2 ? 1 : go[4] == 3 ? 0 : node % 2;
                    steps.add(new int[] {e, g, go[2] * 2 + open, go[3] + (e < 0 ? 0 : ends.get(e)[1])});
                }
            }
            return steps;
        }

        /** The two least costs from each node to the row's end, from what each last node costs there. */
        int[][][] costsBehind(int[][] last) {
            int[][][] costs = new int[size + 1][][];
            costs[size] = last;
            for (int i = size - 1; i >= 0; i--) {
                costs[i] = new int[20][];
                for (int node = 0; node < 20; node++) {
                    List<Integer> all = new ArrayList<>(List.of(FAR, FAR));
                    for (int[] step : steps(i, node)) {
                        all.add(step[3] + costs[i + 1][step[2]][0]);
                        all.add(step[3] + costs[i + 1][step[2]][1]);
                    }
                    all.sort(null);
                    costs[i][node] = new int[] {Math.min(FAR, all.get(0)), Math.min(FAR, all.get(1))};
                }
            }
            return costs;
        }

        int[][] costsOfLast() {
            int[][] last = new int[20][];
            for (int node = 0; node < 20; node++) {
                List<Integer> all = new ArrayList<>(List.of(FAR, FAR));
                for (int[] end : ends) {
                    if (end[0] * 2 == node) {
                        all.add(end[1]);
                    }
                }
                all.sort(null);
                last[node] = new int[] {all.get(0), all.get(1)};
            }
            return last;
        }

        int[][] firstWay(int[][][] costs) {
            int[][] way = new int[size][];
            int node = 0;
            for (int i = 0; i < size; i++) {
                for (int[] step : steps(i, node)) {
                    if (way[i] == null && step[3] + costs[i + 1][step[2]][0] == costs[i][node][0]) {
                        way[i] = step;
                    }
                }
                node = way[i][2];
            }
            return way;
        }

        boolean[] hopeful() {
            boolean[] hope = new boolean[20];
            for (int[] end : ends) {
                hope[end[0] * 2] = true;
            }
            for (boolean grew = true; grew;) {
                grew = false;
                for (int[] go : gos) {
                    for (int open = 0; open < 2; open++) {
                        int behind = go[2] * 2 + (go[4] == 2 ? 1 : go[4] == 3 ? 0 : open);
                        boolean may = go[4] != 3 - open;
                        if (may && hope[behind] && !hope[go[0] * 2 + open]) {
                            hope[go[0] * 2 + open] = true;
                            grew = true;
                        }
                    }
                }
            }
            return hope;
        }

        int settled() {
            boolean[] hope = hopeful();
            int[][] one = null;
            int same = 0;
            for (int target = 0; target < 20; target++) {
                int[][] last = new int[20][2];
                for (int node = 0; node < 20; node++) {
                    Arrays.fill(last[node], node == target ? 0 : FAR);
                }
                int[][][] costs = costsBehind(last);
                if (!hope[target] || costs[0][0][0] >= FAR) {
                    continue;
                }
                int[][] way = firstWay(costs);
                same = one == null ? size : same;
                one = one == null ? way : one;
                int i = 0;
                while (i < same && one[i][0] == way[i][0] && one[i][1] == way[i][1]) {
                    i++;
                }
                same = i;
            }
            return same;
        }
    }

    private static final String[] GO_MARKS = {"", "with comma", "with open", "with close"};
    private static final String[] END_MARKS = {"stop", "question", "colon"};

    private static void tellGrammar(StopSetter x, Model model, int run) {
        int states = 2 + pick(9);
        int costs = 1 + pick(5) * pick(5);
        int kinds = 1 + pick(4);
        StringBuilder text = new StringBuilder();
        for (int left = 20 + pick(21); left > 0; left--) {
            int[] go = {pick(states), pick(kinds), pick(states), pick(costs), Math.max(0, pick(7) - 3)};
            model.gos.add(go);
            text.append("go" + go[0] + "kind" + go[1] + "to" + go[2] + "cost" + go[3] + GO_MARKS[go[4]] + ";");
        }
        for (int left = 1 + pick(10); left > 0; left--) {
            int[] end = {pick(states), pick(costs), 4 + pick(3)};
            model.ends.add(end);
            text.append("end" + end[0] + "cost" + end[1] + "with " + END_MARKS[end[2] - 4] + ";");
        }
        Checks.feed(x, text);
        due(run, "grammar", x.grammar(), 0);
        for (int word = 1; word <= 9; word++) {
            model.kinds[word] = 1 + pick((1 << kinds) - 1);
            due(run, "kinds", x.kinds(word, model.kinds[word]) ? 1 : 0, 1);
        }
    }

    private static void compare(StopSetter x, Model model, int run) {
        int[][] last = model.costsOfLast();
        int[][][] costs = model.costsBehind(last);
        int least = costs[0][0][0];
        due(run, "cost", x.cost(), least < FAR ? least : -1);
        due(run, "second", x.second(), costs[0][0][1] < FAR ? costs[0][0][1] : -1);
        due(run, "settled", x.settled(), model.settled());
        if (least >= FAR) {
            due(run, "last", x.last(), -1);
            due(run, "sentences", x.sentences(), -1);
            return;
        }
        int[][] way = model.firstWay(costs);
        int sentences = 1;
        for (int i = 0; i < model.size; i++) {
            due(run, "look(" + i + ", 0)", x.look(i, 0), way[i][0]);
            due(run, "look(" + i + ", 1)", x.look(i, 1), way[i][1]);
            due(run, "look(" + i + ", 5)", x.look(i, 5), way[i][2] / 2);
            due(run, "look(" + i + ", 6)", x.look(i, 6), way[i][2] % 2);
            sentences += way[i][0] < 0 ? 0 : 1;
        }
        due(run, "sentences", x.sentences(), sentences);
        int node = way[model.size - 1][2];
        int end = 0;
        while (model.ends.get(end)[0] * 2 != node || model.ends.get(end)[1] != last[node][0]) {
            end++;
        }
        due(run, "last", x.last(), end);
    }

    private static int addWord(StopSetter x, Model model, int run) {
        int word = 1 + pick(9);
        model.row[model.size] = word;
        model.marks[model.size] = -1;
        model.size++;
        due(run, "word", x.word(word), model.size);
        return word;
    }

    /** The model's own words: steps that were settled are those of every later parting. */
    private static void settledStays(int run) {
        StopSetter x = new StopSetter();
        Model model = new Model();
        tellGrammar(x, model, run);
        int settled = 0;
        int[] steps = new int[60];
        int before = 0;
        while (model.size < 40) {
            addWord(x, model, run);
            settled = Math.max(settled, x.settled());
            if (x.cost() < 0) {
                continue;
            }
            for (int i = 0; i < settled; i++) {
                int step = x.look(i, 0) * 100 + x.look(i, 1);
                if (i < before) {
                    due(run, "settled step " + i + " behind word " + model.size, step, steps[i]);
                }
                steps[i] = step;
            }
            before = settled;
        }
    }

    public static void main(String[] args) {
        for (int run = 1; run <= 120; run++) {
            StopSetter x = new StopSetter();
            Model model = new Model();
            tellGrammar(x, model, run);
            int size = run % 3 == 0 ? 60 : 1 + pick(60);
            while (model.size < size) {
                addWord(x, model, run);
            }
            compare(x, model, run);
            for (int changes = 0; changes < 3; changes++) {
                int i = pick(size);
                int mark = pick(i == 0 ? 5 : 8) - 1;
                model.marks[i] = mark;
                due(run, "hand", x.hand(i, mark) ? 1 : 0, 1);
                compare(x, model, run);
            }
        }
        for (int run = 1001; run <= 1200; run++) {
            settledStays(run);
        }
        System.exit(Checks.exitCode());
    }
}
