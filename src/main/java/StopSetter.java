import java.util.Arrays;
import java.util.NoSuchElementException;

/**
 * Parts a row of words into sentences at the least cost that a told grammar has.
 * Words in capitals in the comments are the terms of the document.
 */
public final class StopSetter {
    public static final int NONE = -1;

    private static final int TOP_WORD = 99;
    private static final int TOP_SET = 255;
    private static final int ROW_LIMIT = 60;
    private static final int STATES = 10;
    private static final int TOP_KIND = 7;
    private static final int TOP_COST = 999;

    private static final int FREE = -1;
    private static final int PLAIN = 0;
    private static final int COMMA = 1;
    private static final int OPEN = 2;
    private static final int CLOSE = 3;
    private static final int STOP = 4;
    private static final int QUESTION = 5;
    private static final int COLON = 6;

    private final int[] kindsOf = new int[TOP_WORD + 1];
    private final boolean[] isName = new boolean[TOP_WORD + 1];
    private final int[] row = new int[ROW_LIMIT];
    private final int[] marks = new int[ROW_LIMIT];
    private int size;
    private final Tape tape = new Tape();
    private final Reader reader = new Reader(tape);
    private Grammar lines = new Grammar();
    private Grammar draft = new Grammar();
    private final Chart chart = new Chart();

    public StopSetter() {
        Arrays.fill(kindsOf, 1);
    }

    public boolean kinds(int word, int set) {
        if (!isWord(word) || set < 1 || set > TOP_SET) {
            return false;
        }
        kindsOf[word] = set;
        chart.keep(firstPlaceOf(word));
        return true;
    }

    public boolean name(int word, boolean yes) {
        if (!isWord(word)) {
            return false;
        }
        isName[word] = yes;
        return true;
    }

    public int word(int w) {
        if (!isWord(w) || size < 0 || size >= ROW_LIMIT) {
            return NONE;
        }
        row[size] = w;
        marks[size] = FREE;
        size++;
        return size;
    }

    public int drop() {
        if (size <= 0) {
            return NONE;
        }
        size--;
        chart.keep(size);
        return size;
    }

    public boolean hand(int i, int mark) {
        if (!hasPlace(i) || mark < FREE || mark > COLON || (i == 0 && mark >= STOP)) {
            return false;
        }
        marks[i] = mark;
        chart.keep(i);
        return true;
    }

    public int feed(long a, long b, long c) {
        tape.addBytes(a);
        tape.addBytes(b);
        tape.addBytes(c);
        return tape.length;
    }

    public int grammar() {
        int fault = reader.read(draft);
        tape.empty();
        if (fault == 0) {
            // The old lines' arrays serve the next reading, so that no call makes new ones.
            Grammar old = lines;
            lines = draft;
            draft = old;
            lines.findHopeful();
            chart.keep(0);
        }
        return fault;
    }

    public int cost() {
        solve();
        return chart.isParted() ? chart.leastCost : NONE;
    }

    public int second() {
        solve();
        return chart.isPartedTwice() ? chart.secondCost : NONE;
    }

    public int look(int i, int what) throws NoSuchElementException {
        solve();
        if (!hasPlace(i) || !chart.isParted()) {
            throw new NoSuchElementException();
        }
        int node = chart.nodeBehind(i);
        int end = chart.endInto(i + 1, node);
        int go = chart.goInto(i + 1, node);
        switch (what) {
            case 0:
                return end;
            case 1:
                return go;
            case 2:
                return lines.markOfEnd(end);
            case 3:
                return lines.markOfGo(go);
            case 4:
                return isRaised(i, lines.markOfEnd(end), lines.markOfGo(go)) ? 1 : 0;
            case 5:
                return stateOf(node);
            case 6:
                return quotesOf(node);
            default:
                return NONE;
        }
    }

    public int last() {
        solve();
        return chart.isParted() ? chart.lastEnd : NONE;
    }

    public int sentences() {
        solve();
        return chart.isParted() ? chart.endsInside() + 1 : NONE;
    }

    public int settled() {
        solve();
        return chart.sharedSteps(lines);
    }

    public int go(int line, int what) {
        if (!lines.hasGo(line)) {
            return NONE;
        }
        switch (what) {
            case 0:
                return lines.goFrom[line];
            case 1:
                return lines.goKind[line];
            case 2:
                return lines.goTo[line];
            case 3:
                return lines.goCost[line];
            case 4:
                return lines.goMark[line];
            default:
                return NONE;
        }
    }

    public int count(int what) {
        switch (what) {
            case 0:
                return size;
            case 1:
                return lines.goCount;
            case 2:
                return lines.endCount;
            case 3:
                return tape.length;
            case 4:
                return handMarks();
            default:
                return NONE;
        }
    }

    private static boolean isWord(int word) {
        return word >= 1 && word <= TOP_WORD;
    }

    private boolean hasPlace(int i) {
        return i >= 0 && i < size && i < ROW_LIMIT;
    }

    private int wordAt(int i) {
        return hasPlace(i) ? row[i] : 0;
    }

    /** The row's size if the word is not in it. */
    private int firstPlaceOf(int word) {
        for (int i = 0; i < size; i++) {
            if (wordAt(i) == word) {
                return i;
            }
        }
        return size;
    }

    private int handMarks() {
        int marked = 0;
        for (int i = 0; i < size && i < ROW_LIMIT; i++) {
            if (marks[i] != FREE) {
                marked++;
            }
        }
        return marked;
    }

    private boolean isRaised(int i, int endMark, int goMark) {
        int word = wordAt(i);
        boolean named = isWord(word) && isName[word];
        return named || i == 0 || endMark == STOP || endMark == QUESTION || goMark == OPEN;
    }

    /** Levels that still hold are kept, so that a word at the end costs one level alone. */
    private void solve() {
        for (int i = chart.ready; i < size && i < ROW_LIMIT; i++) {
            int word = wordAt(i);
            chart.extend(lines, isWord(word) ? kindsOf[word] : 0, marks[i]);
        }
        chart.finish(lines);
    }

    private static int nodeOf(int state, int quotes) {
        return state * 2 + quotes;
    }

    private static int stateOf(int node) {
        return node >> 1;
    }

    private static int quotesOf(int node) {
        return node & 1;
    }

    /** The TAPE. */
    private static final class Tape {
        private static final int LIMIT = 1600;
        private static final int BEYOND = -1;

        private final char[] signs = new char[LIMIT];
        private int length;

        void addBytes(long bytes) {
            for (int shift = 56; shift >= 0; shift -= 8) {
                addSign((int) (bytes >>> shift) & 255);
            }
        }

        private void addSign(int sign) {
            boolean known = sign == 10 || (sign >= 32 && sign <= 126);
            if (known && length >= 0 && length < LIMIT) {
                signs[length] = (char) sign;
                length++;
            }
        }

        int signAt(int place) {
            return place >= 0 && place < length && place < LIMIT ? signs[place] : BEYOND;
        }

        void empty() {
            length = 0;
        }
    }

    /** Reads the TAPE as a GRAMMAR; once there is a fault it stands still, so that the first one is told. */
    private static final class Reader {
        private static final int MISPLACED = 1;
        private static final int BAD_NUMBER = 4;
        private static final int TOO_MANY = 5;

        private static final int END = 0;
        private static final int BLANK = 1;
        private static final int LETTERS = 2;
        private static final int DIGITS = 3;
        private static final int SEMICOLON = 4;
        private static final int OTHER = 5;

        private static final int MOST_LETTERS = 8;
        private static final int MOST_DIGITS = 4;

        private final Tape tape;
        private int sort;
        private int place;
        private int behind;
        private int fault;

        Reader(Tape tape) {
            this.tape = tape;
        }

        int read(Grammar into) {
            into.empty();
            fault = 0;
            behind = 0;
            advance();
            // Every line takes a sign at least, so the tape's limit is above all lines.
            for (int line = 0; line < Tape.LIMIT && fault == 0 && sort != END; line++) {
                if (isText("go")) {
                    readGo(into);
                } else if (isText("end")) {
                    readEnd(into);
                } else {
                    refuse(MISPLACED);
                }
            }
            return fault;
        }

        private void readGo(Grammar into) {
            if (into.goCount >= Grammar.GO_LIMIT) {
                refuse(TOO_MANY);
                return;
            }
            advance();
            int from = readNumber(STATES - 1);
            passIf(isText("kind"));
            int kind = readNumber(TOP_KIND);
            passIf(isText("to"));
            int to = readNumber(STATES - 1);
            passIf(isText("cost"));
            int price = readNumber(TOP_COST);
            int mark = PLAIN;
            if (isText("with")) {
                passIf(true);
                mark = goMarkHere();
                passIf(mark != PLAIN);
            }
            passIf(sort == SEMICOLON);
            if (fault == 0) {
                into.addGo(from, kind, to, price, mark);
            }
        }

        private void readEnd(Grammar into) {
            if (into.endCount >= Grammar.END_LIMIT) {
                refuse(TOO_MANY);
                return;
            }
            advance();
            int from = readNumber(STATES - 1);
            passIf(isText("cost"));
            int price = readNumber(TOP_COST);
            passIf(isText("with"));
            int mark = endMarkHere();
            passIf(mark != PLAIN);
            passIf(sort == SEMICOLON);
            if (fault == 0) {
                into.addEnd(from, price, mark);
            }
        }

        /** PLAIN if the token is no MARK of a go line. */
        private int goMarkHere() {
            return isText("comma") ? COMMA : isText("open") ? OPEN : isText("close") ? CLOSE : PLAIN;
        }

        /** PLAIN if the token is no MARK of an end line. */
        private int endMarkHere() {
            return isText("stop") ? STOP : isText("question") ? QUESTION : isText("colon") ? COLON : PLAIN;
        }

        private int readNumber(int top) {
            int value = sort == DIGITS ? numberHere() : 0;
            if (sort != DIGITS) {
                refuse(MISPLACED);
            } else if (value > top) {
                refuse(BAD_NUMBER);
            } else if (fault == 0) {
                advance();
            }
            return value;
        }

        private void passIf(boolean fits) {
            if (!fits) {
                refuse(MISPLACED);
            } else if (fault == 0) {
                advance();
            }
        }

        private void refuse(int kind) {
            if (fault == 0) {
                fault = kind + 16 * place;
            }
        }

        private void advance() {
            place = runEnd(behind, BLANK);
            sort = sortOf(tape.signAt(place));
            if (sort == LETTERS || sort == DIGITS) {
                behind = runEnd(place, sort);
                int most = sort == LETTERS ? MOST_LETTERS : MOST_DIGITS;
                if (behind - place > most) {
                    sort = OTHER;
                }
            } else {
                behind = sort == END ? place : place + 1;
            }
        }

        private int runEnd(int start, int wanted) {
            for (int i = start; i < tape.length; i++) {
                if (sortOf(tape.signAt(i)) != wanted) {
                    return i;
                }
            }
            return tape.length;
        }

        private boolean isText(String text) {
            if (sort != LETTERS || behind - place != text.length()) {
                return false;
            }
            for (int k = 0; k < text.length(); k++) {
                if (tape.signAt(place + k) != text.charAt(k)) {
                    return false;
                }
            }
            return true;
        }

        private int numberHere() {
            int value = 0;
            for (int i = place; i < behind; i++) {
                value = value * 10 + tape.signAt(i) - '0';
            }
            return value;
        }

        private static int sortOf(int sign) {
            if (sign == Tape.BEYOND) {
                return END;
            }
            if (sign == 10 || sign == 32) {
                return BLANK;
            }
            if (sign >= 'a' && sign <= 'z') {
                return LETTERS;
            }
            if (sign >= '0' && sign <= '9') {
                return DIGITS;
            }
            return sign == ';' ? SEMICOLON : OTHER;
        }
    }

    /** The go and end lines. */
    private static final class Grammar {
        private static final int GO_LIMIT = 40;
        private static final int END_LIMIT = 10;

        private final int[] goFrom = new int[GO_LIMIT];
        private final int[] goKind = new int[GO_LIMIT];
        private final int[] goTo = new int[GO_LIMIT];
        private final int[] goCost = new int[GO_LIMIT];
        private final int[] goMark = new int[GO_LIMIT];
        private int goCount;
        private final int[] endFrom = new int[END_LIMIT];
        private final int[] endCost = new int[END_LIMIT];
        private final int[] endMark = new int[END_LIMIT];
        private int endCount;
        private final boolean[] hopeful = new boolean[Chart.NODES];

        void empty() {
            goCount = 0;
            endCount = 0;
        }

        void addGo(int from, int kind, int to, int price, int mark) {
            if (goCount < 0 || goCount >= GO_LIMIT) {
                return;
            }
            goFrom[goCount] = from;
            goKind[goCount] = kind;
            goTo[goCount] = to;
            goCost[goCount] = price;
            goMark[goCount] = mark;
            goCount++;
        }

        void addEnd(int from, int price, int mark) {
            if (endCount < 0 || endCount >= END_LIMIT) {
                return;
            }
            endFrom[endCount] = from;
            endCost[endCount] = price;
            endMark[endCount] = mark;
            endCount++;
        }

        boolean hasGo(int line) {
            return line >= 0 && line < goCount && line < GO_LIMIT;
        }

        boolean hasEnd(int line) {
            return line >= 0 && line < endCount && line < END_LIMIT;
        }

        int markOfGo(int line) {
            return hasGo(line) ? goMark[line] : PLAIN;
        }

        int markOfEnd(int line) {
            return hasEnd(line) ? endMark[line] : PLAIN;
        }

        int costOfEnd(int line) {
            return hasEnd(line) ? endCost[line] : 0;
        }

        boolean canEnd(int line, int state, int mark) {
            return hasEnd(line) && endFrom[line] == state && (mark == FREE || endMark[line] == mark);
        }

        boolean canGo(int line, int state, int set, int mark) {
            return hasGo(line) && goFrom[line] == state && ((set >> goKind[line]) & 1) == 1
                && (mark == FREE || goMark[line] == mark);
        }

        /** The node that a go line leads to with such quotes ahead of it, NONE if they forbid the line. */
        int nodeBehind(int line, int quotes) {
            if (!hasGo(line)) {
                return NONE;
            }
            if (goMark[line] == OPEN) {
                return quotes == 0 ? nodeOf(goTo[line], 1) : NONE;
            }
            if (goMark[line] == CLOSE) {
                return quotes == 1 ? nodeOf(goTo[line], 0) : NONE;
            }
            return nodeOf(goTo[line], quotes);
        }

        boolean isHopeful(int node) {
            return node >= 0 && node < Chart.NODES && hopeful[node];
        }

        /** Hopeful are the nodes from which an end line can be reached at all. */
        void findHopeful() {
            for (int node = 0; node < Chart.NODES; node++) {
                hopeful[node] = false;
            }
            for (int line = 0; line < endCount; line++) {
                setHopeful(hasEnd(line) ? nodeOf(endFrom[line], 0) : NONE);
            }
            // A way without a node twice has fewer steps than there are nodes.
            for (int round = 0; round < Chart.NODES; round++) {
                for (int line = 0; line < goCount; line++) {
                    passHopeBack(line, 0);
                    passHopeBack(line, 1);
                }
            }
        }

        private void passHopeBack(int line, int quotes) {
            if (hasGo(line) && isHopeful(nodeBehind(line, quotes))) {
                setHopeful(nodeOf(goFrom[line], quotes));
            }
        }

        private void setHopeful(int node) {
            if (node >= 0 && node < Chart.NODES) {
                hopeful[node] = true;
            }
        }
    }

    /**
     * The cheapest ways to every node (a state, quotes open or not) behind every WORD. Each level of
     * nodes is ranked by the order of the ways to them, so that ties are told without walking back.
     */
    private static final class Chart {
        private static final int NODES = STATES * 2;
        private static final int CELLS = (ROW_LIMIT + 1) * NODES;
        private static final int FAR = 1000000000;

        private final int[] best = new int[CELLS];
        private final int[] next = new int[CELLS];
        private final int[] rank = new int[CELLS];
        private final int[] nodeAhead = new int[CELLS];
        private final int[] endUsed = new int[CELLS];
        private final int[] goUsed = new int[CELLS];
        private final int[] order = new int[NODES];
        private int ready;
        private int leastCost = FAR;
        private int secondCost = FAR;
        private int lastNode;
        private int lastEnd;

        Chart() {
            Arrays.fill(best, FAR);
            Arrays.fill(next, FAR);
            best[0] = 0;
        }

        /** So many WORDS' levels still hold; those behind them are made anew when they are asked for. */
        void keep(int words) {
            if (words >= 0 && words < ready) {
                ready = words;
            }
        }

        boolean isParted() {
            return leastCost < FAR;
        }

        boolean isPartedTwice() {
            return secondCost < FAR;
        }

        /** A cell that is none is the first one, so that no index is ever outside. */
        private static int cell(int level, int node) {
            boolean there = level >= 0 && level <= ROW_LIMIT && node >= 0 && node < NODES;
            return there ? level * NODES + node : 0;
        }

        void extend(Grammar lines, int set, int mark) {
            if (ready < 0 || ready >= ROW_LIMIT) {
                return;
            }
            for (int node = 0; node < NODES; node++) {
                best[cell(ready + 1, node)] = FAR;
                next[cell(ready + 1, node)] = FAR;
            }
            for (int node = 0; node < NODES; node++) {
                if (isReached(node)) {
                    stepFrom(node, lines, set, mark);
                }
            }
            ready++;
            rankLevel();
        }

        private void stepFrom(int node, Grammar lines, int set, int mark) {
            if (mark < STOP) {
                goFrom(node, NONE, lines, set, mark);
            }
            boolean mayEnd = mark == FREE || mark >= STOP;
            if (ready == 0 || quotesOf(node) == 1 || !mayEnd) {
                return;
            }
            for (int end = 0; end < lines.endCount; end++) {
                if (lines.canEnd(end, stateOf(node), mark)) {
                    goFrom(node, end, lines, set, FREE);
                }
            }
        }

        private void goFrom(int node, int end, Grammar lines, int set, int mark) {
            int state = end == NONE ? stateOf(node) : 0;
            for (int line = 0; line < lines.goCount; line++) {
                if (lines.canGo(line, state, set, mark)) {
                    int target = lines.nodeBehind(line, quotesOf(node));
                    int price = lines.costOfEnd(end) + lines.goCost[line];
                    offer(node, end, line, target, price);
                }
            }
        }

        private void offer(int node, int end, int line, int target, int price) {
            if (target < 0 || target >= NODES) {
                return;
            }
            int from = cell(ready, node);
            int to = cell(ready + 1, target);
            int way = best[from] + price;
            int place = (rank[from] * (Grammar.END_LIMIT + 1) + end + 1) * Grammar.GO_LIMIT + line;
            if (way < best[to] || (way == best[to] && place < order[target])) {
                next[to] = best[to];
                best[to] = way;
                order[target] = place;
                nodeAhead[to] = node;
                endUsed[to] = end;
                goUsed[to] = line;
            } else {
                next[to] = Math.min(next[to], way);
            }
            if (next[from] < FAR) {
                next[to] = Math.min(next[to], next[from] + price);
            }
        }

        private void rankLevel() {
            for (int node = 0; node < NODES; node++) {
                if (isReached(node)) {
                    rank[cell(ready, node)] = waysAheadOf(node);
                }
            }
        }

        private int waysAheadOf(int node) {
            int ahead = 0;
            if (node < 0 || node >= NODES) {
                return ahead;
            }
            for (int other = 0; other < NODES; other++) {
                if (isReached(other) && order[other] < order[node]) {
                    ahead++;
                }
            }
            return ahead;
        }

        private boolean isReached(int node) {
            return best[cell(ready, node)] < FAR;
        }

        /** THE PARTING's last end line, and the two least COSTS; a ROW without WORDS has no PARTING. */
        void finish(Grammar lines) {
            leastCost = FAR;
            secondCost = FAR;
            lastNode = 0;
            lastEnd = NONE;
            if (ready <= 0) {
                return;
            }
            for (int state = 0; state < STATES; state++) {
                int node = nodeOf(state, 0);
                for (int end = 0; end < lines.endCount; end++) {
                    if (isReached(node) && lines.canEnd(end, state, FREE)) {
                        offerLast(node, end, lines.costOfEnd(end));
                    }
                }
            }
        }

        /** End lines come in their order here, so only the ranks of two nodes tell a tie. */
        private void offerLast(int node, int end, int price) {
            int from = cell(ready, node);
            int way = best[from] + price;
            boolean ahead = way == leastCost && rank[from] < rank[cell(ready, lastNode)];
            if (way < leastCost || ahead) {
                secondCost = leastCost;
                leastCost = way;
                lastNode = node;
                lastEnd = end;
            } else {
                secondCost = Math.min(secondCost, way);
            }
            if (next[from] < FAR) {
                secondCost = Math.min(secondCost, next[from] + price);
            }
        }

        int endInto(int level, int node) {
            return endUsed[cell(level, node)];
        }

        int goInto(int level, int node) {
            return goUsed[cell(level, node)];
        }

        /** The node of THE PARTING behind a WORD. */
        int nodeBehind(int word) {
            int node = lastNode;
            for (int level = ready; level > word + 1; level--) {
                node = nodeAhead[cell(level, node)];
            }
            return node;
        }

        int endsInside() {
            int ends = 0;
            int node = lastNode;
            for (int level = ready; level > 0; level--) {
                if (endInto(level, node) != NONE) {
                    ends++;
                }
                node = nodeAhead[cell(level, node)];
            }
            return ends;
        }

        /** How many first STEPS the first cheapest ways to all hopeful nodes share. */
        int sharedSteps(Grammar lines) {
            int first = NONE;
            int shared = 0;
            for (int node = 0; node < NODES; node++) {
                if (isReached(node) && lines.isHopeful(node)) {
                    shared = first == NONE ? ready : Math.min(shared, meetingLevel(first, node));
                    first = first == NONE ? node : first;
                }
            }
            return shared;
        }

        /** Each node has one way to it, so two ways are the same up to where they meet. */
        private int meetingLevel(int one, int other) {
            int a = one;
            int b = other;
            for (int level = ready; level > 0; level--) {
                if (a == b) {
                    return level;
                }
                a = nodeAhead[cell(level, a)];
                b = nodeAhead[cell(level, b)];
            }
            return 0;
        }
    }
}
