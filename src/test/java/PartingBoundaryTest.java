/**
 * The boundary cases that the document's section "Terms" names of the STEPS, the MARKS set by hand, the
 * COST, SECOND, RAISED and SETTLED; each method has the sentence that it is of above it. In the rows
 * here WORD k + 1 is of kind k alone, where the kinds are set.
 */
public final class PartingBoundaryTest {
    private static StopSetter toldByKinds(String text, int... words) {
        StopSetter x = Checks.told(text);
        for (int kind = 0; kind <= 7; kind++) {
            x.kinds(kind + 1, 1 << kind);
        }
        return Checks.words(x, words);
    }

    private static void dueCost(String text, int cost, int... words) {
        Checks.due("cost by " + text + " of " + words.length + " words", toldByKinds(text, words).cost(), cost);
    }

    // STEPS

    /** "one STEP for each WORD, and one end line behind the last" */
    private static void oneStepForEachWord() {
        StopSetter x = Checks.told("go 0 kind 0 to 0 cost 999; end 0 cost 998 with stop;");
        for (int words = 1; words <= 60; words++) {
            x.word(1);
            Checks.due("cost of " + words, x.cost(), 999 * words + 998);
        }
    }

    /** The greatest COST there can be: the dearest end line and go line for each WORD. */
    private static void theGreatestCost() {
        StopSetter x = Checks.told("go 0 kind 0 to 1 cost 999; end 1 cost 999 with stop;");
        for (int words = 1; words <= 60; words++) {
            x.word(1);
            Checks.due("cost of " + words + " sentences", x.cost(), 1998 * words);
            Checks.due("sentences of " + words, x.sentences(), words);
        }
        Checks.due("no second", x.second(), -1);
        StopSetter y = Checks.told("go 0 kind 0 to 1 cost 999; end 1 cost 999 with stop; end 1 cost 999 with stop;");
        for (int words = 1; words <= 60; words++) {
            y.word(1);
            Checks.due("second of " + words + " sentences", y.second(), 1998 * words);
        }
        StopSetter free = Checks.told("go 0 kind 0 to 0 cost 0; end 0 cost 0 with stop;");
        Checks.words(free, 1, 1);
        Checks.due("the least cost there can be", free.cost(), 0);
        Checks.due("the least second there can be", free.second(), 0);
    }

    /** "It goes by a state (0 ahead of the first WORD)" */
    private static void state0AheadOfTheFirstWord() {
        for (int state = 0; state <= 9; state++) {
            String text = "go " + state + " kind 0 to " + state + " cost 1; end " + state + " cost 0 with stop;";
            dueCost(text, state == 0 ? 1 : -1, 1);
            dueCost(text, state == 0 ? 2 : -1, 1, 1);
        }
    }

    /** "quotes open or not (not, at first)" */
    private static void quotesNotOpenAtFirst() {
        String text = "go 0 kind 0 to 0 cost 1 with open; go 0 kind 1 to 0 cost 1 with close; go 0 kind 2 to 0 cost 1;"
            + "go 0 kind 3 to 0 cost 1 with comma; end 0 cost 0 with stop;";
        dueCost(text, -1, 2);
        dueCost(text, -1, 2, 1);
        dueCost(text, 1, 3);
        dueCost(text, 1, 4);
        dueCost(text, 2, 1, 2);
    }

    /** "perhaps, but not for the first WORD, an end line" */
    private static void noEndLineForTheFirstWord() {
        StopSetter x = toldByKinds("go 0 kind 0 to 0 cost 0; end 0 cost 7 with stop;", 1);
        Checks.due("one parting of one word", x.second(), -1);
        Checks.due("no end line for the first", Checks.look(x, 0, 0), -1);
        Checks.words(x, 1);
        Checks.due("an end line for the second, perhaps", x.second(), 14);
        Checks.due("a stop by hand for the second", x.hand(1, 4), true);
        Checks.due("its cost", x.cost(), 14);
        // A second end line in one STEP would come to 21.
        Checks.due("one end line in a step at most", x.second(), -1);
    }

    /** "an end line of the state as it is" */
    private static void anEndLineOfTheState() {
        for (int state = 0; state <= 9; state++) {
            String go = "go 0 kind 0 to 4 cost 1; go 0 kind 1 to 4 cost 1;";
            dueCost(go + "end " + state + " cost 3 with stop;", state == 4 ? 4 : -1, 1);
            dueCost(go + "end " + state + " cost 3 with stop;", state == 4 ? 8 : -1, 1, 2);
        }
    }

    /** "(with quotes open there is none)" */
    private static void noEndLineWithQuotesOpen() {
        String text = "go 0 kind 0 to 0 cost 1 with open; go 0 kind 1 to 0 cost 1 with close; go 0 kind 2 to 0 cost 1; end 0 cost 5 with stop;";
        int[] costs = {10, 15, -1, -1, 15};
        for (int stop = 1; stop <= 4; stop++) {
            StopSetter x = toldByKinds(text, 3, 1, 3, 2, 3);
            Checks.due("cost without a stop", x.cost(), costs[0]);
            x.hand(stop, 4);
            Checks.due("cost with a stop ahead of word " + stop, x.cost(), costs[stop]);
        }
    }

    /** "the state is 0 then; and a go line of the state as it is then" */
    private static void theStateIs0BehindAnEndLine() {
        String text = "go 0 kind 0 to 1 cost 1; go 1 kind 1 to 1 cost 1; end 1 cost 3 with stop;";
        dueCost(text, 5, 1, 2);
        dueCost(text, 8, 1, 1);
        StopSetter x = toldByKinds(text, 1, 2);
        x.hand(1, 4);
        Checks.due("no line of state 0 for the word", x.cost(), -1);
        StopSetter y = toldByKinds("go 0 kind 0 to 9 cost 1; go 9 kind 0 to 9 cost 10; end 9 cost 3 with stop;", 1, 1);
        Checks.due("the line of state 0 behind an end line", Checks.parting(y), "-/0 0/0 0");
        y.hand(1, 0);
        Checks.due("the line of state 9 without", Checks.parting(y), "-/0 -/1 0");
    }

    /** "whose kind is one of the WORD's: its state comes to be" */
    private static void itsStateComesToBe() {
        StringBuilder text = new StringBuilder();
        int[] words = new int[19];
        for (int state = 0; state <= 8; state++) {
            text.append("go" + state + "kind0to" + (state + 1) + "cost1;go" + (state + 1) + "kind1to" + state + "cost1;");
        }
        for (int i = 0; i < words.length; i++) {
            words[i] = i < 9 ? 1 : 2;
        }
        words[18] = 1;
        StopSetter x = toldByKinds(text + "end 1 cost 0 with stop;", words);
        Checks.due("states up and down", Checks.looks(x, 5), "1 2 3 4 5 6 7 8 9 8 7 6 5 4 3 2 1 0 1");
    }

    /** "open: only if quotes are not open; they are then. close: only if they are; they are not then." */
    private static void openAndClose() {
        String text = "go 0 kind 0 to 0 cost 1 with open; go 0 kind 1 to 0 cost 1 with close; go 0 kind 2 to 0 cost 1;"
            + "go 0 kind 3 to 0 cost 1 with comma; end 0 cost 0 with stop;";
        dueCost(text, -1, 1, 1);
        dueCost(text, -1, 1, 1, 2);
        dueCost(text, -1, 1, 1, 2, 2);
        dueCost(text, -1, 1, 2, 2);
        dueCost(text, -1, 3, 2);
        dueCost(text, 2, 1, 2);
        dueCost(text, 4, 1, 2, 1, 2);
        dueCost(text, -1, 1, 2, 1);
        StopSetter x = toldByKinds(text, 3, 1, 3, 4, 2, 4, 3, 1, 2);
        Checks.due("quotes stay as they are till a line changes them", Checks.looks(x, 6), "0 1 1 1 0 0 0 1 0");
    }

    /** "Behind the last WORD an end line of the state, quotes not open" */
    private static void theLastEndLine() {
        String text = "go 0 kind 0 to 1 cost 1 with open; go 1 kind 1 to 2 cost 1 with close; go 1 kind 2 to 1 cost 1; go 2 kind 2 to 1 cost 1;"
            + "end 1 cost 10 with stop; end 2 cost 20 with stop;";
        dueCost(text, -1, 1);
        dueCost(text, -1, 1, 3);
        dueCost(text, 22, 1, 2);
        dueCost(text, 13, 1, 2, 3);
        dueCost("go 0 kind 0 to 0 cost 1;", -1, 1);
        dueCost("go 0 kind 0 to 1 cost 1; end 0 cost 1 with stop;", -1, 1);
        dueCost("end 0 cost 1 with stop;", -1);
        dueCost("end 0 cost 1 with stop;", -1, 1);
    }

    // MARKS set by hand

    private static final String ALL_MARKS = "go 0 kind 0 to 0 cost 1; go 0 kind 0 to 0 cost 2 with comma; go 0 kind 0 to 0 cost 4 with open;"
        + "go 0 kind 0 to 0 cost 8 with close; end 0 cost 100 with stop; end 0 cost 200 with question; end 0 cost 400 with colon;";

    /** "0: its STEP has no end line, its go line no "with"; 1 comma, 2 open, 3 close: no end line, just that; 4 stop, 5 question, 6 colon" */
    private static void marksByHand() {
        int[] outside = {103, 103, 104, 113, -1, 203, 303, 503};
        int[] inside = {113, 113, 114, -1, 113, -1, -1, -1};
        for (int mark = -1; mark <= 6; mark++) {
            StopSetter x = Checks.words(Checks.told(ALL_MARKS), 1, 1, 1);
            x.hand(0, 0);
            Checks.due("hand(1, " + mark + ")", x.hand(1, mark), true);
            Checks.due("cost with mark " + mark, x.cost(), outside[mark + 1]);
            if (mark >= 0 && mark != 3) {
                Checks.due("end line's mark by " + mark, Checks.look(x, 1, 2), mark >= 4 ? mark : 0);
                Checks.due("go line's mark by " + mark, Checks.look(x, 1, 3), mark >= 4 ? 0 : mark);
            }
            StopSetter y = Checks.words(Checks.told(ALL_MARKS), 1, 1, 1);
            y.hand(0, 2);
            y.hand(1, mark);
            Checks.due("cost within quotes with mark " + mark, y.cost(), inside[mark + 1]);
        }
    }

    /** "(free at first)" */
    private static void freeAtFirst() {
        StopSetter x = Checks.words(Checks.told("go 0 kind 0 to 0 cost 2; go 0 kind 0 to 0 cost 3 with comma; end 0 cost 5 with stop;"), 1);
        Checks.due("free: either line", x.second(), 8);
        Checks.due("no marks", x.count(4), 0);
        x.hand(0, 0);
        Checks.due("0: the one", x.cost() * 100 + x.second(), 700 - 1);
        x.hand(0, 1);
        Checks.due("1: the other", x.cost() * 100 + x.second(), 800 - 1);
        x.hand(0, -1);
        Checks.due("free again", x.cost() * 100 + x.second(), 708);
        Checks.words(x, 1);
        Checks.due("the next is free", x.cost() * 100 + x.second(), 910);
        x.hand(1, 0);
        Checks.due("a mark of one word is not another's", x.cost() * 100 + x.second(), 910);
        x.hand(0, 0);
        Checks.due("0 for both has no end line either", x.second(), -1);
    }

    /** "4 stop, 5 question, 6 colon: an end line with that (whatever its go line has)" */
    private static void whateverItsGoLineHas() {
        String text = "go 0 kind 0 to 0 cost 1; go 0 kind 1 to 0 cost 2 with comma; go 0 kind 2 to 0 cost 4 with open;"
            + "go 0 kind 3 to 0 cost 8 with close; end 0 cost 100 with stop; end 0 cost 200 with question; end 0 cost 400 with colon;";
        for (int mark = 4; mark <= 6; mark++) {
            int end = 100 << mark - 4;
            int[] costs = {1 + 1 + 8, 1 + 2 + 8, 1 + 4 + 8, 1 + 8 + 8};
            for (int kind = 0; kind <= 3; kind++) {
                boolean closed = kind == 2;
                StopSetter x = closed ? toldByKinds(text, 1, kind + 1, 4) : toldByKinds(text, 1, kind + 1, 1);
                x.hand(1, mark);
                int price = costs[kind] + (closed ? 0 : 1 - 8) + end + 100;
                Checks.due("mark " + mark + " with a line of kind " + kind, x.cost(), kind == 3 ? -1 : price);
            }
        }
        // The mark is the end line's: an end line with another one does not do.
        for (int mark = 4; mark <= 6; mark++) {
            StopSetter x = Checks.words(Checks.told("go 0 kind 0 to 0 cost 1; end 0 cost 0 with question;"), 1, 1);
            x.hand(1, mark);
            Checks.due("mark " + mark + " where questions are all", x.cost(), mark == 5 ? 2 : -1);
        }
    }

    /** The end line behind the last WORD is no STEP's, so no mark by hand binds it. */
    private static void marksDoNotBindTheLastEndLine() {
        StopSetter x = Checks.words(Checks.told(ALL_MARKS), 1, 1);
        x.hand(1, 5);
        Checks.due("a question, then the cheaper stop", Checks.parting(x), "-/0 1/0 0");
        x.hand(1, 0);
        Checks.due("no end line, then a stop", Checks.parting(x), "-/0 -/0 0");
    }

    // COST and the order of PARTINGS

    /** "COST: the sum of all lines' costs" */
    private static void costIsTheSumOfAllLines() {
        StopSetter x = toldByKinds("go 0 kind 0 to 1 cost 1; go 1 kind 1 to 2 cost 2 with comma; go 0 kind 2 to 3 cost 4 with open; go 3 kind 3 to 4 cost 8 with close;"
            + "end 2 cost 16 with question; end 4 cost 32 with colon;", 1, 2, 3, 4);
        Checks.due("each line once", x.cost(), 63);
        Checks.due("the parting", Checks.parting(x), "-/0 -/1 0/2 -/3 1");
    }

    /** "a STEP without an end line ahead of one with" */
    private static void withoutAnEndLineFirst() {
        StopSetter x = Checks.words(Checks.told("go 0 kind 0 to 0 cost 1; end 0 cost 0 with stop;"), 1, 1, 1);
        Checks.due("end lines for nothing are not taken", Checks.parting(x), "-/0 -/0 -/0 0");
        Checks.tell(x, "go 0 kind 0 to 1 cost 1; go 1 kind 0 to 1 cost 1; end 1 cost 0 with stop;");
        Checks.due("even where the go line is greater", Checks.parting(x), "-/0 -/1 -/1 0");
        Checks.tell(x, "go 0 kind 0 to 1 cost 1; go 1 kind 0 to 1 cost 2; end 1 cost 1 with stop;");
        Checks.due("and where both cost the same", Checks.parting(x), "-/0 -/1 -/1 0");
        Checks.tell(x, "go 0 kind 0 to 1 cost 1; go 1 kind 0 to 1 cost 3; end 1 cost 1 with stop;");
        Checks.due("but not where it costs more", Checks.parting(x), "-/0 0/0 0/0 0");
    }

    /** "lesser end lines ahead of greater ones" */
    private static void lesserEndLinesFirst() {
        StopSetter x = Checks.words(Checks.told("end 0 cost 0 with stop; end 1 cost 4 with colon; end 1 cost 4 with stop; end 1 cost 4 with question; go 0 kind 0 to 1 cost 0;"), 1, 1, 1);
        Checks.due("the lesser of three", Checks.parting(x), "-/0 1/0 1/0 1");
        x.hand(1, 5);
        Checks.due("by hand the greater", Checks.parting(x), "-/0 3/0 1/0 1");
        Checks.tell(x, "end 1 cost 4 with colon; end 1 cost 3 with stop; end 1 cost 3 with question; go 0 kind 0 to 1 cost 0;");
        x.hand(1, -1);
        Checks.due("the cheaper ahead of the lesser", Checks.parting(x), "-/0 1/0 1/0 1");
    }

    /** "then lesser go lines" */
    private static void lesserGoLinesFirst() {
        StopSetter x = Checks.words(Checks.told("go 0 kind 1 to 0 cost 0; go 0 kind 0 to 0 cost 2 with comma; go 0 kind 0 to 0 cost 2; end 0 cost 0 with stop;"), 1, 1);
        Checks.due("the lesser of two", Checks.parting(x), "-/1 -/1 0");
        x.hand(0, 0);
        Checks.due("by hand the greater", Checks.parting(x), "-/2 -/1 0");
        Checks.tell(x, "go 0 kind 0 to 0 cost 2; go 0 kind 0 to 0 cost 1; go 0 kind 0 to 0 cost 1; end 0 cost 0 with stop;");
        x.hand(0, -1);
        Checks.due("the cheaper ahead of the lesser", Checks.parting(x), "-/1 -/1 0");
        StringBuilder text = new StringBuilder();
        for (int line = 0; line < 40; line++) {
            text.append("go0kind0to" + (line == 38 || line == 39 ? 0 : 1) + "cost0;");
        }
        Checks.tell(x, text + "end 0 cost 0 with stop;");
        Checks.due("the lesser of the last two", Checks.parting(x), "-/38 -/38 0");
    }

    /** "of equal ones the first by its STEPS in order" */
    private static void stepsInOrder() {
        StopSetter x = toldByKinds("go 0 kind 0 to 1 cost 1; go 0 kind 0 to 2 cost 1; go 2 kind 1 to 3 cost 1; go 1 kind 1 to 3 cost 1; end 3 cost 0 with stop;", 1, 2);
        Checks.due("the first step tells, not the second", Checks.parting(x), "-/0 -/3 0");
        // One end line is needed, ahead of the second WORD or of the third.
        StopSetter y = toldByKinds("go 0 kind 1 to 3 cost 1; go 0 kind 2 to 4 cost 1; go 3 kind 2 to 4 cost 1; go 0 kind 0 to 1 cost 1; go 1 kind 1 to 2 cost 1;"
            + "end 1 cost 1 with stop; end 2 cost 1 with stop; end 4 cost 1 with stop;", 1, 2, 3);
        Checks.due("the later end line is ahead", Checks.parting(y), "-/3 -/4 1/1 2");
        Checks.due("the other costs the same", y.second(), y.cost());
        // Two ways that part at the first WORD and meet again 58 WORDS later.
        StopSetter z = toldByKinds("go 0 kind 0 to 1 cost 5; go 0 kind 0 to 2 cost 5; go 2 kind 1 to 2 cost 0; go 1 kind 1 to 1 cost 0;"
            + "go 2 kind 2 to 3 cost 5; go 1 kind 2 to 3 cost 5; end 3 cost 0 with stop;", 1);
        for (int i = 1; i <= 58; i++) {
            z.word(2);
        }
        z.word(3);
        Checks.due("the first of 60 steps tells", Checks.look(z, 0, 1) * 100 + Checks.look(z, 59, 1), 5);
        Checks.due("and the other costs the same", z.second(), 10);
    }

    private static String quoted(int quotes, String mark) {
        return quotes == 1 ? " with " + mark + ";" : ";";
    }

    /** The first STEP tells whatever two states, with quotes open or not, the two ways go through. */
    private static void stepsInOrderByAllStates() {
        for (int pair = 0; pair < 400; pair++) {
            int one = pair / 20;
            int other = pair % 20;
            if (one == other) {
                continue;
            }
            String text = "go 0 kind 0 to " + one / 2 + " cost 1" + quoted(one % 2, "open")
                + "go 0 kind 0 to " + other / 2 + " cost 1" + quoted(other % 2, "open")
                + "go " + other / 2 + " kind 1 to 9 cost 1" + quoted(other % 2, "close")
                + "go " + one / 2 + " kind 1 to 9 cost 1" + quoted(one % 2, "close") + "end 9 cost 5 with stop;";
            StopSetter x = toldByKinds(text, 1, 2);
            Checks.due("the parting by " + text, Checks.parting(x), "-/0 -/3 0");
            Checks.due("the other's cost by " + text, x.second(), 7);
        }
    }

    /** The order holds between the greatest lines of one STEP and the least of another. */
    private static void stepsInOrderByTheGreatestLines() {
        String dummies = "go8kind0to8cost0;";
        // Ahead of the second WORD: the way by state 1 has end line 9 and go line 39, that by state 2 neither.
        String text = "go2kind1to3cost2;go0kind0to1cost1;go0kind0to2cost1;" + dummies.repeat(36) + "go0kind1to3cost1;"
            + "end3cost0with stop;" + "end8cost0with stop;".repeat(8) + "end1cost1with stop;";
        StopSetter x = toldByKinds(text, 1, 2);
        Checks.due("the first step's go line 1 tells", Checks.parting(x), "-/1 9/39 0");
        Checks.due("the other costs the same", x.second(), 3);
        // In one STEP: no end line and go line 39, or end line 0 and go line 0.
        text = "go0kind1to3cost0;go0kind0to1cost1;" + dummies.repeat(37) + "go1kind1to3cost1;end1cost1with stop;end3cost0with stop;";
        StopSetter y = toldByKinds(text, 1, 2);
        Checks.due("no end line tells", Checks.parting(y), "-/1 -/39 1");
        Checks.due("the other costs the same, too", y.second(), 2);
    }

    /** "at last the lesser end line behind the last WORD" */
    private static void atLastTheLesserEndLine() {
        StopSetter x = Checks.words(Checks.told("go 0 kind 0 to 0 cost 0; end 1 cost 0 with stop; end 0 cost 5 with colon; end 0 cost 5 with stop;"), 1);
        Checks.due("the lesser of two", x.last(), 1);
        StopSetter y = Checks.words(Checks.told("go 0 kind 0 to 1 cost 0; go 0 kind 0 to 2 cost 0; end 2 cost 5 with stop; end 1 cost 5 with stop;"), 1);
        Checks.due("the steps tell ahead of it", Checks.parting(y), "-/0 1");
        StopSetter z = Checks.words(Checks.told("go 0 kind 0 to 2 cost 0; go 0 kind 0 to 1 cost 0; end 1 cost 5 with stop; end 2 cost 5 with stop;"), 1);
        Checks.due("whatever the states are", Checks.parting(z), "-/0 1");
        StopSetter tenth = Checks.words(Checks.told("go 0 kind 0 to 0 cost 0;" + "end1cost0with stop;".repeat(8) + "end0cost0with stop;".repeat(2)), 1);
        Checks.due("the lesser of the last two", tenth.last(), 8);
    }

    // SECOND

    /** "SECOND: the least COST of all PARTINGS but that one" */
    private static void secondOfAllBut() {
        StopSetter x = toldByKinds("go 0 kind 0 to 1 cost 10; go 0 kind 0 to 1 cost 12; go 1 kind 1 to 2 cost 100; go 1 kind 1 to 2 cost 105; end 2 cost 0 with stop; end 2 cost 9 with stop;", 1);
        Checks.due("no parting", x.second(), -1);
        Checks.words(x, 2);
        Checks.due("another first step", x.cost() * 1000 + x.second(), 110112);
        x.hand(0, 0);
        Checks.due("marks leave both", x.second(), 112);
        Checks.tell(x, "go 0 kind 0 to 1 cost 10; go 1 kind 1 to 2 cost 100; go 1 kind 1 to 2 cost 105; end 2 cost 0 with stop; end 2 cost 9 with stop;");
        Checks.due("another last step", x.second(), 115);
        Checks.tell(x, "go 0 kind 0 to 1 cost 10; go 1 kind 1 to 2 cost 100; end 2 cost 0 with stop; end 2 cost 9 with stop;");
        Checks.due("another last end line", x.second(), 119);
        Checks.tell(x, "go 0 kind 0 to 1 cost 10; go 1 kind 1 to 2 cost 100; end 2 cost 0 with stop;");
        Checks.due("one parting alone", x.cost() * 1000 + x.second(), 110 * 1000 - 1);
        Checks.tell(x, "go 0 kind 0 to 1 cost 10; go 1 kind 1 to 2 cost 100; go 0 kind 0 to 3 cost 500; go 3 kind 1 to 4 cost 399; end 2 cost 0 with stop; end 4 cost 1 with stop;");
        Checks.due("a way by other states", x.second(), 900);
        Checks.tell(x, "go 0 kind 0 to 1 cost 10; go 1 kind 1 to 2 cost 100; end 2 cost 0 with stop; end 2 cost 0 with stop;");
        Checks.due("one of the same cost", x.cost() * 1000 + x.second(), 110110);
        Checks.tell(x, "go 0 kind 0 to 1 cost 10; go 0 kind 0 to 1 cost 10; go 1 kind 1 to 2 cost 100; end 2 cost 0 with stop;");
        Checks.due("one of the same cost in the first step", x.second(), 110);
    }

    /** SECOND where the dearer of two lines is the lesser one, or the greater. */
    private static void secondWhicheverComesFirst() {
        int[][] costs = {{5, 3}, {3, 5}, {5, 3, 4}, {3, 4, 5}, {4, 5, 3}, {5, 4, 3}, {3, 3, 4}, {4, 3, 3}};
        for (int[] some : costs) {
            int[] sorted = some.clone();
            java.util.Arrays.sort(sorted);
            StringBuilder gos = new StringBuilder();
            StringBuilder ends = new StringBuilder();
            StringBuilder states = new StringBuilder();
            for (int i = 0; i < some.length; i++) {
                gos.append("go 0 kind 0 to 0 cost " + some[i] + ";");
                ends.append("end 0 cost " + some[i] + " with stop;");
                states.append("go 0 kind 0 to " + (i + 1) + " cost " + some[i] + "; go " + (i + 1) + " kind 1 to 9 cost 0;");
            }
            String name = "second by " + java.util.Arrays.toString(some);
            Checks.due(name + " of go lines", toldByKinds(gos + "end 0 cost 900 with stop;", 1).second(), 900 + sorted[1]);
            Checks.due(name + " of go lines twice", toldByKinds(gos + "end 0 cost 900 with stop;", 1, 1).second(), 900 + sorted[0] + sorted[1]);
            Checks.due(name + " of end lines", toldByKinds("go 0 kind 0 to 0 cost 900;" + ends, 1).second(), 900 + sorted[1]);
            Checks.due(name + " of end lines within", toldByKinds("go 0 kind 0 to 1 cost 0; go 0 kind 1 to 0 cost 0;"
                + ends.toString().replace("end 0", "end 1") + "end 0 cost 0 with stop;", 1, 2).second(), sorted[1]);
            Checks.due(name + " by states", toldByKinds(states + "end 9 cost 0 with stop;", 1, 2).second(), sorted[1]);
        }
    }

    /** SECOND where the ways to it are two changes' sum or one change's, over a whole ROW. */
    private static void secondOverAWholeRow() {
        for (int place = 0; place < 60; place++) {
            StopSetter x = Checks.told("go 0 kind 0 to 0 cost 1; go 0 kind 1 to 0 cost 1; go 0 kind 1 to 0 cost 8; end 0 cost 900 with stop;");
            x.kinds(2, 2);
            for (int i = 0; i < 60; i++) {
                x.word(i == place ? 2 : 1);
            }
            Checks.due("cost with the word at " + place, x.cost(), 960);
            Checks.due("second by the word at " + place, x.second(), 967);
        }
        StopSetter y = Checks.told("go 0 kind 0 to 0 cost 1; go 0 kind 0 to 0 cost 8; end 0 cost 2 with stop;");
        Checks.words(y, 1);
        Checks.due("another go line", y.second(), 10);
        Checks.words(y, 1);
        Checks.due("an end line within is cheaper", y.second(), 6);
    }

    // RAISED

    /** "RAISED is a WORD that is a NAME, the first of the ROW, one whose STEP has an end line of stop or question, one whose go line opens" */
    private static void raised() {
        StopSetter x = toldByKinds("go 0 kind 0 to 0 cost 1; go 0 kind 1 to 0 cost 1 with comma; go 0 kind 2 to 0 cost 1 with open; go 0 kind 3 to 0 cost 1 with close;"
            + "end 0 cost 1 with stop; end 0 cost 1 with question; end 0 cost 1 with colon;", 1, 1, 2, 3, 1, 4, 1, 1, 1, 1);
        Checks.due("first and opening alone", Checks.looks(x, 4), "1 0 0 1 0 0 0 0 0 0");
        x.hand(6, 4);
        x.hand(7, 5);
        x.hand(8, 6);
        Checks.due("stop and question, no colon", Checks.looks(x, 4), "1 0 0 1 0 0 1 1 0 0");
        x.hand(1, 6);
        x.hand(2, 6);
        x.hand(3, 6);
        Checks.due("a colon ahead of one that opens", Checks.looks(x, 4), "1 0 0 1 0 0 1 1 0 0");
        x.name(1, true);
        Checks.due("names", Checks.looks(x, 4), "1 1 0 1 1 0 1 1 1 1");
        x.name(1, false);
        x.name(2, true);
        x.name(4, true);
        Checks.due("other names", Checks.looks(x, 4), "1 0 1 1 0 1 1 1 0 0");
        StopSetter close = toldByKinds("go 0 kind 0 to 0 cost 1 with open; go 0 kind 1 to 0 cost 1 with close; end 0 cost 0 with stop;", 1, 2);
        Checks.due("the first that opens, and one that closes", Checks.looks(close, 4), "1 0");
    }

    // SETTLED

    /** "0 if there are none" */
    private static void settledIs0WithoutAny() {
        Checks.due("no words, no lines", new StopSetter().settled(), 0);
        Checks.due("no words", Checks.told("go 0 kind 0 to 0 cost 1; end 0 cost 1 with stop;").settled(), 0);
        Checks.due("no lines", Checks.words(new StopSetter(), 1, 1).settled(), 0);
        Checks.due("go lines alone", Checks.words(Checks.told("go 0 kind 0 to 0 cost 1;"), 1).settled(), 0);
        Checks.due("end lines alone", Checks.words(Checks.told("end 0 cost 1 with stop;"), 1).settled(), 0);
        Checks.due("a word that no line takes", toldByKinds("go 0 kind 0 to 0 cost 1; end 0 cost 1 with stop;", 1, 2).settled(), 0);
        Checks.due("states without an end line", toldByKinds("go 0 kind 0 to 1 cost 1; end 0 cost 1 with stop;", 1).settled(), 0);
    }

    /** "how many first STEPS are the same in all of these" */
    private static void howManyFirstStepsAreTheSame() {
        // Of the last WORD two states may be; of the others but one.
        StopSetter x = toldByKinds("go 0 kind 0 to 0 cost 1; go 0 kind 1 to 1 cost 1; go 0 kind 1 to 2 cost 1; go 1 kind 2 to 1 cost 1; go 2 kind 2 to 2 cost 1;"
            + "go 1 kind 3 to 0 cost 1; go 2 kind 3 to 0 cost 1; end 0 cost 0 with stop;");
        int[] words = {1, 2, 3, 3, 4, 1, 2, 4};
        int[] settled = {1, 1, 1, 1, 5, 6, 6, 8};
        for (int i = 0; i < words.length; i++) {
            Checks.words(x, words[i]);
            Checks.due("settled behind word " + i, x.settled(), settled[i]);
        }
        for (int i = words.length - 2; i >= 0; i--) {
            x.drop();
            Checks.due("settled again behind word " + i, x.settled(), settled[i]);
        }
        StopSetter y = toldByKinds("go 0 kind 0 to 1 cost 1; go 0 kind 0 to 2 cost 1; go 1 kind 0 to 1 cost 1; go 2 kind 0 to 2 cost 1; end 1 cost 900 with stop; end 2 cost 900 with stop;");
        for (int i = 1; i <= 60; i++) {
            y.word(1);
            Checks.due("two ways from the first on, of " + i, y.settled(), 0);
        }
    }

    /** A whole ROW is settled where there is one state alone, up to the 60th WORD. */
    private static void aWholeRowIsSettled() {
        StopSetter x = Checks.told("go 0 kind 0 to 0 cost 1; end 0 cost 0 with stop;");
        for (int i = 1; i <= 60; i++) {
            x.word(1);
            Checks.due("settled of " + i, x.settled(), i);
        }
        Checks.due("the 61st", x.word(1), -1);
        Checks.due("settled behind a refused word", x.settled(), 60);
    }

    /** "for each the first of the cheapest ways to it" */
    private static void theFirstOfTheCheapestWays() {
        // To state 3 by 1 or by 2, to state 4 by 2 alone.
        String equal = "go 0 kind 0 to 1 cost 1; go 0 kind 0 to 2 cost 1; go 1 kind 1 to 3 cost 1; go 2 kind 1 to 3 cost 1; go 2 kind 1 to 4 cost 1; end 3 cost 0 with stop; end 4 cost 0 with stop;";
        Checks.due("equal ways: the first step is not the same", toldByKinds(equal, 1, 2).settled(), 0);
        String cheaper = equal.replace("go 0 kind 0 to 1 cost 1", "go 0 kind 0 to 1 cost 2");
        Checks.due("the cheaper way: it is the same", toldByKinds(cheaper, 1, 2).settled(), 1);
        String other = "go 0 kind 0 to 2 cost 1; go 0 kind 0 to 1 cost 1; go 1 kind 1 to 3 cost 1; go 2 kind 1 to 3 cost 1; go 2 kind 1 to 4 cost 1; end 3 cost 0 with stop; end 4 cost 0 with stop;";
        Checks.due("equal ways the other way round", toldByKinds(other, 1, 2).settled(), 1);
        String ends = "go 0 kind 0 to 1 cost 0; go 1 kind 1 to 2 cost 1; go 0 kind 1 to 2 cost 0; end 1 cost 1 with stop; go 0 kind 1 to 3 cost 0; end 2 cost 0 with stop; end 3 cost 0 with stop;";
        Checks.due("without an end line first", toldByKinds(ends, 1, 2).settled(), 1);
    }

    /** "of all states ... that a PARTING of the ROW so far, without its last end line, can end in" */
    private static void withoutItsLastEndLine() {
        StopSetter x = toldByKinds("go 0 kind 0 to 1 cost 1; go 1 kind 1 to 2 cost 1; end 2 cost 0 with stop;", 1);
        Checks.due("no parting yet", x.cost(), -1);
        Checks.due("yet the word is settled", x.settled(), 1);
        Checks.words(x, 2);
        Checks.due("a parting", x.cost(), 2);
        Checks.due("two are settled", x.settled(), 2);
    }

    /** "with quotes open or not": a state with quotes open is another one than without. */
    private static void withQuotesOpenOrNot() {
        String text = "go 0 kind 0 to 0 cost 1; go 0 kind 1 to 1 cost 1; go 0 kind 1 to 1 cost 1 with open; go 1 kind 2 to 1 cost 1; end 1 cost 0 with stop;";
        Checks.due("quotes that can't be closed", toldByKinds(text, 1, 2, 3).settled(), 3);
        Checks.due("quotes that can", toldByKinds(text + "go 1 kind 7 to 1 cost 1 with close;", 1, 2, 3).settled(), 1);
        Checks.due("closed where no end line is", toldByKinds(text + "go 1 kind 7 to 2 cost 1 with close;", 1, 2, 3).settled(), 3);
    }

    /** "from which some end line can be reached by go lines of any kinds, quotes being closed there" */
    private static void hopeByGoLinesOfAnyKinds() {
        String two = "go 0 kind 0 to 0 cost 1; go 0 kind 1 to 1 cost 1; go 0 kind 1 to 2 cost 1; end 1 cost 0 with stop;";
        Checks.due("no line leads on", toldByKinds(two, 1, 2).settled(), 2);
        Checks.due("an end line right there", toldByKinds(two + "end 2 cost 999 with colon;", 1, 2).settled(), 1);
        for (int kind = 0; kind <= 7; kind++) {
            Checks.due("one go line of kind " + kind, toldByKinds(two + "go 2 kind " + kind + " to 1 cost 999;", 1, 2).settled(), 1);
        }
        Checks.due("a go line with comma", toldByKinds(two + "go 2 kind 5 to 1 cost 9 with comma;", 1, 2).settled(), 1);
        Checks.due("open and never closed", toldByKinds(two + "go 2 kind 5 to 1 cost 9 with open;", 1, 2).settled(), 2);
        Checks.due("close without open", toldByKinds(two + "go 2 kind 5 to 1 cost 9 with close;", 1, 2).settled(), 2);
        Checks.due("open and closed", toldByKinds(two + "go 2 kind 5 to 3 cost 9 with open; go 3 kind 5 to 1 cost 9 with close;", 1, 2).settled(), 1);
        Checks.due("a ring", toldByKinds(two + "go 2 kind 5 to 3 cost 9; go 3 kind 5 to 2 cost 9;", 1, 2).settled(), 2);
    }

    /** The longest way to an end line: through all states with quotes open, then through all without. */
    private static void theLongestWayToAnEndLine() {
        StringBuilder up = new StringBuilder();
        StringBuilder down = new StringBuilder();
        for (int state = 0; state <= 8; state++) {
            String line = "go " + state + " kind 0 to " + (state + 1) + " cost 1;";
            up.append(line);
            down.insert(0, line);
        }
        String rest = "go 9 kind 0 to 0 cost 1 with close; go 0 kind 1 to 0 cost 1 with open; go 0 kind 1 to 1 cost 1;";
        for (String chain : new String[] {up + rest, rest + up, down + rest, rest + down}) {
            StopSetter x = toldByKinds(chain + "end 9 cost 1 with stop;", 2);
            Checks.due("19 go lines ahead of the end line", x.settled(), 0);
            Checks.tell(x, chain.replace(" with close", "") + "end 9 cost 1 with stop;");
            Checks.due("no close", x.settled(), 1);
        }
    }

    /** Hope is of the GRAMMAR that is there, not of one that was. */
    private static void hopeOfTheGrammarThatIsThere() {
        String lost = "go 0 kind 0 to 0 cost 1; go 0 kind 1 to 1 cost 1; go 0 kind 1 to 2 cost 1; end 1 cost 0 with stop;";
        StopSetter x = toldByKinds(lost + "end 2 cost 0 with stop;", 1, 2);
        for (int times = 1; times <= 4; times++) {
            Checks.due("two states with hope", x.settled(), 1);
            Checks.tell(x, lost);
            Checks.due("one of them without", x.settled(), 2);
            Checks.tell(x, times % 2 == 0 ? "" : lost);
            Checks.tell(x, lost);
            Checks.due("one of them without, told again", x.settled(), 2);
            Checks.tell(x, "go 0 kind 0 to 0 cost 1; go 0 kind 1 to 0 cost 1;");
            Checks.due("none has hope", x.settled(), 0);
            Checks.tell(x, lost + "end 2 cost 0 with stop;");
        }
        StopSetter y = toldByKinds("go 0 kind 0 to 0 cost 1; end 0 cost 1 with stop;", 1);
        Checks.due("state 0 with hope", y.settled(), 1);
        for (int times = 1; times <= 3; times++) {
            Checks.tell(y, "go 0 kind 0 to 0 cost 1;");
            Checks.due("state 0 without", y.settled(), 0);
        }
    }

    /** "(.. free of marks set by hand ..)": the marks bind the ROW's own WORDS alone. */
    private static void settledWithMarks() {
        StopSetter x = Checks.words(Checks.told("go 0 kind 0 to 0 cost 1; go 0 kind 0 to 1 cost 1 with comma; go 1 kind 0 to 1 cost 1; end 0 cost 5 with stop; end 1 cost 5 with stop;"), 1);
        Checks.due("two states", x.settled(), 0);
        x.hand(0, 1);
        Checks.due("one by hand", x.settled(), 1);
        x.hand(0, 0);
        Checks.due("the other by hand", x.settled(), 1);
        Checks.words(x, 1);
        Checks.due("two again behind one", x.settled(), 1);
        x.hand(1, 4);
        Checks.due("a stop by hand leaves the go line open", x.settled(), 1);
        x.hand(1, 0);
        Checks.due("both by hand", x.settled(), 2);
        x.hand(1, 3);
        Checks.due("a mark that can't be", x.settled(), 0);
        x.hand(1, -1);
        x.hand(0, -1);
        Checks.due("free again: both by the same first step", x.settled(), 1);
    }

    public static void main(String[] args) {
        oneStepForEachWord();
        theGreatestCost();
        state0AheadOfTheFirstWord();
        quotesNotOpenAtFirst();
        noEndLineForTheFirstWord();
        anEndLineOfTheState();
        noEndLineWithQuotesOpen();
        theStateIs0BehindAnEndLine();
        itsStateComesToBe();
        openAndClose();
        theLastEndLine();
        marksByHand();
        freeAtFirst();
        whateverItsGoLineHas();
        marksDoNotBindTheLastEndLine();
        costIsTheSumOfAllLines();
        withoutAnEndLineFirst();
        lesserEndLinesFirst();
        lesserGoLinesFirst();
        stepsInOrder();
        stepsInOrderByAllStates();
        stepsInOrderByTheGreatestLines();
        atLastTheLesserEndLine();
        secondOfAllBut();
        secondWhicheverComesFirst();
        secondOverAWholeRow();
        raised();
        settledIs0WithoutAny();
        howManyFirstStepsAreTheSame();
        aWholeRowIsSettled();
        theFirstOfTheCheapestWays();
        withoutItsLastEndLine();
        withQuotesOpenOrNot();
        hopeByGoLinesOfAnyKinds();
        theLongestWayToAnEndLine();
        hopeOfTheGrammarThatIsThere();
        settledWithMarks();
        System.exit(Checks.exitCode());
    }
}
