/** Each promise of the document: ordinary inputs, the edges it names, and wrong inputs. */
public final class PromisesTest {
    private static final int[] WILD = {Integer.MIN_VALUE, -100, -2, 1000, 1 << 20, Integer.MAX_VALUE};

    /** All that is told of a word, as one text. */
    private static String allOf(StopSetter x, int i) {
        StringBuilder all = new StringBuilder();
        for (int what = 0; what <= 6; what++) {
            all.append(what == 0 ? "" : " ").append(Checks.look(x, i, what));
        }
        return all.toString();
    }

    private static void promise1NewObject() {
        StopSetter x = new StopSetter();
        for (int what = 0; what <= 4; what++) {
            Checks.due("new count " + what, x.count(what), 0);
        }
        Checks.due("new cost", x.cost(), -1);
        Checks.due("new second", x.second(), -1);
        Checks.due("new last", x.last(), -1);
        Checks.due("new sentences", x.sentences(), -1);
        Checks.due("new settled", x.settled(), 0);
        Checks.due("new look", Checks.look(x, 0, 0), Checks.THROWS);
        Checks.due("new go", x.go(0, 0), -1);
        Checks.due("new drop", x.drop(), -1);
        Checks.words(x, 1, 2);
        Checks.due("words without lines: cost", x.cost(), -1);
        Checks.due("words without lines: settled", x.settled(), 0);
    }

    private static void promise2Kinds() {
        StopSetter x = Checks.told("go 0 kind 0 to 0 cost 1; go 0 kind 7 to 0 cost 20; go 0 kind 1 to 0 cost 300; end 0 cost 0 with stop;");
        Checks.words(x, 1, 99);
        Checks.due("kind 0 alone at first", x.cost(), 2);
        Checks.due("kinds 128", x.kinds(99, 128), true);
        Checks.due("kind 7", x.cost(), 21);
        Checks.due("kinds 2", x.kinds(1, 2), true);
        Checks.due("kind 1", x.cost(), 320);
        Checks.due("kinds 255", x.kinds(1, 255), true);
        Checks.due("all kinds", x.cost(), 21);
        Checks.due("kinds 4", x.kinds(99, 4), true);
        Checks.due("no line of kind 2", x.cost(), -1);
        Checks.due("kinds(99, 0)", x.kinds(99, 0), false);
        Checks.due("kinds(99, 256)", x.kinds(99, 256), false);
        Checks.due("kinds(99, -1)", x.kinds(99, -1), false);
        Checks.due("kinds(0, 1)", x.kinds(0, 1), false);
        Checks.due("kinds(100, 1)", x.kinds(100, 1), false);
        for (int wild : WILD) {
            Checks.due("kinds wild word", x.kinds(wild, 1), false);
            Checks.due("kinds wild set", x.kinds(1, wild), false);
        }
        Checks.due("refused sets leave the kinds", x.cost(), -1);
        Checks.due("kinds 1", x.kinds(99, 1), true);
        Checks.due("kind 0 again", x.cost(), 2);
    }

    private static void promise3Name() {
        StopSetter x = Checks.told("go 0 kind 0 to 0 cost 1; end 0 cost 5 with stop;");
        Checks.words(x, 1, 2, 99);
        Checks.due("no name", Checks.look(x, 1, 4), 0);
        Checks.due("name(2)", x.name(2, true), true);
        Checks.due("a name is raised", Checks.look(x, 1, 4), 1);
        Checks.due("another is not", Checks.look(x, 2, 4), 0);
        Checks.due("name(99)", x.name(99, true), true);
        Checks.due("a second name is raised", Checks.look(x, 2, 4), 1);
        Checks.due("name(2) no more", x.name(2, false), true);
        Checks.due("it is not raised", Checks.look(x, 1, 4), 0);
        Checks.due("name(1)", x.name(1, true), true);
        Checks.due("name(0)", x.name(0, true), false);
        Checks.due("name(100)", x.name(100, true), false);
        for (int wild : WILD) {
            Checks.due("name wild", x.name(wild, false), false);
        }
    }

    private static void promise4Word() {
        StopSetter x = new StopSetter();
        Checks.due("word(0)", x.word(0), -1);
        Checks.due("word(100)", x.word(100), -1);
        for (int wild : WILD) {
            Checks.due("word wild", x.word(wild), -1);
        }
        for (int i = 1; i <= 60; i++) {
            Checks.due("word " + i, x.word(i % 2 == 0 ? 99 : 1), i);
        }
        Checks.due("the 61st", x.word(1), -1);
        Checks.due("60 are there", x.count(0), 60);
        Checks.due("drop", x.drop(), 59);
        Checks.due("one fits again", x.word(7), 60);
        Checks.due("and no more", x.word(7), -1);
    }

    private static void promise5Drop() {
        StopSetter x = Checks.told("go 0 kind 0 to 0 cost 1; end 0 cost 5 with stop;");
        Checks.due("none to drop", x.drop(), -1);
        Checks.words(x, 1, 1, 1);
        x.hand(2, 4);
        Checks.due("three with a stop", x.cost(), 13);
        Checks.due("drop", x.drop(), 2);
        Checks.due("the mark went too", x.count(4), 0);
        Checks.due("two", x.cost(), 7);
        Checks.due("word", x.word(1), 3);
        Checks.due("no mark came back", x.cost(), 8);
        Checks.due("drop", x.drop(), 2);
        Checks.due("drop", x.drop(), 1);
        Checks.due("drop", x.drop(), 0);
        Checks.due("none again", x.drop(), -1);
        Checks.due("cost of none", x.cost(), -1);
        Checks.due("settled of none", x.settled(), 0);
    }

    private static void promise6Hand() {
        StopSetter x = Checks.told("go 0 kind 0 to 0 cost 1; go 0 kind 0 to 0 cost 2 with comma; go 0 kind 0 to 0 cost 4 with open;"
            + "go 0 kind 0 to 0 cost 8 with close; end 0 cost 16 with stop; end 0 cost 32 with question; end 0 cost 64 with colon;");
        Checks.words(x, 1, 1, 1);
        Checks.due("free", x.cost(), 19);
        Checks.due("no marks", x.count(4), 0);
        int[] costs = {19, 20, -1, 29, 35, 51, 83};
        for (int mark = 0; mark <= 6; mark++) {
            Checks.due("hand(2, " + mark + ")", x.hand(2, mark), true);
            Checks.due("cost with " + mark, x.cost(), costs[mark]);
            Checks.due("a mark", x.count(4), 1);
        }
        Checks.due("free again", x.hand(2, -1), true);
        Checks.due("no mark", x.count(4), 0);
        Checks.due("cost free", x.cost(), 19);
        Checks.due("open at 0", x.hand(0, 2), true);
        Checks.due("closed as cheaply", x.cost(), 29);
        Checks.due("at the first that can", Checks.look(x, 1, 3), 0);
        Checks.due("close at 1", x.hand(1, 3), true);
        Checks.due("open, close", x.cost(), 29);
        Checks.due("quotes as told", Checks.look(x, 0, 6) * 10 + Checks.look(x, 1, 6), 10);
        Checks.due("two marks", x.count(4), 2);
        Checks.due("stop while open", x.hand(1, 4), true);
        Checks.due("no way", x.cost(), -1);
        Checks.due("hand(0, -1)", x.hand(0, -1), true);
        Checks.due("a way again", x.cost(), 35);
        for (int mark = 4; mark <= 6; mark++) {
            Checks.due("an end at the first", x.hand(0, mark), false);
        }
        Checks.due("hand(-1, 0)", x.hand(-1, 0), false);
        Checks.due("hand(3, 0)", x.hand(3, 0), false);
        Checks.due("hand(3, -1)", x.hand(3, -1), false);
        Checks.due("hand(1, 7)", x.hand(1, 7), false);
        Checks.due("hand(1, -2)", x.hand(1, -2), false);
        for (int wild : WILD) {
            Checks.due("hand wild place", x.hand(wild, 0), false);
            Checks.due("hand wild mark", x.hand(1, wild), false);
        }
        Checks.due("all as it was", x.cost(), 35);
        StopSetter y = Checks.told("go 0 kind 0 to 0 cost 9; go 0 kind 0 to 0 cost 1 with comma; end 0 cost 3 with stop;");
        Checks.words(y, 1, 1);
        Checks.due("hand 4", y.hand(1, 4), true);
        Checks.due("an end by hand leaves the go line free", y.cost(), 8);
        Checks.due("hand 0", y.hand(1, 0), true);
        Checks.due("no with", y.cost(), 13);
        Checks.due("hand 1 at the first", y.hand(0, 1), true);
        Checks.due("comma there", y.cost(), 13);
    }

    private static void promise7Feed() {
        StopSetter x = new StopSetter();
        Checks.due("nothing", x.feed(0, 0, 0), 0);
        Checks.due("edges of the signs", x.feed(0x0A1F207E7F8009FFL, 0x0B0D000000000000L, -1L), 3);
        Checks.due("tilde is none", x.grammar(), 1 + 16 * 2);
        Checks.due("highest first", x.feed(Checks.eight("end 0 co", 0), Checks.eight("st 1 wit", 0), Checks.eight("h stop ;", 0)), 24);
        Checks.due("in order", x.grammar(), 0);
        Checks.due("one end line", x.count(2), 1);
        Checks.due("nothing on the tape", x.count(3), 0);
        for (int i = 1; i <= 66; i++) {
            Checks.due("feed", Checks.feed(x, "                        "), 24 * i);
        }
        Checks.due("up to the limit", Checks.feed(x, "            "), 1596);
        Checks.due("what is beyond is left out", Checks.feed(x, "end0cost1with"), 1600);
        Checks.due("nothing more", x.feed(-1L, 0x2020202020202020L, 0), 1600);
        Checks.due("the count", x.count(3), 1600);
        Checks.due("at the text's length", x.grammar(), 1 + 16 * 1600);
        Checks.due("taken", x.count(3), 0);
    }

    private static void fault(String text, int kind, int place) {
        StopSetter x = Checks.told("go 1 kind 2 to 3 cost 4 with open; end 5 cost 6 with colon;");
        Checks.due("fault of " + text, Checks.tell(x, text), kind + 16 * place);
        Checks.due("the lines stay after " + text, x.count(1) * 10 + x.count(2), 11);
        Checks.due("the line stays after " + text, x.go(0, 3), 4);
        Checks.due("the tape is taken after " + text, x.count(3), 0);
    }

    private static void fine(String text, int gos, int ends) {
        StopSetter x = Checks.told("go 1 kind 2 to 3 cost 4 with open; end 5 cost 6 with colon;");
        Checks.due("grammar of " + text, Checks.tell(x, text), 0);
        Checks.due("go lines of " + text, x.count(1), gos);
        Checks.due("end lines of " + text, x.count(2), ends);
    }

    private static void promise8Grammar() {
        fine("", 0, 0);
        fine(" \n ", 0, 0);
        fine("go0kind0to0cost0;", 1, 0);
        fine("go 9kind 7to 9cost 999with comma;end9cost0999with question ;", 1, 1);
        fine("\ngo\n0000 kind 0007\nto 0009 cost 0000 with\nclose\n;", 1, 0);
        fine("go0kind0to0cost0;".repeat(40) + "end0cost0with stop;".repeat(10), 40, 10);
        String go = "go 3 kind 4 to 5 cost 67 with open ;";
        String[] badGo = {"go 10", "kind 8", "to 10", "cost 1000", "with stop", ":"};
        int[] badAt = {3, 10, 15, 22, 30, 35};
        for (int i = 0; i < badGo.length; i++) {
            String name = badGo[i].split(" ")[0];
            String text = name.equals(":") ? go.replace(";", ":") : go.replaceAll(name + " \\w+", badGo[i]);
            fault(text, i < 4 ? 4 : 1, badAt[i]);
        }
        for (int cut = 1; cut < go.length(); cut++) {
            String text = go.substring(0, cut);
            StopSetter x = new StopSetter();
            Checks.due("cut " + text, Checks.tell(x, text) != 0, true);
            Checks.due("cut at a token " + text, Checks.tell(x, text + " \n") % 16, 1);
        }
        fault("go", 1, 2);
        fault("go ", 1, 3);
        fault("go 0 kind 0 to 0 cost 0", 1, 23);
        fault("go 0 kind 0 to 0 cost 0 with\n ", 1, 30);
        fault("end 0 cost 0 with stop", 1, 22);
        fault("end 0 cost 0;", 1, 12);
        fault("end 10 cost 0 with stop;", 4, 4);
        fault("end 0 cost 1000 with stop;", 4, 11);
        fault("end 0 cost 9999 with what;", 4, 11);
        fault("end 0 cost 10000 with stop;", 1, 11);
        fault("end 0 cost 0 with open;", 1, 18);
        fault("end 0 cost 0 with stopstops;", 1, 18);
        fault("go 0 kind 0 to 0 cost 0 with colon;", 1, 29);
        fault("go 0 kind 0 to 0 cost 0 with comma with open;", 1, 35);
        fault("go 00000 kind", 1, 3);
        fault("go zero", 1, 3);
        fault("go ;", 1, 3);
        fault("gone 0", 1, 0);
        fault("goo 0", 1, 0);
        fault("g 0", 1, 0);
        fault("Go 0", 1, 0);
        fault("goX0", 1, 2);
        fault(" ;", 1, 1);
        fault("7", 1, 0);
        fault("go 0 kind 0 to 0 cost 0;;", 1, 24);
        fault("go 0 to 0", 1, 5);
        fault("go 0 kind -1", 1, 10);
        fault("abcdefghi", 1, 0);
        fault("go0kind0to0cost0;".repeat(40) + " go what", 5, 681);
        fault("go0kind0to0cost0;".repeat(40) + " goo", 1, 681);
        fault("end0cost0with stop;".repeat(10) + "\nend", 5, 191);
        fault("end0cost0with stop;".repeat(10) + "go 10", 4, 193);
    }

    private static void promise9Cost() {
        StopSetter x = Checks.told("go 0 kind 0 to 1 cost 5; go 1 kind 0 to 0 cost 7; go 0 kind 0 to 2 cost 1; end 1 cost 100 with stop; end 2 cost 999 with stop;");
        Checks.words(x, 1);
        Checks.due("one word", x.cost(), 105);
        Checks.words(x, 1);
        Checks.due("an end ahead", x.cost(), 210);
        Checks.words(x, 1);
        Checks.due("two ways", x.cost(), 117);
        Checks.due("asked again", x.cost(), 117);
        Checks.due("a grammar with a fault", Checks.tell(x, "go 0"), 1 + 16 * 4);
        Checks.due("changes nothing", x.cost(), 117);
        Checks.due("another grammar", Checks.tell(x, "go 0 kind 0 to 0 cost 999; end 0 cost 999 with colon;"), 0);
        Checks.due("is taken", x.cost(), 3996);
        for (int i = 3; i < 60; i++) {
            x.word(1);
            x.hand(i, 6);
        }
        Checks.due("a long row", x.cost(), 60 * 999 + 58 * 999);
        Checks.due("no lines", x.grammar(), 0);
        Checks.due("no parting", x.cost(), -1);
        StopSetter y = Checks.told("go 0 kind 0 to 0 cost 1 with open; go 0 kind 0 to 0 cost 2 with close; end 0 cost 0 with stop;");
        Checks.words(y, 1);
        Checks.due("quotes are open at the end", y.cost(), -1);
        Checks.words(y, 1);
        Checks.due("quotes are closed", y.cost(), 3);
        Checks.words(y, 1, 1);
        Checks.due("two pairs", y.cost(), 6);
        StopSetter z = Checks.told("go 0 kind 0 to 1 cost 1; go 1 kind 1 to 1 cost 1; end 0 cost 0 with stop; end 1 cost 0 with stop;");
        z.kinds(2, 2);
        Checks.words(z, 2);
        Checks.due("no end line ahead of the first", z.cost(), -1);
        z.drop();
        Checks.words(z, 1, 1);
        Checks.due("an end line leads to state 0", z.cost(), 2);
    }

    private static void promise10Second() {
        StopSetter x = Checks.told("go 0 kind 0 to 0 cost 3; end 0 cost 10 with stop;");
        Checks.words(x, 1);
        Checks.due("one parting", x.cost() * 1000 + x.second(), 13 * 1000 - 1);
        Checks.words(x, 1);
        Checks.due("with a stop", x.second(), 26);
        Checks.words(x, 1);
        Checks.due("either stop", x.second(), 29);
        x.hand(1, 4);
        x.hand(2, 4);
        Checks.due("all by hand", x.second(), -1);
        StopSetter y = Checks.told("go 0 kind 0 to 0 cost 3; go 0 kind 0 to 0 cost 3; end 0 cost 10 with stop;");
        Checks.words(y, 1);
        Checks.due("equal lines are two partings", y.second(), 13);
        StopSetter z = Checks.told("go 0 kind 0 to 0 cost 3; end 0 cost 10 with stop; end 0 cost 12 with colon;");
        Checks.words(z, 1);
        Checks.due("another last end line", z.second(), 15);
        z.drop();
        Checks.due("no words", z.second(), -1);
    }

    private static void promise11Look() {
        StopSetter x = Checks.told("go 0 kind 0 to 3 cost 1; go 3 kind 0 to 9 cost 1 with open; go 9 kind 0 to 2 cost 1 with comma;"
            + "go 2 kind 0 to 5 cost 1 with close; end 7 cost 0 with question; end 5 cost 0 with stop; end 3 cost 50 with colon; end 5 cost 0 with question;");
        Checks.words(x, 1, 1, 1, 1, 1);
        Checks.due("cost", x.cost(), 55);
        Checks.due("word 0", allOf(x, 0), "-1 0 0 0 1 3 0");
        Checks.due("word 1", allOf(x, 1), "-1 1 0 2 1 9 1");
        Checks.due("word 2", allOf(x, 2), "-1 2 0 1 0 2 1");
        Checks.due("word 3", allOf(x, 3), "-1 3 0 3 0 5 0");
        Checks.due("word 4", allOf(x, 4), "1 0 4 0 1 3 0");
        x.hand(4, 5);
        Checks.due("word 4 with a question", allOf(x, 4), "3 0 5 0 1 3 0");
        x.hand(4, 6);
        Checks.due("a colon from state 3 alone", Checks.look(x, 4, 0) * 10 + x.sentences(), 25);
        x.hand(4, -1);
        Checks.due("look(5)", Checks.look(x, 5, 0), Checks.THROWS);
        Checks.due("look(-1)", Checks.look(x, -1, 0), Checks.THROWS);
        Checks.due("another what", Checks.look(x, 0, 7), -1);
        Checks.due("another what", Checks.look(x, 0, -1), -1);
        for (int wild : WILD) {
            Checks.due("look wild place", Checks.look(x, wild, 0), Checks.THROWS);
            Checks.due("look wild what", Checks.look(x, 0, wild), -1);
            Checks.due("look wild both", Checks.look(x, wild, wild), Checks.THROWS);
        }
        StopSetter y = Checks.told("go 0 kind 0 to 0 cost 1; end 0 cost 0 with colon;");
        Checks.words(y, 1, 1);
        Checks.due("without an end line first", Checks.look(y, 1, 0), -1);
        y.hand(1, 6);
        Checks.due("a colon does not raise", allOf(y, 1), "0 0 6 0 0 0 0");
        StopSetter z = Checks.told("end 0 cost 5 with question; end 0 cost 5 with stop; go 0 kind 0 to 0 cost 2 with comma;"
            + "go 0 kind 0 to 0 cost 2; go 0 kind 0 to 1 cost 1;");
        Checks.words(z, 1, 1);
        Checks.due("lesser go lines first", Checks.look(z, 0, 1) * 10 + Checks.look(z, 1, 1), 0);
        z.hand(1, 0);
        Checks.due("by hand the other", Checks.look(z, 0, 1) * 10 + Checks.look(z, 1, 1), 1);
        z.hand(1, 4);
        Checks.due("the stop by hand", Checks.look(z, 1, 0), 1);
        StopSetter none = Checks.told("go 0 kind 0 to 1 cost 1;");
        Checks.words(none, 1);
        Checks.due("no parting", Checks.look(none, 0, 0), Checks.THROWS);
        Checks.due("no parting, another what", Checks.look(none, 0, 7), Checks.THROWS);
        StopSetter ties = Checks.told("go 0 kind 0 to 1 cost 1; go 0 kind 0 to 2 cost 1; go 2 kind 1 to 1 cost 1; go 1 kind 1 to 2 cost 1;"
            + "end 2 cost 0 with stop; end 1 cost 0 with stop;");
        ties.kinds(2, 2);
        Checks.words(ties, 1, 2, 2, 2);
        Checks.due("the first steps tell before the last end line", Checks.look(ties, 0, 1) * 10 + ties.last(), 0);
        ties.drop();
        Checks.due("the same with the other end line", Checks.look(ties, 0, 1) * 10 + ties.last(), 1);
    }

    private static void promise12Last() {
        StopSetter x = Checks.told("go 0 kind 0 to 0 cost 1; end 1 cost 0 with stop; end 0 cost 2 with stop; end 0 cost 2 with question; end 0 cost 3 with colon;");
        Checks.due("no words", x.last(), -1);
        Checks.words(x, 1);
        Checks.due("the lesser of equal ones", x.last(), 1);
        Checks.words(x, 1, 1);
        Checks.due("the same", x.last(), 1);
        Checks.tell(x, "go 0 kind 0 to 0 cost 1; end 0 cost 4 with stop; end 0 cost 3 with colon;");
        Checks.due("the cheaper", x.last(), 1);
        Checks.tell(x, "go 0 kind 0 to 1 cost 1; go 1 kind 0 to 1 cost 1;");
        Checks.due("no parting", x.last(), -1);
    }

    private static void promise13Sentences() {
        StopSetter x = Checks.told("go 0 kind 0 to 0 cost 1; end 0 cost 2 with stop; end 0 cost 2 with question; end 0 cost 3 with colon;");
        Checks.due("no words", x.sentences(), -1);
        Checks.words(x, 1, 1, 1, 1);
        Checks.due("one", x.sentences(), 1);
        x.hand(1, 4);
        Checks.due("two", x.sentences(), 2);
        x.hand(2, 5);
        Checks.due("three", x.sentences(), 3);
        x.hand(3, 6);
        Checks.due("a colon ends one, too", x.sentences(), 4);
        x.grammar();
        Checks.due("no lines", x.sentences(), -1);
    }

    private static void promise14Settled() {
        StopSetter x = Checks.told("go 0 kind 0 to 0 cost 1; end 0 cost 1 with stop;");
        Checks.due("no words", x.settled(), 0);
        Checks.words(x, 1, 1, 1);
        Checks.due("all of one state", x.settled(), 3);
        StopSetter y = Checks.told("go 0 kind 0 to 1 cost 1; go 1 kind 0 to 1 cost 1; go 0 kind 0 to 2 cost 1; go 2 kind 0 to 2 cost 1; end 1 cost 0 with stop;");
        Checks.words(y, 1, 1);
        Checks.due("a state without hope does not count", y.settled(), 2);
        Checks.tell(y, "go 0 kind 0 to 1 cost 1; go 1 kind 0 to 1 cost 1; go 0 kind 0 to 2 cost 1; go 2 kind 0 to 2 cost 1; end 1 cost 900 with stop; go 2 kind 7 to 3 cost 0; go 3 kind 6 to 4 cost 0; end 4 cost 0 with colon;");
        Checks.due("hope by lines of any kind", y.settled(), 0);
        Checks.tell(y, "go 0 kind 0 to 1 cost 1; go 1 kind 0 to 1 cost 1;");
        Checks.due("no hope at all", y.settled(), 0);
        StopSetter q = Checks.told("go 0 kind 0 to 0 cost 1; go 0 kind 0 to 1 cost 1 with open; go 1 kind 0 to 1 cost 1; end 1 cost 0 with stop; end 0 cost 0 with stop;");
        Checks.words(q, 1);
        Checks.due("quotes that never close", q.settled(), 1);
        Checks.tell(q, "go 0 kind 0 to 0 cost 1; go 0 kind 0 to 1 cost 1 with open; go 1 kind 0 to 1 cost 1; end 0 cost 0 with stop; go 1 kind 5 to 0 cost 1 with close;");
        Checks.due("quotes that may close", q.settled(), 0);
        q.hand(0, 2);
        Checks.due("by hand", q.settled(), 1);
        Checks.due("without a parting", q.cost(), -1);
        Checks.words(q, 1);
        Checks.due("two by hand", q.settled(), 2);
        StopSetter late = Checks.told("go 0 kind 0 to 0 cost 1; go 0 kind 1 to 1 cost 1; go 0 kind 1 to 2 cost 1; end 0 cost 0 with stop; end 1 cost 0 with stop; end 2 cost 0 with stop;");
        late.kinds(2, 2);
        Checks.words(late, 1, 1, 2);
        Checks.due("two states behind the same two steps", late.settled(), 2);
        late.drop();
        Checks.due("dropped", late.settled(), 2);
        Checks.words(late, 3);
        Checks.due("another word", late.settled(), 3);
        late.kinds(3, 8);
        Checks.due("a word that no line takes", late.settled(), 0);
    }

    private static void promise15Go() {
        StopSetter x = Checks.told("go 1 kind 2 to 3 cost 4; end 0 cost 0 with stop; go 9 kind 7 to 8 cost 999 with comma; go 0 kind 0 to 0 cost 0 with open; go 0 kind 0 to 0 cost 0 with close;");
        int[][] lines = {{1, 2, 3, 4, 0}, {9, 7, 8, 999, 1}, {0, 0, 0, 0, 2}, {0, 0, 0, 0, 3}};
        for (int line = 0; line < lines.length; line++) {
            for (int what = 0; what <= 4; what++) {
                Checks.due("go(" + line + ", " + what + ")", x.go(line, what), lines[line][what]);
            }
            Checks.due("another what", x.go(line, 5), -1);
            Checks.due("another what", x.go(line, -1), -1);
        }
        Checks.due("go(4, 0)", x.go(4, 0), -1);
        Checks.due("go(-1, 0)", x.go(-1, 0), -1);
        for (int wild : WILD) {
            Checks.due("go wild line", x.go(wild, 0), -1);
            Checks.due("go wild what", x.go(0, wild), -1);
        }
        Checks.tell(x, "go 0 kind 0 to 0 cost 1;");
        Checks.due("a line of the old grammar", x.go(1, 0), -1);
    }

    private static void promise16Count() {
        StopSetter x = Checks.told("go 0 kind 0 to 0 cost 1; go 0 kind 1 to 0 cost 1; end 0 cost 0 with stop;");
        Checks.words(x, 1, 1, 1, 1);
        x.hand(0, 0);
        x.hand(2, 4);
        x.hand(2, 6);
        x.hand(3, 1);
        Checks.feed(x, "12345");
        Checks.due("words", x.count(0), 4);
        Checks.due("go lines", x.count(1), 2);
        Checks.due("end lines", x.count(2), 1);
        Checks.due("signs", x.count(3), 5);
        Checks.due("marks", x.count(4), 3);
        x.drop();
        Checks.due("marks after a drop", x.count(4), 2);
        Checks.due("count(5)", x.count(5), -1);
        Checks.due("count(-1)", x.count(-1), -1);
        for (int wild : WILD) {
            Checks.due("count wild", x.count(wild), -1);
        }
    }

    public static void main(String[] args) {
        promise1NewObject();
        promise2Kinds();
        promise3Name();
        promise4Word();
        promise5Drop();
        promise6Hand();
        promise7Feed();
        promise8Grammar();
        promise9Cost();
        promise10Second();
        promise11Look();
        promise12Last();
        promise13Sentences();
        promise14Settled();
        promise15Go();
        promise16Count();
        System.exit(Checks.exitCode());
    }
}
