/**
 * The boundary cases of promises 1 to 16: what each call takes and refuses, that a refused call changes
 * nothing, and that answers hold up to an object's 512th call.
 */
public final class CallsBoundaryTest {
    private static final int MIN = Integer.MIN_VALUE;
    private static final int MAX = Integer.MAX_VALUE;
    private static final String LINES = "go 0 kind 0 to 1 cost 3; go 1 kind 0 to 1 cost 2 with comma; go 1 kind 0 to 2 cost 2 with open; go 2 kind 0 to 1 cost 4 with close;"
        + "go 0 kind 1 to 1 cost 5; end 1 cost 6 with stop; end 1 cost 7 with question;";

    private static StopSetter fullOfAll() {
        StopSetter x = Checks.told(LINES);
        x.kinds(2, 3);
        x.name(3, true);
        Checks.words(x, 1, 2, 3, 4);
        x.hand(1, 2);
        x.hand(3, 4);
        Checks.feed(x, "go 0 kind");
        return x;
    }

    /** "No WORDS, no lines" */
    private static void promise1() {
        StopSetter x = new StopSetter();
        Checks.due("all of a new object", Checks.allOf(x), "0 0 0 0 0 [] [] [] [] [] [] [] -1 -1 -1 -1 0");
        Checks.due("look(0, 0)", Checks.look(x, 0, 0), Checks.THROWS);
        Checks.due("hand(0, 0)", x.hand(0, 0), false);
        Checks.due("hand(0, -1)", x.hand(0, -1), false);
        Checks.due("drop", x.drop(), -1);
        Checks.due("go(0, 0)", x.go(0, 0), -1);
        Checks.due("the empty tape", x.grammar(), 0);
        Checks.due("one word", x.word(1), 1);
        Checks.due("its cost", x.cost(), -1);
    }

    /** Objects are used side by side; what one is told is not another's. */
    private static void objectsAreTheirOwn() {
        StopSetter x = fullOfAll();
        String before = Checks.allOf(x);
        StopSetter y = Checks.told("go 0 kind 0 to 0 cost 1; end 0 cost 1 with stop;");
        y.kinds(1, 128);
        y.name(1, true);
        Checks.words(y, 5);
        y.drop();
        Checks.due("the first object", Checks.allOf(x), before);
        Checks.due("a third object", Checks.words(new StopSetter(), 1).count(0), 1);
    }

    /** "The kinds of a WORD (1 .. 255 as bits): true; false: no such WORD, another set" */
    private static void promise2() {
        StopSetter x = Checks.words(Checks.told("go 0 kind 0 to 0 cost 1; go 0 kind 7 to 0 cost 9; end 0 cost 0 with stop;"), 1, 99);
        for (int set : new int[] {1, 2, 127, 128, 129, 254, 255}) {
            Checks.due("kinds(1, " + set + ")", x.kinds(1, set), true);
            Checks.due("kinds(99, " + set + ")", x.kinds(99, set), true);
        }
        x.kinds(1, 128);
        for (int set : new int[] {0, -1, -255, -256, 256, 257, 511, 512, 65537, MIN, MIN + 1, MAX}) {
            Checks.due("kinds(1, " + set + ")", x.kinds(1, set), false);
            Checks.due("kinds(99, " + set + ")", x.kinds(99, set), false);
            Checks.due("kinds(0, " + set + ")", x.kinds(0, set), false);
            Checks.due("kinds(100, " + set + ")", x.kinds(100, set), false);
        }
        Checks.due("refused sets change nothing", x.cost(), 10);
        Checks.due("words outside with a good set", x.kinds(0, 1) || x.kinds(100, 1) || x.kinds(-1, 1), false);
    }

    /** Kinds told behind the words count for the words that are there, wherever they stand. */
    private static void kindsOfWordsInTheRow() {
        String text = "go 0 kind 0 to 0 cost 1; go 0 kind 1 to 0 cost 10; end 0 cost 0 with stop;";
        for (int place = 0; place < 4; place++) {
            StopSetter x = Checks.words(Checks.told(text), 1, 2, 3, 4);
            Checks.due("at first", x.cost(), 4);
            x.kinds(place + 1, 2);
            Checks.due("kind 1 at " + place, x.cost(), 13);
            x.kinds(place + 1, 4);
            Checks.due("no line at " + place, x.cost(), -1);
            x.kinds(place + 1, 3);
            Checks.due("both kinds at " + place, x.cost(), 4);
        }
        StopSetter y = Checks.words(Checks.told(text), 5, 6, 5, 6, 5);
        Checks.due("at first", y.cost(), 5);
        y.kinds(5, 2);
        Checks.due("a word that is there thrice", y.cost(), 32);
        y.kinds(7, 4);
        Checks.due("a word that is not there", y.cost(), 32);
    }

    /** "Whether a WORD is a NAME: true; false: no such WORD" */
    private static void promise3() {
        for (int w : new int[] {1, 2, 98, 99}) {
            StopSetter x = Checks.words(Checks.told("go 0 kind 0 to 0 cost 1; end 0 cost 0 with stop;"), 50, w);
            for (boolean yes : new boolean[] {false, true, true, false}) {
                Checks.due("name(" + w + ", " + yes + ")", x.name(w, yes), true);
                Checks.due("raised", Checks.look(x, 1, 4), yes ? 1 : 0);
            }
        }
        StopSetter x = new StopSetter();
        for (int w : new int[] {0, 100, -1, 127, 128, 256, 257, MIN, MAX}) {
            Checks.due("name(" + w + ", true)", x.name(w, true), false);
            Checks.due("name(" + w + ", false)", x.name(w, false), false);
        }
    }

    /** "A WORD comes behind the ROW: how many; NONE: no such WORD, 60 are there" */
    private static void promise4() {
        StopSetter x = new StopSetter();
        for (int i = 1; i <= 60; i++) {
            Checks.due("word(0) with " + (i - 1), x.word(0), -1);
            Checks.due("word(100) with " + (i - 1), x.word(100), -1);
            Checks.due("word " + i, x.word(1 + i % 2 * 98), i);
        }
        for (int w : new int[] {1, 99, 0, 100, MIN, MAX}) {
            Checks.due("word(" + w + ") with 60", x.word(w), -1);
        }
        Checks.due("60 are there", x.count(0), 60);
    }

    /** A WORD comes behind, not ahead. */
    private static void aWordComesBehind() {
        StopSetter x = Checks.told("go 0 kind 0 to 1 cost 1; go 1 kind 1 to 2 cost 1; go 2 kind 2 to 3 cost 1; end 3 cost 0 with stop; end 2 cost 0 with stop; end 1 cost 0 with stop;");
        x.kinds(2, 2);
        x.kinds(3, 4);
        Checks.words(x, 1, 2, 3);
        Checks.due("in their order", Checks.parting(x), "-/0 -/1 -/2 0");
        x.drop();
        Checks.due("the last one went", Checks.parting(x), "-/0 -/1 1");
        Checks.words(x, 2);
        Checks.due("another in its place", x.cost(), -1);
    }

    /** "The last WORD goes (the MARK set for it, too): how many; NONE: there is none" */
    private static void promise5() {
        StopSetter x = Checks.told("go 0 kind 0 to 0 cost 1; go 0 kind 0 to 0 cost 5 with comma; end 0 cost 0 with stop;");
        for (int i = 0; i < 60; i++) {
            x.word(1);
            x.hand(i, 1);
        }
        Checks.due("60 commas", x.cost(), 300);
        for (int left = 59; left >= 0; left--) {
            Checks.due("drop to " + left, x.drop(), left);
            Checks.due("marks left", x.count(4), left);
            Checks.due("cost of " + left, x.cost(), left == 0 ? -1 : 5 * left);
        }
        Checks.due("none to drop", x.drop(), -1);
        Checks.due("nor then", x.drop(), -1);
        Checks.due("no words", x.count(0), 0);
        Checks.words(x, 1);
        Checks.due("no mark came back", x.cost() * 10 + x.count(4), 10);
    }

    /** "The MARK by hand for a WORD of the ROW (-1: free): true; false: no such one, MARK; 4 and more for the first" */
    private static void promise6() {
        for (int size = 0; size <= 60; size = size == 0 ? 1 : size == 1 ? 2 : size == 2 ? 59 : size + 1) {
            StopSetter x = new StopSetter();
            for (int i = 0; i < size; i++) {
                x.word(1);
            }
            for (int i : new int[] {MIN, -60, -2, -1, 0, 1, 2, 3, 58, 59, 60, 61, 256, MAX}) {
                for (int mark : new int[] {MIN, -3, -2, -1, 0, 1, 2, 3, 4, 5, 6, 7, 8, 256, MAX}) {
                    boolean fits = i >= 0 && i < size && mark >= -1 && mark <= 6 && (i > 0 || mark <= 3);
                    Checks.due("hand(" + i + ", " + mark + ") of " + size, x.hand(i, mark), fits);
                }
            }
            int marked = 0;
            for (int i : new int[] {0, 1, 2, 3, 58, 59}) {
                marked += i < size ? 1 : 0;
            }
            Checks.due("marks of " + size, x.count(4), marked);
        }
    }

    /** A place is free for an end line by hand again as soon as it is not the first one. */
    private static void handAtTheFirst() {
        StopSetter x = Checks.words(Checks.told("go 0 kind 0 to 0 cost 1; end 0 cost 9 with stop;"), 1, 1);
        Checks.due("a stop for the second", x.hand(1, 4), true);
        Checks.due("a stop for the first", x.hand(0, 4), false);
        Checks.due("its cost", x.cost(), 20);
        x.drop();
        Checks.due("none for the second that went", x.hand(1, 4), false);
        Checks.due("one word", x.cost(), 10);
        Checks.due("0 for the first", x.hand(0, 0), true);
        Checks.due("a question leaves it so", x.hand(0, 5), false);
        Checks.due("one mark", x.count(4), 1);
        Checks.due("free", x.hand(0, -1), true);
        Checks.due("no mark", x.count(4), 0);
        Checks.due("free twice", x.hand(0, -1), true);
        Checks.due("still none", x.count(4), 0);
    }

    /** "Up to 24 signs come behind the TAPE: the bytes of a, b, c, of each the highest first" */
    private static void promise7() {
        for (int place = 0; place < 24; place++) {
            StopSetter x = new StopSetter();
            String text = " ".repeat(place) + "!" + " ".repeat(23 - place);
            long a = Checks.eight(text, 0);
            Checks.due("24 signs", x.feed(a, Checks.eight(text, 8), Checks.eight(text, 16)), 24);
            Checks.due("the place of byte " + place, x.grammar(), 1 + 16 * place);
            x.feed(0x2020202020202020L, 0x2020202020202020L, 0x2020202020202020L);
            x.feed(a, Checks.eight(text, 8), Checks.eight(text, 16));
            Checks.due("behind what is there", x.grammar(), 1 + 16 * (24 + place));
        }
        StopSetter y = new StopSetter();
        Checks.due("no sign at all", y.feed(0, 0, 0), 0);
        Checks.due("no sign at all", y.feed(-1, Long.MIN_VALUE, Long.MIN_VALUE >> 7), 0);
        Checks.due("one sign", y.feed(0x7F00000000000000L, 0, 0x80FF097E0B1F0DL), 1);
        Checks.due("others between are left out", y.feed(0x20002000200020FFL, 0x1F201F201F201F20L, 0x0A0B0C0A0D0E0A0FL), 12);
        Checks.due("in their order", y.grammar(), 1);
    }

    /** "what is beyond 1,600, are left out: how many there are" */
    private static void promise7Beyond() {
        for (int room = 0; room <= 25; room++) {
            StopSetter x = new StopSetter();
            Checks.feed(x, "\n".repeat(1600 - room));
            Checks.due("room of " + room, x.feed(0x2020202020202020L, 0x2020202020202020L, 0x2020202020202020L), Math.min(1600, 1624 - room));
            Checks.due("the count with room of " + room, x.count(3), Math.min(1600, 1624 - room));
        }
        StopSetter full = new StopSetter();
        Checks.feed(full, " ".repeat(1600));
        Checks.due("nothing more", full.feed(-1L, 0x2121212121212121L, 0), 1600);
        Checks.due("what is beyond is not read", full.grammar(), 0);
        Checks.due("there is room again", Checks.feed(full, "end"), 3);
    }

    /** "The TAPE is read as a GRAMMAR: 0, or its FAULT": the ROW, the names and the marks stay */
    private static void promise8() {
        StopSetter x = fullOfAll();
        String before = Checks.allOf(x);
        x.grammar();
        Checks.feed(x, LINES);
        Checks.due("the same lines again", x.grammar(), 0);
        Checks.feed(x, "go 0 kind");
        Checks.due("all is as it was", Checks.allOf(x), before);
        Checks.due("a fault", x.grammar(), 1 + 16 * 9);
        Checks.due("and the empty tape", x.grammar(), 0);
        Checks.due("no way then", x.cost() + x.settled(), -1);
        Checks.due("words and marks stay", x.count(0) * 10 + x.count(4), 42);
    }

    /** "NONE: there is none, no WORDS" of cost, second, last, sentences */
    private static void promises9And10And12And13() {
        StopSetter x = Checks.told("go 0 kind 0 to 1 cost 3; go 1 kind 0 to 0 cost 3; end 0 cost 4 with stop; end 0 cost 4 with colon;");
        for (int words = 0; words <= 60; words++) {
            boolean none = words == 0 || words % 2 == 1;
            Checks.due("cost of " + words, x.cost(), none ? -1 : 3 * words + 4);
            Checks.due("second of " + words, x.second(), none ? -1 : 3 * words + 4);
            Checks.due("last of " + words, x.last(), none ? -1 : 0);
            Checks.due("sentences of " + words, x.sentences(), none ? -1 : 1);
            x.word(1);
        }
        StopSetter y = Checks.words(Checks.told("go 0 kind 0 to 0 cost 1; end 0 cost 1 with colon;"), 1);
        Checks.due("one parting: cost", y.cost(), 2);
        Checks.due("one parting: second", y.second(), -1);
        Checks.due("one parting: last", y.last(), 0);
        y.drop();
        Checks.due("no words: all", y.cost() + y.second() + y.last() + y.sentences(), -4);
    }

    /** "How many sentences": each end line ends one, within and behind the last WORD */
    private static void promise13() {
        StopSetter x = Checks.told("go 0 kind 0 to 0 cost 0; end 0 cost 1 with stop; end 0 cost 1 with question; end 0 cost 1 with colon;");
        for (int i = 0; i < 60; i++) {
            x.word(1);
            x.hand(i, i == 0 ? -1 : 4 + i % 3);
            Checks.due("sentences of " + (i + 1), x.sentences(), i + 1);
        }
        x.hand(59, 0);
        Checks.due("one fewer", x.sentences(), 59);
    }

    /** "NoSuchElementException: no such WORD in the ROW, no PARTING" */
    private static void promise11Throws() {
        StopSetter x = Checks.told("go 0 kind 0 to 1 cost 3; go 1 kind 0 to 0 cost 3; end 0 cost 4 with stop;");
        for (int words = 0; words <= 4; words++) {
            for (int i : new int[] {MIN, -2, -1, 0, 1, 2, 3, 4, 5, 59, 60, MAX}) {
                for (int what = 0; what <= 6; what++) {
                    boolean there = words > 0 && words % 2 == 0 && i >= 0 && i < words;
                    boolean threw = Checks.look(x, i, what) == Checks.THROWS;
                    Checks.due("look(" + i + ", " + what + ") of " + words + " throws", threw, !there);
                }
            }
            int now = words + 1;
            x = Checks.told("go 0 kind 0 to 1 cost 3; go 1 kind 0 to 0 cost 3; end 0 cost 4 with stop;");
            for (int i = 0; i < now; i++) {
                x.word(1);
            }
        }
    }

    /** Every what of look, at the least and the greatest that it can be. */
    private static void promise11Whats() {
        String text = "go0kind0to9cost0with open;" + "go9kind7to9cost0;".repeat(38) + "go9kind1to9cost0with close;"
            + "end9cost0with stop;" + "end8cost0with stop;".repeat(8) + "end9cost0with colon;";
        StopSetter x = Checks.told(text);
        x.kinds(2, 2);
        Checks.words(x, 1, 2, 1, 2);
        String[] due = {"-1 -1 0 -1", "0 39 0 39", "0 0 4 0", "2 3 2 3", "1 0 1 0", "9 9 9 9", "1 0 1 0"};
        for (int what = 0; what <= 6; what++) {
            Checks.due("what " + what, Checks.looks(x, what), due[what]);
        }
        x.hand(2, 6);
        String[] byHand = {"-1 -1 9 -1", "0 39 0 39", "0 0 6 0", "2 3 2 3", "1 0 1 0", "9 9 9 9", "1 0 1 0"};
        for (int what = 0; what <= 6; what++) {
            Checks.due("what " + what + " by hand", Checks.looks(x, what), byHand[what]);
        }
        for (int what : new int[] {MIN, -2, -1, 7, 8, MAX}) {
            Checks.due("another what " + what, Checks.look(x, 0, what), -1);
        }
    }

    /** "Of a go line, what 0: from, 1: kind, 2: to, 3: cost, 4: MARK (0 .. 3); NONE: none such" */
    private static void promise15() {
        StopSetter x = Checks.told("go 9 kind 7 to 8 cost 999 with close;" + "go0kind0to0cost0;".repeat(38) + "go1kind2to3cost4with comma;end 0 cost 0 with stop;");
        int[] first = {9, 7, 8, 999, 3};
        int[] lastLine = {1, 2, 3, 4, 1};
        for (int what : new int[] {MIN, -2, -1, 0, 1, 2, 3, 4, 5, 6, MAX}) {
            boolean known = what >= 0 && what <= 4;
            Checks.due("go(0, " + what + ")", x.go(0, what), known ? first[what] : -1);
            Checks.due("go(1, " + what + ")", x.go(1, what), known ? 0 : -1);
            Checks.due("go(38, " + what + ")", x.go(38, what), known ? 0 : -1);
            Checks.due("go(39, " + what + ")", x.go(39, what), known ? lastLine[what] : -1);
            for (int line : new int[] {MIN, -2, -1, 40, 41, MAX}) {
                Checks.due("go(" + line + ", " + what + ")", x.go(line, what), -1);
            }
        }
        Checks.tell(x, "go 4 kind 4 to 4 cost 4;");
        Checks.due("a line that is no more", x.go(1, 0), -1);
        Checks.due("the one that is", x.go(0, 0), 4);
    }

    /** "What 0: WORDS in the ROW, 1: go lines, 2: end lines, 3: signs on the TAPE, 4: MARKS set by hand. NONE for another what." */
    private static void promise16() {
        StopSetter x = Checks.told("go0kind0to0cost0;".repeat(40) + "end0cost0with stop;".repeat(10));
        for (int i = 0; i < 60; i++) {
            x.word(1);
            x.hand(i, i % 4);
        }
        Checks.feed(x, " ".repeat(1600));
        int[] full = {60, 40, 10, 1600, 60};
        for (int what : new int[] {MIN, -2, -1, 0, 1, 2, 3, 4, 5, 6, MAX}) {
            Checks.due("count(" + what + ")", x.count(what), what >= 0 && what <= 4 ? full[what] : -1);
        }
        x.hand(59, -1);
        Checks.due("one mark fewer", x.count(4), 59);
        x.hand(58, 6);
        Checks.due("another mark for one that has one", x.count(4), 59);
    }

    private static void refuse(StopSetter x, int which) {
        switch (which) {
            case 0: x.kinds(0, 1); break;
            case 1: x.kinds(100, 1); break;
            case 2: x.kinds(2, 0); break;
            case 3: x.kinds(2, 256); break;
            case 4: x.name(0, true); break;
            case 5: x.name(100, true); break;
            case 6: x.word(0); break;
            case 7: x.word(100); break;
            case 8: x.hand(-1, 0); break;
            case 9: x.hand(4, 0); break;
            case 10: x.hand(1, -2); break;
            case 11: x.hand(1, 7); break;
            case 12: x.hand(0, 4); break;
            case 13: x.feed(0, -1, 0x7F7F7F7F7F7F7F7FL); break;
            case 14: Checks.look(x, 4, 0); break;
            case 15: Checks.look(x, 0, 7); break;
            case 16: x.go(5, 0); break;
            default: x.count(5);
        }
    }

    /** A refused call changes nothing, nor does one that only asks. */
    private static void refusedCallsChangeNothing() {
        for (int which = 0; which <= 17; which++) {
            StopSetter x = fullOfAll();
            String before = Checks.allOf(x);
            refuse(x, which);
            Checks.due("all behind refused call " + which, Checks.allOf(x), before);
            Checks.due("and asked again", Checks.allOf(x), before);
        }
    }

    /** "An object is used for at most 512 calls after it has been made" */
    private static void all512CallsAnswer() {
        StopSetter x = new StopSetter();
        String text = "go0kind0to0cost1;go0kind0to0cost5with comma;end0cost7with stop; ";
        int calls = 0;
        for (; calls < 3; calls++) {
            int at = calls * 24;
            x.feed(Checks.eight(text, at), Checks.eight(text, at + 8), Checks.eight(text, at + 16));
        }
        Checks.due("grammar", x.grammar(), 0);
        calls++;
        for (; calls < 64; calls++) {
            Checks.due("word in call " + (calls + 1), x.word(calls), calls - 3);
        }
        int commas = 0;
        for (; calls < 512; calls += 2) {
            int i = calls / 2 % 60;
            boolean set = calls / 2 / 60 % 2 == 0;
            Checks.due("hand in call " + (calls + 1), x.hand(i, set ? 1 : 0), true);
            commas = 0;
            for (int k = 0; k < 60; k++) {
                commas += lastMarkIsComma(k, calls) ? 1 : 0;
            }
            Checks.due("cost in call " + (calls + 2), x.cost(), 60 + 4 * commas + 7);
        }
        Checks.due("calls", calls, 512);
    }

    /** Whether the last of the marks that all512CallsAnswer has set for a word up to a call is a comma. */
    private static boolean lastMarkIsComma(int word, int upTo) {
        boolean comma = false;
        for (int call = 64; call <= upTo; call += 2) {
            if (call / 2 % 60 == word) {
                comma = call / 2 / 60 % 2 == 0;
            }
        }
        return comma;
    }

    public static void main(String[] args) {
        promise1();
        objectsAreTheirOwn();
        promise2();
        kindsOfWordsInTheRow();
        promise3();
        promise4();
        aWordComesBehind();
        promise5();
        promise6();
        handAtTheFirst();
        promise7();
        promise7Beyond();
        promise8();
        promises9And10And12And13();
        promise13();
        promise11Throws();
        promise11Whats();
        promise15();
        promise16();
        refusedCallsChangeNothing();
        all512CallsAnswer();
        System.exit(Checks.exitCode());
    }
}
