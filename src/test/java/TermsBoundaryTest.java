/**
 * The boundary cases that the document's section "Terms" names of the WORDS, the ROW, the TAPE, the
 * TOKENS, the GRAMMAR and its FAULTS; each method has the sentence that it is of above it.
 */
public final class TermsBoundaryTest {
    private static final int[] WORDS = {1, 2, 98, 99};
    private static final int[] NO_WORDS = {
        0, 100, -1, -99, 101, 128, 255, 256, 257, 355, 65537, Integer.MIN_VALUE, Integer.MIN_VALUE + 1, Integer.MAX_VALUE};
    private static final String GO = "go0kind0to0cost0;";
    private static final String END = "end0cost0with stop;";
    private static final String[] GO_TOKENS = {"go", "3", "kind", "4", "to", "5", "cost", "67", "with", "open", ";"};
    private static final String[] END_TOKENS = {"end", "8", "cost", "91", "with", "colon", ";"};

    // WORDS

    /** "WORDS are 1 to 99" */
    private static void wordsAre1To99() {
        StopSetter x = new StopSetter();
        for (int w : WORDS) {
            Checks.due("kinds(" + w + ", 1)", x.kinds(w, 1), true);
            Checks.due("name(" + w + ", true)", x.name(w, true), true);
            Checks.words(x, w);
        }
        for (int w : NO_WORDS) {
            Checks.due("kinds(" + w + ", 1)", x.kinds(w, 1), false);
            Checks.due("name(" + w + ", true)", x.name(w, true), false);
            Checks.due("name(" + w + ", false)", x.name(w, false), false);
            Checks.due("word(" + w + ")", x.word(w), -1);
        }
        Checks.due("words that came", x.count(0), WORDS.length);
    }

    /** "kind 0 alone at first" */
    private static void kindZeroAloneAtFirst() {
        for (int kind = 0; kind <= 7; kind++) {
            StopSetter x = Checks.told("go 0 kind " + kind + " to 0 cost 5; end 0 cost 0 with stop;");
            for (int w = 1; w <= 99; w++) {
                x.word(w);
                Checks.due("word " + w + " by kind " + kind, x.cost(), kind == 0 ? 5 : -1);
                x.drop();
            }
        }
    }

    /** "a set of kinds (0 .. 7, as bits)" */
    private static void kindsAreBits() {
        StringBuilder text = new StringBuilder();
        for (int kind = 0; kind <= 7; kind++) {
            text.append("go 0 kind " + kind + " to 0 cost " + (1 << kind) + ";");
        }
        StopSetter x = new StopSetter();
        for (int set = 1; set <= 255; set++) {
            if (set % 100 == 1) {
                x = Checks.words(Checks.told(text + "end 0 cost 0 with stop;"), 99);
            }
            int rest = set & set - 1;
            Checks.due("kinds(99, " + set + ")", x.kinds(99, set), true);
            Checks.due("the cheapest kind of " + set, x.cost(), set & -set);
            Checks.due("the next kind of " + set, x.second(), rest == 0 ? -1 : rest & -rest);
        }
    }

    /** "and is a NAME or not" */
    private static void noNameAtFirst() {
        StopSetter x = new StopSetter();
        for (int w = 1; w <= 99; w++) {
            if (w % 30 == 1) {
                x = Checks.words(Checks.told(GO + END), 50);
            }
            x.word(w);
            Checks.due("word " + w + " at first", Checks.look(x, 1, 4), 0);
            x.name(w, true);
            Checks.due("word " + w + " as a name", Checks.look(x, 1, 4), 1);
            x.drop();
            x.word(w == 99 ? 1 : w + 1);
            Checks.due("the word next to " + w, Checks.look(x, 1, 4), 0);
            x.drop();
            x.name(w, false);
            x.word(w);
            Checks.due("word " + w + " as none", Checks.look(x, 1, 4), 0);
            x.drop();
        }
    }

    // THE ROW

    /** "THE ROW has 60 WORDS at most" */
    private static void rowHas60WordsAtMost() {
        StopSetter x = Checks.told("go 0 kind 0 to 0 cost 1; go 0 kind 1 to 0 cost 100; end 0 cost 0 with stop;");
        x.kinds(2, 2);
        for (int i = 1; i <= 60; i++) {
            Checks.due("word " + i, x.word(1), i);
            Checks.due("count(0) behind word " + i, x.count(0), i);
        }
        Checks.due("cost of 60", x.cost(), 60);
        Checks.due("the 61st", x.word(2), -1);
        Checks.due("the 62nd", x.word(1), -1);
        Checks.due("count(0) behind a refused word", x.count(0), 60);
        Checks.due("cost behind a refused word", x.cost(), 60);
        Checks.due("drop", x.drop(), 59);
        Checks.due("cost of 59", x.cost(), 59);
        Checks.due("the 60th again", x.word(2), 60);
        Checks.due("cost of another 60", x.cost(), 159);
        Checks.due("the 61st again", x.word(1), -1);
    }

    /** "numbered from 0" */
    private static void rowIsNumberedFrom0() {
        StopSetter x = Checks.told(GO + "go0kind1to1cost0;go1kind0to0cost0;" + END + "end1cost0with stop;");
        x.kinds(2, 2);
        Checks.words(x, 2, 1);
        Checks.due("states behind words", Checks.looks(x, 5), "1 0");
        for (int i = 2; i < 60; i++) {
            x.word(1);
        }
        Checks.due("hand(0)", x.hand(0, 0), true);
        Checks.due("hand(59)", x.hand(59, 0), true);
        Checks.due("hand(60)", x.hand(60, 0), false);
        Checks.due("hand(-1)", x.hand(-1, 0), false);
        Checks.due("look(0)", Checks.look(x, 0, 1), 1);
        Checks.due("look(59)", Checks.look(x, 59, 1), 0);
        Checks.due("look(60)", Checks.look(x, 60, 1), Checks.THROWS);
        Checks.due("look(-1)", Checks.look(x, -1, 1), Checks.THROWS);
    }

    // THE TAPE

    private static String endLineAtTheEndOf(int length) {
        String line = "end 0 cost 0 with stop;";
        return " ".repeat(length - line.length()) + line;
    }

    /** "The TAPE has at most 1,600 signs" */
    private static void tapeHas1600SignsAtMost() {
        for (int length = 1598; length <= 1630; length++) {
            StopSetter x = new StopSetter();
            Checks.due("signs of " + length, Checks.feed(x, endLineAtTheEndOf(length)), Math.min(length, 1600));
            Checks.due("count(3) of " + length, x.count(3), Math.min(length, 1600));
            Checks.due("more behind " + length, Checks.feed(x, " "), Math.min(length + 1, 1600));
            if (length <= 1601) {
                boolean whole = length <= 1600;
                Checks.due("grammar of " + length, x.grammar(), whole ? 0 : 1 + 16 * 1600);
                Checks.due("lines of " + length, x.count(2), whole ? 1 : 0);
            }
        }
        StopSetter y = new StopSetter();
        Checks.feed(y, " ".repeat(1599));
        Checks.due("signs that are none take no room", y.feed(0x0102030405060708L, 0x7F80FF00000000L, ';'), 1600);
        Checks.due("the 1,600th is there", y.grammar(), 1 + 16 * 1599);
    }

    /** "10 and 32 .. 126" */
    private static void signsAre10And32To126() {
        for (int sign = 0; sign <= 255; sign++) {
            boolean known = sign == 10 || sign >= 32 && sign <= 126;
            StopSetter x = new StopSetter();
            for (int at = 0; at < 24; at++) {
                long bytes = (long) sign << 56 - at % 8 * 8;
                int length = x.feed(at < 8 ? bytes : 0, at >= 8 && at < 16 ? bytes : 0, at >= 16 ? bytes : 0);
                Checks.due("sign " + sign + " as byte " + at, length, known ? at + 1 : 0);
            }
        }
    }

    /** "what reads it takes it: it is empty then" */
    private static void readingTakesTheTape() {
        StopSetter x = new StopSetter();
        Checks.due("a grammar", Checks.tell(x, GO + END), 0);
        Checks.due("taken", x.count(3), 0);
        Checks.due("a fault", Checks.tell(x, "what " + GO), 1);
        Checks.due("taken with a fault", x.count(3), 0);
        Checks.due("the first line stays", x.count(1), 1);
        Checks.due("nothing came back", Checks.feed(x, "end"), 3);
        Checks.due("the fault of what came", x.grammar(), 1 + 16 * 3);
        Checks.due("the empty tape", x.grammar(), 0);
        Checks.due("is a grammar without lines", x.count(1) + x.count(2), 0);
    }

    // TOKENS

    /** A go line in which a sign stands right behind the word go and right ahead of a 0. */
    private static int faultOfSignBehindGo(char sign) {
        if (sign >= 'a' && sign <= 'z') {
            return 1;
        }
        if (sign >= '1' && sign <= '9') {
            return 4 + 16 * 2;
        }
        return sign == ' ' || sign == 10 || sign == '0' ? 0 : 1 + 16 * 2;
    }

    /** "TOKENS: LETTERED ones (a .. z ..), NUMBERS (.. digits ..), the semicolon. All else is none." */
    private static void everySignOfATape() {
        for (char sign = 10; sign <= 126; sign = sign == 10 ? 32 : (char) (sign + 1)) {
            StopSetter x = new StopSetter();
            String text = "go" + sign + "0kind0to0cost0;";
            Checks.due("grammar of " + text, Checks.tell(x, text), faultOfSignBehindGo(sign));
            boolean blank = sign == 10 || sign == 32;
            boolean digit = sign >= '0' && sign <= '9';
            Checks.due("sign " + (int) sign + " alone", Checks.tell(x, "" + sign), blank ? 0 : 1);
            String number = "go0kind0to0cost " + sign + ";";
            Checks.due("grammar of " + number, Checks.tell(x, number), digit ? 0 : 1 + 16 * (blank ? 17 : 16));
            Checks.due("the number of " + number, x.go(0, 3), digit ? sign - '0' : -1);
        }
    }

    /** "each as long as can be" */
    private static void tokensAreAsLongAsCanBe() {
        fault("gogo0", 1, 0);
        fault("goend 0", 1, 0);
        fault("end0cost0withstop;", 1, 9);
        fault("end0cost0with stopend", 1, 14);
        fault("go0kind0to0cost0withopen;", 1, 16);
        fault("go01kind10to0cost0;", 4, 8);
        fault("go1 0kind0to0cost0;", 1, 4);
        fault("go0kind0to0cost99 9;", 1, 18);
        fault("g o0kind0to0cost0;", 1, 0);
        fault("end0cost0with sto\np;", 1, 14);
    }

    /** "blanks (10, 32) between where one likes" */
    private static void blanksWhereOneLikes() {
        String[] blanks = {"", " ", "\n", "  ", "\n\n", " \n ", "\n \n", " ".repeat(30)};
        for (String blank : blanks) {
            for (int gap = 0; gap <= GO_TOKENS.length; gap++) {
                // Only between two lettered tokens must there be a blank.
                boolean needed = gap == 9;
                String text = join(GO_TOKENS, gap, blank);
                StopSetter x = new StopSetter();
                Checks.due("grammar of " + text, Checks.tell(x, text), needed && blank.isEmpty() ? 1 + 16 * 17 : 0);
            }
        }
        Checks.due("blanks alone", Checks.tell(new StopSetter(), " \n\n  "), 0);
        Checks.due("1,600 blanks", Checks.tell(new StopSetter(), " \n".repeat(800)), 0);
    }

    /** The tokens in a row: a blank of one's liking ahead of one, needed ones elsewhere. */
    private static String join(String[] tokens, int gap, String blank) {
        StringBuilder text = new StringBuilder();
        for (int i = 0; i < tokens.length; i++) {
            text.append(i == gap ? blank : i > 0 && tokens[i - 1].equals("with") ? " " : "").append(tokens[i]);
        }
        return text.append(gap == tokens.length ? blank : "").toString();
    }

    /** "LETTERED ones (a .. z, 1 to 8)" and "a longer one, too, at its first sign" */
    private static void lettersAre1To8() {
        for (int letters = 1; letters <= 40; letters++) {
            fault(" " + "z".repeat(letters), 1, 1);
            fault("end 0 cost 0 with " + "a".repeat(letters) + ";", 1, 18);
        }
        fine("end 0 cost 0 with question;", 0, 1);
        fault("end 0 cost 0 with questio;", 1, 18);
        fault("end 0 cost 0 with questions;", 1, 18);
        fault("end 0 cost 0 with questionquestion;", 1, 18);
        fault("end 0 cost 0 with qquestion;", 1, 18);
    }

    /** "NUMBERS (1 to 4 digits; a letter may stand right behind)" and "a longer one, too, at its first sign" */
    private static void digitsAre1To4() {
        int[] placesOfGo = {2, 7, 10, 15};
        String[] starts = {"go", "kind", "to", "cost"};
        for (int slot = 0; slot < starts.length; slot++) {
            for (int digits = 1; digits <= 4; digits++) {
                fine(GO.replace(starts[slot] + "0", starts[slot] + "0".repeat(digits)), 1, 0);
            }
            for (int digits = 5; digits <= 20; digits++) {
                fault(GO.replace(starts[slot] + "0", starts[slot] + "0".repeat(digits)), 1, placesOfGo[slot]);
            }
            fault(GO.replace(starts[slot] + "0", starts[slot] + "9999"), 4, placesOfGo[slot]);
            fault(GO.replace(starts[slot] + "0", starts[slot] + "10000"), 1, placesOfGo[slot]);
        }
        for (int digits = 1; digits <= 6; digits++) {
            String zeros = "0".repeat(digits);
            String text = "end" + zeros + "cost" + zeros + "with stop;";
            Checks.due("grammar of " + text, Checks.tell(new StopSetter(), text), digits <= 4 ? 0 : 1 + 16 * 3);
        }
        fine("go 0000kind 0007to 0009cost 0999with comma;", 1, 0);
        fault("go 00000kind 0 to 0 cost 0;", 1, 3);
        fault("go 0x", 1, 4);
        fault("go 0go", 1, 4);
    }

    // GRAMMAR

    private static void fault(String text, int kind, int place) {
        StopSetter x = Checks.words(Checks.told(GO + "go1kind2to3cost4with open;" + END + "end5cost6with colon;"), 1);
        String before = Checks.allOf(x);
        Checks.due("fault of " + text, Checks.tell(x, text), kind + 16 * place);
        Checks.due("all behind the fault of " + text, Checks.allOf(x), before);
    }

    private static void fine(String text, int gos, int ends) {
        StopSetter x = Checks.told("go 1 kind 2 to 3 cost 4 with open; end 5 cost 6 with colon;");
        Checks.due("grammar of " + text, Checks.tell(x, text), 0);
        Checks.due("go lines of " + text, x.count(1), gos);
        Checks.due("end lines of " + text, x.count(2), ends);
    }

    /** "GRAMMAR: any number of", "At most 40 go, 10 end lines" */
    private static void anyNumberOfLines() {
        for (int gos = 0; gos <= 40; gos++) {
            fine(GO.repeat(gos), gos, 0);
        }
        for (int ends = 0; ends <= 10; ends++) {
            fine(END.repeat(ends), 0, ends);
            fine(GO.repeat(40) + END.repeat(ends), 40, ends);
            fine(END.repeat(ends) + GO.repeat(40), 40, ends);
        }
        fine((GO.repeat(4) + END).repeat(10), 40, 10);
        fine((GO + END).repeat(10) + GO.repeat(30), 40, 10);
    }

    /** "S is 0 to 9, K 0 to 7, N 0 to 999" and "4 a NUMBER that is not as told" */
    private static void numbersAsTold() {
        String[] forms = {"go#kind0to0cost0;", "go0kind#to0cost0;", "go0kind0to#cost0;", "go0kind0to0cost#;",
            "end#cost0with stop;", "end0cost#with stop;"};
        int[] tops = {9, 7, 9, 999, 9, 999};
        for (int form = 0; form < forms.length; form++) {
            StopSetter x = new StopSetter();
            for (int number = 0; number <= 9999; number++) {
                x = number % 100 == 0 ? new StopSetter() : x;
                String text = forms[form].replace("#", String.valueOf(number));
                int fault = number <= tops[form] ? 0 : 4 + 16 * forms[form].indexOf('#');
                Checks.due("grammar of " + text, Checks.tell(x, text), fault);
                if (form < 4 && fault == 0) {
                    Checks.due("the number of " + text, x.go(0, form), number);
                }
            }
        }
    }

    /** The numbers of an end line are read to its last digit. */
    private static void numbersOfEndLines() {
        for (int price = 0; price <= 999; price++) {
            StopSetter x = Checks.told("go0kind0to0cost0;end0cost" + price + "with stop;");
            Checks.due("an end line's cost " + price, Checks.words(x, 1).cost(), price);
        }
        for (int state = 0; state <= 9; state++) {
            StopSetter x = Checks.told("go0kind0to" + state + "cost0;end" + state + "cost5with stop;");
            Checks.due("an end line's state " + state, Checks.words(x, 1).cost(), 5);
            Checks.tell(x, "go0kind0to" + state + "cost0;end" + (state + 1) % 10 + "cost5with stop;");
            Checks.due("another state than " + state, x.cost(), -1);
        }
    }

    /** "[ with comma or with open or with close ]", "What stands in [ ] may be left out" */
    private static void whatMayBeLeftOut() {
        String start = "go 0 kind 0 to 0 cost 0";
        String[] marks = {"", " with comma", " with open", " with close"};
        for (int mark = 0; mark < marks.length; mark++) {
            StopSetter x = Checks.told(start + marks[mark] + ";");
            Checks.due("mark of" + marks[mark], x.go(0, 4), mark);
        }
        fault(start + " with;", 1, 28);
        fault(start + " with", 1, 28);
        fault(start + " comma;", 1, 24);
        fault(start + " with comma comma;", 1, 35);
        fault(start + " with comma with open;", 1, 35);
        fault(start + " with with comma;", 1, 29);
        fault(start + " with stop;", 1, 29);
        fault(start + " with question;", 1, 29);
        fault(start + " with colon;", 1, 29);
        fault(start + " or with comma;", 1, 24);
    }

    /** "MARK: stop, question, colon"; it may not be left out */
    private static void marksOfEndLines() {
        String[] marks = {"stop", "question", "colon"};
        for (int mark = 0; mark < marks.length; mark++) {
            StopSetter x = Checks.told(GO + "end 0 cost 0 with " + marks[mark] + ";");
            Checks.words(x, 1, 1).hand(1, 4 + mark);
            Checks.due("the mark " + marks[mark], Checks.look(x, 1, 2), 4 + mark);
        }
        fault("end 0 cost 0;", 1, 12);
        fault("end 0 cost 0 with;", 1, 17);
        fault("end 0 cost 0 stop;", 1, 13);
        fault("end 0 cost 0 with comma;", 1, 18);
        fault("end 0 cost 0 with open;", 1, 18);
        fault("end 0 cost 0 with close;", 1, 18);
        fault("end 0 cost 0 with stop with stop;", 1, 23);
        fault("end 0 kind 0 cost 0 with stop;", 1, 6);
        fault("end 0 to 0 cost 0 with stop;", 1, 6);
    }

    /** "each sort numbered from 0" */
    private static void eachSortNumberedFrom0() {
        StringBuilder text = new StringBuilder();
        for (int line = 0; line < 40; line++) {
            text.append("go0kind0to0cost" + (500 - line) + ";");
            text.append(line % 4 == 3 ? "end0cost" + (100 - line / 4) + "with stop;" : "");
        }
        StopSetter x = Checks.words(Checks.told(text.toString()), 1);
        for (int line = 0; line < 40; line++) {
            Checks.due("cost of go line " + line, x.go(line, 3), 500 - line);
        }
        Checks.due("go(40, 3)", x.go(40, 3), -1);
        Checks.due("go(-1, 3)", x.go(-1, 3), -1);
        Checks.due("the cheapest is the last of each sort", Checks.parting(x), "-/39 9");
        Checks.due("its cost", x.cost(), 461 + 91);
        StopSetter y = Checks.words(Checks.told(END + GO + "end0cost1with stop;go0kind0to0cost1;"), 1);
        Checks.due("the cheapest is the first of each sort", Checks.parting(y), "-/0 0");
    }

    // FAULTS

    private static int lengthOf(String[] tokens, int from, int to) {
        int length = 0;
        for (int i = from; i < to; i++) {
            length += tokens[i].length() + 1;
        }
        return length;
    }

    private static String replaced(String[] tokens, int at, String other) {
        StringBuilder text = new StringBuilder();
        for (int i = 0; i < tokens.length; i++) {
            text.append(i == at ? other : tokens[i]).append(' ');
        }
        return text.toString();
    }

    /** "the end being one at the text's length" */
    private static void theEndIsATokenAtTheTextsLength() {
        for (String[] tokens : new String[][] {GO_TOKENS, END_TOKENS}) {
            for (int count = 1; count < tokens.length; count++) {
                String text = String.join(" ", tokens).substring(0, lengthOf(tokens, 0, count) - 1);
                for (String blank : new String[] {"", " ", "\n", "  \n  "}) {
                    fault(text + blank, 1, text.length() + blank.length());
                }
            }
        }
        fault("go0kind0to0cost0with", 1, 20);
        fine("", 0, 0);
        fine(GO, 1, 0);
        fine(GO + " \n", 1, 0);
    }

    /** "1 it is none, or can't stand there" */
    private static void whatCannotStandThere() {
        String[] others = {"go", "end", "kind", "to", "cost", "with", "comma", "open", "close", "stop", "question",
            "colon", ";", "x", "aaaaaaaa", "aaaaaaaaa", "10000", "123456", "A", "GO", "-", "-1", ":", ".", "~", "!", "{", "`", "/"};
        for (String[] tokens : new String[][] {GO_TOKENS, END_TOKENS}) {
            for (int at = 0; at < tokens.length; at++) {
                for (String other : others) {
                    if (!canStand(tokens, at, other)) {
                        fault(replaced(tokens, at, other), 1, lengthOf(tokens, 0, at));
                    }
                }
                if (!Character.isDigit(tokens[at].charAt(0))) {
                    fault(replaced(tokens, at, "0"), 1, lengthOf(tokens, 0, at));
                    fault(replaced(tokens, at, "1000"), 1, lengthOf(tokens, 0, at));
                }
            }
        }
        fault(GO + ";", 1, GO.length());
        fault(";", 1, 0);
        fault("0" + GO, 1, 0);
    }

    private static boolean canStand(String[] tokens, int at, String other) {
        boolean start = at == 0 && (other.equals("go") || other.equals("end"));
        boolean goMark = tokens[at].equals("open") && (other.equals("comma") || other.equals("close"));
        boolean endMark = tokens[at].equals("colon") && (other.equals("stop") || other.equals("question"));
        boolean leftOut = tokens == GO_TOKENS && tokens[at].equals("with") && other.equals(";");
        return start || goMark || endMark || leftOut || tokens[at].equals(other);
    }

    /** "5 the word go of the 41st, end of the 11th" */
    private static void tooManyLines() {
        String gos = GO.repeat(40);
        String ends = END.repeat(10);
        fault(gos + "go", 5, gos.length());
        fault(gos + GO, 5, gos.length());
        fault(gos + " \n go 10", 5, gos.length() + 3);
        fault(gos + ends + "go", 5, gos.length() + ends.length());
        fault(gos + END + "go", 5, gos.length() + END.length());
        fault(ends + "end", 5, ends.length());
        fault(ends + END, 5, ends.length());
        fault(ends + " end 10", 5, ends.length() + 1);
        fault(gos + ends + "end", 5, gos.length() + ends.length());
        fault(ends + GO + "end", 5, ends.length() + GO.length());
        fault(gos + "gone", 1, gos.length());
        fault(gos + "kind", 1, gos.length());
        fault(ends + "ends", 1, ends.length());
        fault(gos + "end 10", 4, gos.length() + 4);
        fault(ends + "go 10", 4, ends.length() + 3);
        // The 40th and the 10th may still be wrong in themselves.
        fault(GO.repeat(39) + "go 10", 4, 39 * GO.length() + 3);
        fault(END.repeat(9) + "end 10", 4, 9 * END.length() + 4);
        fault(GO.repeat(39) + "go", 1, 39 * GO.length() + 2);
        // A word go or end that can't stand there is no further line's.
        fault(gos + "end 0 go", 1, gos.length() + 6);
        fault(ends + "go 0 end", 1, ends.length() + 5);
    }

    /** "of the first token from the left that is wrong the least" */
    private static void theFirstFaultAndItsLeastKind() {
        fault("go 10 kind 8 to 10 cost 1000;", 4, 3);
        fault("go 9 kind 8 to 10 cost 1000;", 4, 10);
        fault("go 9 kind 7 to 10 cost 1000;", 4, 15);
        fault("go 9 kind 7 to 9 cost 1000 with what", 4, 22);
        fault("go 9 kind 7 to 9 cost 999 with what", 1, 31);
        fault("go 9 what 8", 1, 5);
        fault("go 9 1000", 1, 5);
        fault("go 9 kind 10000", 1, 10);
        fault("1000", 1, 0);
        fault("what go 10", 1, 0);
        fault("end 0 cost 1000 what", 4, 11);
        fault("end 10 cost 1000", 4, 4);
        fault(GO + "go 10 kind; what", 4, GO.length() + 3);
    }

    /** "16 * the place (from 0) of a token" */
    private static void placesFrom0To1600() {
        for (int place : new int[] {0, 1, 2, 15, 16, 17, 23, 24, 25, 255, 256, 1023, 1024, 1598, 1599}) {
            fault(" ".repeat(place) + ";", 1, place);
            fault(" ".repeat(place) + "!", 1, place);
        }
        fault("end 0" + " ".repeat(1595), 1, 1600);
        fault("end 0" + " ".repeat(1594) + "cost", 1, 1599);
        fault("end 0 cost" + " ".repeat(1586) + "1000", 4, 1596);
        String gos = GO.repeat(40);
        fault(gos + " ".repeat(1598 - gos.length()) + "go", 5, 1598);
        // Of the word go its first sign alone fits on the tape.
        fault(gos + " ".repeat(1599 - gos.length()) + "go", 1, 1599);
    }

    /** "A GRAMMAR without a FAULT takes the place of the one there was" */
    private static void aGrammarTakesThePlace() {
        StopSetter x = Checks.words(Checks.told(GO.repeat(40) + END.repeat(10)), 1, 1);
        Checks.due("the cost by 50 lines", x.cost(), 0);
        Checks.due("one line", Checks.tell(x, "go0kind0to0cost7;end0cost2with colon;"), 0);
        Checks.due("go lines", x.count(1), 1);
        Checks.due("end lines", x.count(2), 1);
        Checks.due("go(0, 3)", x.go(0, 3), 7);
        Checks.due("go(1, 3)", x.go(1, 3), -1);
        Checks.due("the cost by two lines", x.cost(), 16);
        Checks.due("end lines alone", Checks.tell(x, END), 0);
        Checks.due("no go line", x.count(1), 0);
        Checks.due("no way", x.cost(), -1);
        Checks.due("a fault in the last line", Checks.tell(x, GO + END + "go"), 1 + 16 * 38);
        Checks.due("no line of it came", x.count(1) * 10 + x.count(2), 1);
        Checks.due("40 and 10 again", Checks.tell(x, GO.repeat(40) + END.repeat(10)), 0);
        Checks.due("the cost again", x.cost(), 0);
        Checks.due("words stay", x.count(0), 2);
        Checks.due("none at all", x.grammar(), 0);
        Checks.due("lines gone", x.count(1) + x.count(2), 0);
        Checks.due("no way again", x.cost(), -1);
    }

    public static void main(String[] args) {
        wordsAre1To99();
        kindZeroAloneAtFirst();
        kindsAreBits();
        noNameAtFirst();
        rowHas60WordsAtMost();
        rowIsNumberedFrom0();
        tapeHas1600SignsAtMost();
        signsAre10And32To126();
        readingTakesTheTape();
        everySignOfATape();
        tokensAreAsLongAsCanBe();
        blanksWhereOneLikes();
        lettersAre1To8();
        digitsAre1To4();
        anyNumberOfLines();
        numbersAsTold();
        numbersOfEndLines();
        whatMayBeLeftOut();
        marksOfEndLines();
        eachSortNumberedFrom0();
        theEndIsATokenAtTheTextsLength();
        whatCannotStandThere();
        tooManyLines();
        theFirstFaultAndItsLeastKind();
        placesFrom0To1600();
        aGrammarTakesThePlace();
        System.exit(Checks.exitCode());
    }
}
