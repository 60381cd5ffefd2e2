import java.util.ArrayList;
import java.util.List;
import java.util.NoSuchElementException;
import java.util.regex.Matcher;
import java.util.regex.Pattern;

/** Random tapes against a reader made of patterns, and random calls that no machine's exception may leave. */
public final class ReaderTest {
    private static final Pattern TOKEN = Pattern.compile("[ \\n]*([a-z]+|[0-9]+|[^ \\n]|$)");
    private static final String GO_FORM = "go S kind K to S cost N";
    private static final String END_FORM = "end S cost N with M ;";
    private static final String[] PIECES = {
        "go", "end", "kind", "to", "cost", "with", "comma", "open", "close", "stop", "question", "colon", ";",
        "0", "7", "8", "9", "10", "999", "1000", "0009", "00000", "12345", "x", "goo", "questions", "A", ":", "-", "\n", " "};
    private static long seed = 4711;

    private static int pick(int bound) {
        seed = seed * 6364136223846793005L + 1442695040888963407L;
        return (int) ((seed >>> 33) % bound);
    }

    private static final class Told {
        int fault;
        final List<int[]> gos = new ArrayList<>();
        int ends;
    }

    private static Told read(String text) {
        List<String> tokens = new ArrayList<>();
        List<Integer> places = new ArrayList<>();
        Matcher matcher = TOKEN.matcher(text);
        do {
            matcher.lookingAt();
            tokens.add(matcher.group(1));
            places.add(matcher.start(1));
            matcher.region(matcher.end(), text.length());
        } while (!tokens.get(tokens.size() - 1).isEmpty());
        Told told = new Told();
        int at = 0;
        while (told.fault == 0 && !tokens.get(at).isEmpty()) {
            at = readLine(tokens, places, at, told);
        }
        return told;
    }

    private static int readLine(List<String> tokens, List<Integer> places, int start, Told told) {
        boolean go = tokens.get(start).equals("go");
        List<Integer> values = new ArrayList<>();
        String form = go ? GO_FORM : END_FORM;
        int at = start;
        if (go ? told.gos.size() == 40 : tokens.get(start).equals("end") && told.ends == 10) {
            told.fault = 5 + 16 * places.get(at);
            return at;
        }
        int mark = 0;
        List<String> slots = new ArrayList<>(List.of(form.split(" ")));
        for (int k = 0; k < slots.size(); k++, at++) {
            String token = tokens.get(at);
            if (slots.get(k).equals("W")) {
                slots.addAll(token.equals("with") ? List.of("Q", ";") : List.of());
            }
            int kind = faultKind(slots.get(k), token);
            if (kind != 0) {
                told.fault = kind + 16 * places.get(at);
                return at;
            }
            if (token.matches("[0-9]+")) {
                values.add(Integer.parseInt(token));
            }
            mark = List.of("comma", "open", "close").indexOf(token) + 1 + mark;
            if (go && k == 7) {
                slots.add("W");
            }
        }
        if (go) {
            told.gos.add(new int[] {values.get(0), values.get(1), values.get(2), values.get(3), mark});
        } else {
            told.ends++;
        }
        return at;
    }

    private static int faultKind(String slot, String token) {
        switch (slot) {
            case "S":
                return token.matches("0{0,3}[0-9]") ? 0 : token.matches("[0-9]{1,4}") ? 4 : 1;
            case "K":
                return token.matches("0{0,3}[0-7]") ? 0 : token.matches("[0-9]{1,4}") ? 4 : 1;
            case "N":
                return token.matches("0?[0-9]{1,3}") ? 0 : token.matches("[0-9]{1,4}") ? 4 : 1;
            case "M":
                return token.matches("stop|question|colon") ? 0 : 1;
            case "Q":
                return token.matches("comma|open|close") ? 0 : 1;
            case "W":
                return token.matches("with|;") ? 0 : 1;
            default:
                return token.equals(slot) ? 0 : 1;
        }
    }

    private static String randomLine() {
        String gap = pick(3) == 0 ? "" : pick(4) == 0 ? " \n" : " ";
        String text = pick(3) > 0
            ? "go_" + pick(10) + "_kind_" + pick(8) + "_to_" + pick(10) + "_cost_" + pick(1000)
                + new String[] {"_", "_with comma_", "_with open_", "_with close_"}[pick(4)] + ";_"
            : "end_" + pick(10) + "_cost_" + pick(1000) + "_with " + new String[] {"stop", "question", "colon"}[pick(3)] + "_;_";
        return text.replace("_", gap);
    }

    private static String randomTape() {
        StringBuilder text = new StringBuilder();
        for (int lines = pick(6) == 0 ? pick(60) : pick(6); lines > 0; lines--) {
            String line = randomLine();
            if (text.length() + line.length() <= 1550) {
                text.append(line);
            }
        }
        for (int spoilt = pick(3); spoilt > 0; spoilt--) {
            int at = pick(text.length() + 1);
            int to = Math.min(text.length(), at + pick(6));
            text.replace(at, to, PIECES[pick(PIECES.length)]);
        }
        return text.toString();
    }

    private static void compareReaders() {
        StopSetter x = new StopSetter();
        Told stands = new Told();
        for (int run = 0; run < 30000; run++) {
            if (run % 6 == 0) {
                x = new StopSetter();
                stands = new Told();
            }
            String text = randomTape();
            Checks.feed(x, text);
            Checks.due("signs of " + text, x.count(3), text.length());
            Told told = read(text);
            Checks.due("grammar of " + text, x.grammar(), told.fault);
            stands = told.fault == 0 ? told : stands;
            Checks.due("signs left of " + text, x.count(3), 0);
            Checks.due("go lines of " + text, x.count(1), stands.gos.size());
            Checks.due("end lines of " + text, x.count(2), stands.ends);
            for (int line = 0; line < stands.gos.size(); line++) {
                int what = pick(5);
                Checks.due("go " + line + " " + what + " of " + text, x.go(line, what), stands.gos.get(line)[what]);
            }
        }
    }

    private static int wild() {
        int[] some = {Integer.MIN_VALUE, Integer.MAX_VALUE, -1, 0, 1, 2, 3, 4, 5, 6, 7, 40, 60, 99, 100, 255, 256};
        return pick(2) == 0 ? some[pick(some.length)] : pick(9);
    }

    private static void callWildly(StopSetter x) {
        switch (pick(17)) {
            case 0: x.kinds(wild(), wild()); break;
            case 1: x.name(wild(), pick(2) == 0); break;
            case 2: x.drop(); break;
            case 3: x.hand(wild(), wild()); break;
            case 4: x.feed(seed, seed * 31, wild()); break;
            case 5: x.grammar(); break;
            case 6: x.cost(); break;
            case 7: x.second(); break;
            case 8: x.look(wild(), wild()); break;
            case 9: x.last(); break;
            case 10: x.sentences(); break;
            case 11: x.settled(); break;
            case 12: x.go(wild(), wild()); break;
            case 13: x.count(wild()); break;
            case 14:
                String line = randomLine();
                x.feed(Checks.eight(line, 0), Checks.eight(line, 8), Checks.eight(line, 16));
                x.feed(Checks.eight(line, 24), Checks.eight(line, 32), Checks.eight(line, 40));
                break;
            default: x.word(wild());
        }
    }

    private static void callAllWildly() {
        for (int run = 0; run < 300; run++) {
            StopSetter x = new StopSetter();
            for (int call = 0; call < 512; call++) {
                try {
                    callWildly(x);
                } catch (NoSuchElementException e) {
                    continue;
                } catch (RuntimeException e) {
                    Checks.due("a wild call, which threw " + e, 1, 0);
                }
            }
        }
    }

    public static void main(String[] args) {
        compareReaders();
        callAllWildly();
        System.exit(Checks.exitCode());
    }
}
