/** Promises 6 to 9, 11 and 12: rule, style, key, range, repeat, except. */
public final class SettingsTest {
    private static final Due DUE = new Due();
    private static final int LEAST = Integer.MIN_VALUE;
    private static final int MOST = Integer.MAX_VALUE;

    private SettingsTest() {
    }

    public static void main(String[] args) {
        rules();
        styles();
        keys();
        ranges();
        repeats();
        exceptions();
        DUE.end();
    }

    private static void rules() {
        LeadFaults x = new LeadFaults(2);
        for (int kind = 0; kind < 14; kind++) {
            DUE.same("off", x.rule(kind, 0), 1);
            DUE.same("off again", x.rule(kind, 0), 0);
            DUE.same("others stay", x.rule((kind + 1) % 14, 1), kind == 13 ? 0 : 1);
            DUE.same("on", x.rule(kind, 1), 0);
            DUE.same("on again", x.rule(kind, 1), 1);
            x.rule(kind, 0);
        }
        int[][] bad = {{-1, 0}, {14, 0}, {32, 0}, {LEAST, 0}, {MOST, 0}, {0, -1}, {0, 2}, {0, LEAST}, {0, MOST}};
        for (int[] b : bad) {
            DUE.same("rule(" + b[0] + ", " + b[1] + ")", x.rule(b[0], b[1]), LeadFaults.BAD);
        }
        DUE.same("nothing changed", x.rule(0, 1), 1);
        LeadFaults y = Score.of("C3 D3 | C4 D4");
        y.rule(0, 0);
        DUE.same("off is not judged", y.judge(), 0);
        y.rule(0, 1);
        DUE.same("on is judged", y.judge(), 1);
    }

    private static void styles() {
        LeadFaults x = new LeadFaults(2);
        String[] due = {"11111111111111", "10110111111100", "10110000110000", "10000000000000", "00000000000000"};
        int[] many = {14, 10, 5, 1, 0};
        for (int style = 4; style >= 0; style--) {
            DUE.same("style " + style, x.style(style), many[style]);
            DUE.same("rules of style " + style, rulesOf(x), due[style]);
        }
        x.style(2);
        int[] bad = {-1, 5, LEAST, MOST};
        for (int b : bad) {
            DUE.same("style(" + b + ")", x.style(b), LeadFaults.BAD);
        }
        DUE.same("nothing changed", rulesOf(x), due[2]);
    }

    private static String rulesOf(LeadFaults x) {
        StringBuilder on = new StringBuilder();
        for (int kind = 0; kind < 14; kind++) {
            int was = x.rule(kind, 0);
            x.rule(kind, was);
            on.append(was);
        }
        return on.toString();
    }

    private static void keys() {
        LeadFaults x = new LeadFaults(2);
        int was = 0;
        for (int fifths = -7; fifths <= 7; fifths++) {
            DUE.same("key(" + fifths + ")", x.key(fifths), was);
            was = fifths;
        }
        int[] bad = {-8, 8, LEAST, MOST};
        for (int b : bad) {
            DUE.same("key(" + b + ")", x.key(b), LeadFaults.SILENT);
        }
        DUE.same("nothing changed", x.key(-3), 7);
        DUE.same("key", x.key(-3), -3);
        String[] leading = {"Bb", "F", "C", "G", "D", "A", "E", "B", "F#", "C#", "G#", "D#", "A#", "E#", "B#"};
        for (int fifths = -7; fifths <= 7; fifths++) {
            DUE.same("leading notes of " + fifths, leadingNotes(fifths), leading[fifths + 7]);
        }
    }

    private static String leadingNotes(int fifths) {
        StringBuilder found = new StringBuilder();
        for (String letter : "C D E F G A B".split(" ")) {
            for (String sharpness : new String[] {"bb", "b", "", "#", "##"}) {
                LeadFaults x = Score.of(letter + sharpness + "2 | " + letter + sharpness + "3");
                x.key(fifths);
                if (Score.faults(x, 9).equals("0:0-1")) {
                    found.append(letter).append(sharpness);
                }
            }
        }
        return found.toString();
    }

    private static void ranges() {
        LeadFaults x = Score.of("C3 D3 E3 - F3 | C3 C3");
        DUE.same("all inside", x.range(0, 36, 41), 0);
        DUE.same("one below", x.range(0, 37, 41), 1);
        DUE.same("two above", x.range(0, 36, 38), 2);
        DUE.same("below and above", x.range(0, 38, 38), 3);
        DUE.same("widest", x.range(0, -2, 99), 0);
        DUE.same("all above", x.range(0, -2, -2), 4);
        DUE.same("all below", x.range(0, 99, 99), 4);
        DUE.same("equal notes count each", x.range(1, 99, 99), 2);
        DUE.same("no events", new LeadFaults(2).range(0, 99, 99), 0);
        x.range(0, 36, 40);
        int[][] bad = {{-1, 0, 9}, {2, 0, 9}, {MOST, 0, 9}, {0, -3, 9}, {0, 100, 100}, {0, LEAST, 9}, {0, 0, 100},
            {0, -3, -3}, {0, 0, MOST}, {0, 50, 49}, {0, 99, -2}};
        for (int[] b : bad) {
            DUE.same("range(" + b[0] + ", " + b[1] + ", " + b[2] + ")", x.range(b[0], b[1], b[2]), LeadFaults.BAD);
        }
        DUE.same("nothing changed", Score.faults(x, 6), "0:1 40:0");
    }

    private static void repeats() {
        LeadFaults x = new LeadFaults(2);
        int[][] bad = {{-1, 5}, {LEAST, 5}, {0, 1000}, {0, MOST}, {5, 5}, {6, 5}, {0, 0}, {999, 1000}, {999, 999}};
        for (int[] b : bad) {
            DUE.same("repeat(" + b[0] + ", " + b[1] + ")", x.repeat(b[0], b[1]), LeadFaults.BAD);
        }
        DUE.same("repeat 1", x.repeat(0, 999), 1);
        DUE.same("repeat 2", x.repeat(998, 999), 2);
        DUE.same("the same once more", x.repeat(998, 999), 3);
        DUE.same("repeat 4", x.repeat(0, 1), 4);
        DUE.same("repeat 5", x.repeat(0, 1), LeadFaults.FULL);
        DUE.same("bad before full", x.repeat(1, 1), LeadFaults.BAD);
    }

    private static void exceptions() {
        LeadFaults x = new LeadFaults(2);
        int[][] bad = {{-1, 5}, {14, 5}, {LEAST, 5}, {MOST, 5}, {0, -1}, {0, 1000}, {0, LEAST}, {0, MOST}};
        for (int[] b : bad) {
            DUE.same("except(" + b[0] + ", " + b[1] + ")", x.except(b[0], b[1]), LeadFaults.BAD);
        }
        DUE.same("except 1", x.except(0, 0), 1);
        DUE.same("it is there", x.except(0, 0), LeadFaults.NONE);
        DUE.same("another kind", x.except(13, 0), 2);
        DUE.same("another time", x.except(0, 999), 3);
        DUE.same("it is there", x.except(0, 0), LeadFaults.NONE);
        for (int i = 3; i < 20; i++) {
            DUE.same("except " + i, x.except(5, i), i + 1);
        }
        DUE.same("except 21", x.except(6, 6), LeadFaults.FULL);
        DUE.same("none before full", x.except(5, 19), LeadFaults.NONE);
        DUE.same("bad before full", x.except(14, 19), LeadFaults.BAD);
    }
}
