/** The KINDS 0 to 13 of '2 RULES' and the sentences of '3 FAULTS', each one step on either side of what it names. */
public final class ThresholdsTest {
    private static final Due DUE = new Due();

    private ThresholdsTest() {
    }

    public static void main(String[] args) {
        allOnAtFirst();
        momentOfPair();
        eachOnce();
        parallels();
        contraries();
        hidden();
        hiddenOfOuterVoices();
        crossed();
        overlapped();
        spread();
        outOfRange();
        newInRange();
        leaps();
        leadingNotes();
        leadingTwice();
        sevenths();
        relations();
        intoHarsh();
        unisons();
        faultsInOrder();
        exceptedFaults();
        exceptionsWithoutMoment();
        DUE.end();
    }

    private static void due(int kind, String score, String want) {
        DUE.same("kind " + kind + " of " + score, Score.faults(Score.of(score), kind), want);
    }

    /** NOTES as VOICE, TIME, STEP, SHARPNESS. */
    private static LeadFaults of(int voices, int[][] notes) {
        LeadFaults x = new LeadFaults(voices);
        for (int[] n : notes) {
            x.note(n[0], n[1], n[2], n[3]);
        }
        return x;
    }

    /** "RULES have KINDS 0 .. 13, on or off (all on at first)": one FAULT of each KIND in a new object. */
    private static void allOnAtFirst() {
        String[] scores = {"C3 D3 | C4 D4", "C3 D3 | C5 D4", "C3 G3 | E4 G4", "C3 | B2", "C3 E3 | D3 G3",
            "C2 | G#3", "Cb0 | -", "C3 F#3 | -", "B2 A2 | -", "B2 | B3", "G2 . | F3 G3", "F3 . | A3 F#4",
            "C3 D3 | G3 C4", "C3 | C3"};
        for (int kind = 0; kind < 14; kind++) {
            LeadFaults x = Score.of(scores[kind]);
            x.judge();
            DUE.same("kind " + kind + " at first", x.count(kind), 1);
            DUE.same("it was on", x.rule(kind, 0), 1);
            x.judge();
            DUE.same("kind " + kind + " off", x.count(kind), 0);
        }
    }

    /** "A FAULT has a MOMENT (of a PAIR the second one)" */
    private static void momentOfPair() {
        LeadFaults x = Score.of("C3 . D3 | C4 . D4");
        DUE.same("second of a pair", Score.faults(x, 0), "20:0-1");
        DUE.same("its number", x.fault(0, 4), 1);
        x.repeat(0, 999);
        x.except(0, 20);
        DUE.same("second of a repeat's pair is the earlier one", Score.faults(x, 0), "0:0-1");
        DUE.same("its number", x.fault(0, 4), 0);
    }

    /** "each is there once" */
    private static void eachOnce() {
        LeadFaults x = Score.of("F3 F#4 F3 | C4 D4 F#4");
        DUE.same("no repeats", Score.faults(x, 7), "10:0 20:0");
        for (int i = 0; i < 4; i++) {
            x.repeat(i < 2 ? 10 : 9 + i / 3, 21);
        }
        DUE.same("by a pair and by four repeats", Score.faults(x, 7), "10:0 20:0");
        DUE.same("judge", x.judge(), 2);
        DUE.same("count", x.count(7), 2);
        x.except(7, 10);
        x.judge();
        DUE.same("excepted once", x.count(15), 1);
    }

    /** KIND 0: "go ALIKE, THE INTERVAL at both MOMENTS is EIGHTH, or at both FIFTH" */
    private static void parallels() {
        due(0, "C3 D3 | G3 A3", "10:0-1");
        due(0, "C3 D3 | G3 Ab3", "");
        due(0, "C3 D3 | Gb3 A3", "");
        due(0, "C3 D3 | C4 D#4", "");
        due(0, "C3 D3 | Cb4 D4", "");
        due(0, "C3 D3 | G3 D4", "");
        due(0, "C3 D3 | C4 A4", "");
        due(0, "C3 D3 | C3 D3", "10:0-1");
        due(0, "C3 D3 | C7 D7", "10:0-1");
        due(0, "C3 D3 | C3 D4", "10:0-1");
        due(0, "C3 D3 | Abb3 Bbb3", "");
        due(0, "C3 D3 | B#3 C##4", "");
        due(0, "C1 D1 | G1 A1 | C2 D2 | G2 A2 | C3 D3",
                "10:0-1 10:0-2 10:0-3 10:0-4 10:1-3 10:2-3 10:2-4");
    }

    /** KIND 1: "likewise, but APART" */
    private static void contraries() {
        due(1, "C3 D3 | C5 D4", "10:0-1");
        due(1, "C3 D3 | G4 A3", "10:0-1");
        due(1, "C3 D3 | G4 Ab3", "");
        due(1, "C3 D3 | G4 D4", "");
        due(1, "C3 Db3 | C5 D4", "");
        due(1, "D3 C3 | D3 C4", "10:0-1");
        due(1, "C3 . | C4 C3", "");
        due(1, "- - | C3 D3 | - - | C5 D4 | C6 D5", "10:1-3 10:1-4");
    }

    /** KIND 2: "to an EIGHTH or FIFTH which it was not before, and the highest one by more than 2 in HEIGHT" */
    private static void hidden() {
        due(2, "C3 G3 | F4 G4", "");
        due(2, "C3 G3 | E4 G4", "10:0-1");
        due(2, "C3 G3 | Fb4 G4", "10:0-1");
        due(2, "A3 G3 | A5 G5", "");
        due(2, "A3 G3 | A#5 G5", "10:0-1");
        due(2, "C3 C#3 | E4 C#5", "10:0-1");
        due(2, "C3 D3 | F3 A3", "10:0-1");
        due(2, "C3 D3 | F3 Ab3", "");
        due(2, "C3 D3 | F3 A#3", "");
        due(2, "C3 E3 | G3 B3", "");
        due(2, "C3 E3 | C4 E4", "");
        due(2, "C3 E3 | G3 E4", "10:0-1");
        due(2, "C3 E3 | C4 B4", "10:0-1");
        due(2, "C3 G3 | B4 G4", "");
        due(2, "G3 . | E4 G4", "");
    }

    /** KIND 2: "the lowest and the highest VOICE (0, n - 1)" */
    private static void hiddenOfOuterVoices() {
        for (int voices = 2; voices <= 5; voices++) {
            LeadFaults x = new LeadFaults(voices);
            for (int voice = 0; voice < voices; voice++) {
                x.note(voice, 0, voice == 0 ? 21 : 30, 0);
                x.note(voice, 10, voice == 0 ? 25 : 32, 0);
            }
            DUE.same("hidden of " + voices, Score.faults(x, 2), "10:0-" + (voices - 1));
            x.take(voices - 1);
            DUE.same("the highest of " + voices + " stays", Score.faults(x, 2), "");
        }
    }

    /** KIND 3: "at a MOMENT H of a, b is below 0" */
    private static void crossed() {
        due(3, "C3 | Cb3", "0:0-1");
        due(3, "C3 | C3", "");
        due(3, "C3 | C#3", "");
        due(3, "C3 | Dbb3", "");
        due(3, "D3 | C##3", "");
        due(3, "D3 | C#3", "0:0-1");
        due(3, "E3 | D3 | C3 | B2 | A2", "0:0-1 0:0-2 0:0-3 0:0-4 0:1-2 0:1-3 0:1-4 0:2-3 0:2-4 0:3-4");
    }

    /** KIND 4: "a's second HEIGHT is above b's first, or b's second is below a's first" */
    private static void overlapped() {
        due(4, "C3 E3 | E3 G3", "");
        due(4, "C3 E#3 | E3 G3", "10:0-1");
        due(4, "E3 C3 | G3 E3", "");
        due(4, "E3 C3 | G3 Eb3", "10:0-1");
        due(4, "C3 Fb3 | E3 G3", "");
        due(4, "C2 C3 | D2 D3 | E2 E3 | F2 F3 | G2 G3", "10:0-1 10:1-2 10:2-3 10:3-4");
        due(4, "C2 C5 | - - | D2 D5", "");
        due(4, "D3 . | C3 .", "");
    }

    /** KIND 5: "H of a, b = a + 1 is above 12 (with a = 0: above 19)" */
    private static void spread() {
        int[][] due = {{0, 18, 0}, {0, 19, 0}, {0, 20, 1}, {1, 11, 0}, {1, 12, 0}, {1, 13, 1}, {1, 20, 1}, {2, 12, 0},
            {2, 13, 1}, {3, 12, 0}, {3, 13, 1}, {0, 59, 1}, {1, -13, 0}, {0, -20, 0}};
        for (int[] d : due) {
            LeadFaults x = of(5, new int[][] {{d[0], 0, 21, 0}, noteOf(d[0] + 1, 36 + d[1])});
            DUE.same("spread " + d[1] + " over " + d[0], Score.faults(x, 5),
                    d[2] == 1 ? "0:" + d[0] + "-" + (d[0] + 1) : "");
        }
        due(5, "C2 | - | C6 | - | C2", "");
    }

    /** A NOTE of a HEIGHT at TIME 0. */
    private static int[] noteOf(int voice, int height) {
        int letter = 6;
        while (Score.LETTER_HEIGHTS[letter] > height % 12) {
            letter--;
        }
        return new int[] {voice, 0, 7 * (height / 12) + letter, height % 12 - Score.LETTER_HEIGHTS[letter]};
    }

    /** KIND 6: "the NOTE of a is below its LOW, or above its HIGH (at first 0 and 96)" */
    private static void outOfRange() {
        due(6, "Cbb0 Cb0 C0 | -", "0:0 10:0");
        due(6, "- | B7 B#7 B##7", "20:1");
        due(6, "- | - | - | - | Cb0 C0", "0:4");
        int[][] due = {{39, 1}, {40, 0}, {41, 0}, {45, 0}, {46, 0}, {47, 1}};
        for (int voice = 0; voice < 5; voice++) {
            for (int[] d : due) {
                LeadFaults x = of(5, new int[][] {noteOf(voice, d[0])});
                x.range(voice, 40, 46);
                x.range((voice + 1) % 5, 99, 99);
                DUE.same("height " + d[0] + " of voice " + voice, Score.faults(x, 6), d[1] == 1 ? "0:" + voice : "");
            }
        }
    }

    /** KIND 6: "and the MOMENT is the first one, or a had no NOTE at the MOMENT before, or one of another .." */
    private static void newInRange() {
        due(6, "Cb0 | -", "0:0");
        due(6, "- Cb0 | -", "10:0");
        due(6, ". Cb0 | - -", "10:0");
        due(6, "Cb0 Cb0 | -", "0:0");
        due(6, "Cb0 . . | C1 D1 E1", "0:0");
        due(6, "Cb0 - Cb0 | -", "0:0 20:0");
        due(6, "C0 Cb0 | -", "10:0");
        due(6, "Cb0 Cbb0 | -", "0:0 10:0");
        due(6, "- | A##7 B7 B##7 B##7", "20:1");
        LeadFaults x = Score.of("B#2 C3 C3 Dbb3 | -");
        x.range(0, 0, 35);
        DUE.same("another step of one height", Score.faults(x, 6), "0:0 10:0 30:0");
        LeadFaults y = Score.of("Cb0 - Cb0 | C1 . .");
        y.grid(20);
        DUE.same("the moment before is one of the grid", Score.faults(y, 6), "0:0");
    }

    /** KIND 7, every STEP and SHARPNESS that can be between, both ways. */
    private static void leaps() {
        for (int step = 0; step <= 23; step++) {
            for (int sharps = 0; sharps < 25; sharps++) {
                for (int base = 14; base < 21; base += 3) {
                    leap(base, sharps / 5 - 2, base + step, sharps % 5 - 2);
                    leap(base + step, sharps % 5 - 2, base, sharps / 5 - 2);
                }
            }
        }
    }

    private static void leap(int step, int sharpness, int toStep, int toSharpness) {
        LeadFaults x = of(2, new int[][] {{1, 0, step, sharpness}, {1, 10, toStep, toSharpness}});
        String name = "from " + step + ", " + sharpness + " to " + toStep + ", " + toSharpness;
        boolean moves = step != toStep || sharpness != toSharpness;
        DUE.same(name, Score.faults(x, 7), moves && isLeap(step, sharpness, toStep, toSharpness) ? "10:1" : "");
    }

    /** By the names of intervals: only what is pure, major or minor, not beyond 12, and no seventh is no LEAP. */
    private static boolean isLeap(int step, int sharpness, int toStep, int toSharpness) {
        int s = toStep - step;
        int h = Score.height(toStep, toSharpness) - Score.height(step, sharpness);
        if (s < 0) {
            s = -s;
            h = -h;
        }
        String[] fine = {"0", "1 2", "3 4", "5", "7", "8 9", "", "12"};
        if (s >= fine.length) {
            return true;
        }
        for (String one : fine[s].split(" ")) {
            if (one.equals(String.valueOf(h))) {
                return false;
            }
        }
        return true;
    }

    /** KIND 8: "a MOVES from a LEADING NOTE, and not to one of the next STEP, whose HEIGHT is greater by 1" */
    private static void leadingNotes() {
        for (int step = 18; step <= 23; step++) {
            for (int sharpness = -2; sharpness <= 2; sharpness++) {
                LeadFaults x = of(2, new int[][] {{0, 0, 20, 0}, {0, 10, step, sharpness}});
                boolean stays = step == 20 && sharpness == 0;
                boolean resolves = step == 21 && sharpness == 0;
                DUE.same("B2 to " + step + ", " + sharpness, Score.faults(x, 8), stays || resolves ? "" : "10:0");
            }
        }
        due(8, "B2 C4 | -", "10:0");
        due(8, "B0 C0 | -", "10:0");
        due(8, "Bb2 A2 | B#3 A3", "");
        due(8, "- | - | - | - | B2 D3", "10:4");
    }

    /** KIND 9: "at a MOMENT a, b both have LEADING NOTES" */
    private static void leadingTwice() {
        due(9, "B2 | B2", "0:0-1");
        due(9, "B0 | B7", "0:0-1");
        due(9, "B2 | C3", "");
        due(9, "B2 | Cb3", "");
        due(9, "Bb2 | B3", "");
        due(9, "B3 | -", "");
        due(9, "B1 | B2 | B3 | B4 | B5", "0:0-1 0:0-2 0:0-3 0:0-4 0:1-2 0:1-3 0:1-4 0:2-3 0:2-4 0:3-4");
    }

    /** KIND 10: "at the first MOMENT S of 0, a was 6 modulo 7; and a does not go to the STEP right below" */
    private static void sevenths() {
        for (int step = 14; step <= 42; step++) {
            LeadFaults x = of(2, new int[][] {{0, 0, 28, 0}, {1, 0, step, 0}, {1, 10, step + 1, 0}});
            boolean isSeventh = step == 20 || step == 27 || step == 34 || step == 41;
            DUE.same("seventh over 28: " + step, Score.faults(x, 10), isSeventh ? "10:1" : "");
        }
        for (int step = 31; step <= 36; step++) {
            for (int sharpness = -2; sharpness <= 2; sharpness++) {
                LeadFaults x = of(2, new int[][] {{0, 0, 28, 0}, {1, 0, 34, 0}, {1, 10, step, sharpness}});
                boolean stays = step == 34 && sharpness == 0;
                DUE.same("34 to " + step + ", " + sharpness, Score.faults(x, 10), stays || step == 33 ? "" : "10:1");
            }
        }
        due(10, "F3 G3 | G2 .", "");
        due(10, "G2 . | F3 G3 | F3 G3 | F3 G3 | F3 G3", "10:1 10:2 10:3 10:4");
        due(10, "- - | G2 . | F3 G3", "");
    }

    /** KIND 11: "one LETTER, and another SHARPNESS; a is not b; and a has no second NOTE of that LETTER and .." */
    private static void relations() {
        due(11, "F3 . | A3 F#4", "10:0-1");
        due(11, "F3 . | A3 Fb4", "10:0-1");
        due(11, "F3 . | A3 F4", "");
        due(11, "F3 . | A3 E#4", "");
        due(11, "F3 . | A3 Gb4", "");
        due(11, "F3 F#3 | A3 B3", "");
        due(11, "F3 F#3 | A3 F#4", "");
        due(11, "F3 F#4 | A3 F#4", "");
        due(11, "F3 F##3 | A3 F#4", "10:0-1");
        due(11, "F3 Gb3 | A3 F#4", "10:0-1");
        due(11, "F3 - | A3 F#4", "10:0-1");
        due(11, "- F3 | A3 F#4", "");
        due(11, "F3 . | F#4 A4", "10:1-0");
        due(11, "F3 . | F#4 .", "");
        due(11, "F3 . | F#4 . | A4 B4", "10:0-1 10:1-0");
        due(11, "A1 F#1 | F2 A2 | F3 A3 | F4 A4 | F5 A5", "10:1-0 10:2-0 10:3-0 10:4-0");
    }

    /** KIND 12: "a, b go ALIKE, THE INTERVAL was not HARSH, and is HARSH then" */
    private static void intoHarsh() {
        String[] harsh = {"Eb4", "E4", "Ab4", "C5", "C#5"};
        String[] soft = {"D4", "F4", "F#4", "G4", "A4", "Bb4", "B4", "D5"};
        for (String note : harsh) {
            due(12, "C3 D4 | C4 " + note, "10:0-1");
            due(12, "C3 D4 | D4 " + note, "");
        }
        for (String note : soft) {
            due(12, "C3 D4 | C4 " + note, "");
        }
        due(12, "C3 D3 | C5 C4", "");
        due(12, "C3 . | A3 Bb3", "");
        due(12, "C3 D3 | A3 .", "");
        due(12, "- - | C2 D2 | - - | A3 C4", "10:1-3");
    }

    /** KIND 13: "at a MOMENT H of a, b = a + 1 is 0" */
    private static void unisons() {
        due(13, "C3 | C3", "0:0-1");
        due(13, "C3 | Cb3", "");
        due(13, "C3 | C#3", "");
        due(13, "C#3 | Db3", "0:0-1");
        due(13, "C3 | C4", "");
        due(13, "C3 | D3 | C3", "");
        due(13, "C3 | C3 | C3 | C3 | C3", "0:0-1 0:1-2 0:2-3 0:3-4");
    }

    /** "FAULTS are in order by MOMENT, then KIND, then a, then b" */
    private static void faultsInOrder() {
        LeadFaults x = Score.of("C3 F#3 A2 C3 | C3 F3 F#3 C3 | C3 B2 B2 C3 | Cb0 B2 B##7 C3 | B2 A2 B3 C3");
        x.repeat(0, 999);
        x.repeat(10, 30);
        int many = x.judge();
        DUE.same("there are many", many > 60 ? 1 : 0, 1);
        int last = -1;
        for (int i = 0; i < many; i++) {
            int place = ((x.fault(i, 4) * 14 + x.fault(i, 0)) * 5 + x.fault(i, 2)) * 6 + x.fault(i, 3) + 1;
            DUE.same("fault " + i + " is after the one before", place > last ? 1 : 0, 1);
            last = place;
        }
    }

    /** "FAULTS of that KIND at the MOMENT of that TIME are EXCEPTED: they are not told, only counted." */
    private static void exceptedFaults() {
        int[][] due = {{0, 20, 1}, {0, 19, 0}, {0, 21, 0}, {1, 20, 0}, {13, 20, 0}, {0, 2, 0}, {0, 1, 0}, {0, 10, 0}};
        for (int[] d : due) {
            LeadFaults x = Score.of("C3 . D3 | C4 . D4 | G4 . A4");
            x.style(3);
            x.except(d[0], d[1]);
            String name = "exception " + d[0] + ", " + d[1];
            DUE.same(name, x.judge(), d[2] == 1 ? 0 : 3);
            DUE.same(name + " told", x.count(0), d[2] == 1 ? 0 : 3);
            DUE.same(name + " told in all", x.count(14), d[2] == 1 ? 0 : 3);
            DUE.same(name + " excepted", x.count(15), d[2] == 1 ? 3 : 0);
            DUE.same(name + " fault", x.fault(0, 0), d[2] == 1 ? LeadFaults.BAD : 0);
        }
    }

    private static void exceptionsWithoutMoment() {
        LeadFaults x = Score.of("C3 D3 E3 | C4 D4 E4");
        x.except(0, 10);
        x.except(0, 20);
        DUE.same("both excepted", x.judge(), 0);
        x.grid(20);
        DUE.same("no moment at 10 on the grid", x.judge(), 0);
        DUE.same("one excepted", x.count(15), 1);
        x.grid(15);
        DUE.same("no moment of either", x.judge(), 1);
        DUE.same("none excepted", x.count(15), 0);
        LeadFaults empty = new LeadFaults(2);
        empty.except(0, 0);
        DUE.same("no events", empty.judge() + empty.count(15), 0);
    }
}
