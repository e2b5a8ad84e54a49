/** Promise 13: each KIND of RULE by itself, its FAULTS as 'time:a' or 'time:a-b'. */
public final class KindsTest {
    private static final Due DUE = new Due();

    private KindsTest() {
    }

    public static void main(String[] args) {
        parallels();
        contraries();
        hidden();
        crossed();
        overlapped();
        spread();
        outOfRange();
        leaps();
        leadingNotes();
        sevenths();
        crossRelations();
        intoHarsh();
        unisons();
        DUE.end();
    }

    private static void due(int kind, String score, String want) {
        DUE.same("kind " + kind + " of " + score, Score.faults(Score.of(score), kind), want);
    }

    private static void parallels() {
        due(0, "C3 D3 | C4 D4", "10:0-1");
        due(0, "C3 A2 | C5 A4", "10:0-1");
        due(0, "C3 D3 | G3 A3", "10:0-1");
        due(0, "C3 F3 | G4 C5", "10:0-1");
        due(0, "C3 D3 | C5 D4", "");
        due(0, "C3 D3 | G3 D4", "");
        due(0, "C3 C3 | C4 C4", "");
        due(0, "C3 . | C4 C5", "");
        due(0, "C3 D3 | Gb3 Ab3", "");
        due(0, "C3 D3 | Dbb4 Ebb4", "");
        due(0, "C3 D3 | F3 G3", "");
        due(0, "C3 D3 | D3 E3", "");
        due(0, "C3 - D3 | C4 - D4", "");
        due(0, "C4 D4 | C3 D3", "10:0-1");
        due(0, "F3 G3 | C3 D3", "10:0-1");
        due(0, "G3 A3 | C3 D3", "");
        due(0, "C2 D2 | G2 A2 | C3 D3", "10:0-1 10:0-2");
        due(0, "C2 D2 E2 | - - - | C4 D4 E4", "10:0-2 20:0-2");
        due(0, "C3 C##3 | C4 C##4", "10:0-1");
        due(0, "C3 Dbb3 | C4 Dbb4", "");
    }

    private static void contraries() {
        due(1, "C3 D3 | C5 D4", "10:0-1");
        due(1, "D3 C3 | A3 G4", "10:0-1");
        due(1, "C3 D3 | C4 D4", "");
        due(1, "C3 C3 | C4 C5", "");
        due(1, "C3 D3 | G4 D4", "");
        due(1, "C3 D3 | F4 G3", "");
        due(1, "- - | C3 D3 | C5 D4", "10:1-2");
        due(1, "C3 Dbb3 | C4 Dbb4", "");
    }

    private static void hidden() {
        due(2, "C3 D3 | F3 A3", "10:0-1");
        due(2, "C3 G3 | E4 G4", "10:0-1");
        due(2, "C3 G3 | F4 G4", "");
        due(2, "C3 G2 | B4 G4", "10:0-1");
        due(2, "A3 G3 | A#5 G5", "10:0-1");
        due(2, "A3 G3 | Ab5 G5", "");
        due(2, "C3 D3 | C4 D4", "");
        due(2, "C3 F3 | G3 C4", "");
        due(2, "C3 D3 | G3 D4", "10:0-1");
        due(2, "C3 D3 | C4 A4", "10:0-1");
        due(2, "C3 D3 | F4 A3", "");
        due(2, "D3 . | F3 A3", "");
        due(2, "C3 D3 | F3 Ab3", "");
        due(2, "C3 D3 | F3 A3 | F4 G4", "");
        due(2, "C3 D3 | E3 F3 | F4 A4", "10:0-2");
        due(2, "- - | C3 D3 | F3 A3", "");
    }

    private static void crossed() {
        due(3, "C3 | B2", "0:0-1");
        due(3, "C3 | C3", "");
        due(3, "B#2 | C3", "");
        due(3, "B##2 | C3", "0:0-1");
        due(3, "C3 . | C3 B2", "10:0-1");
        due(3, "C3 D3 | B2 B2", "0:0-1 10:0-1");
        due(3, "E3 | - | C3", "0:0-2");
        due(3, "E3 | D3 | C3", "0:0-1 0:0-2 0:1-2");
        due(3, "C3 - | B2 B2", "0:0-1");
        due(3, "C3 | - | -", "");
    }

    private static void overlapped() {
        due(4, "C3 E3 | D3 G3", "10:0-1");
        due(4, "C3 D3 | D3 G3", "");
        due(4, "E3 C3 | G3 D3", "10:0-1");
        due(4, "D3 C3 | G3 D3", "");
        due(4, "C3 E3 | D3 -", "");
        due(4, "C3 E3 | - G3", "");
        due(4, "C3 . | D3 Cb3", "10:0-1");
        due(4, "D3 . . | C3 . . | G4 A4 B4", "10:0-1 20:0-1");
        due(4, "C3 E3 | - - | D3 G3", "");
        due(4, "- - | C3 E3 | D3 G3", "10:1-2");
    }

    private static void spread() {
        due(5, "C2 | G3", "");
        due(5, "C2 | G#3", "0:0-1");
        due(5, "C2 | - | G#5", "");
        due(5, "- | C3 | C4", "");
        due(5, "- | C3 | C#4", "0:1-2");
        due(5, "- | C4 | C2", "");
        due(5, "- | - | - | C3 | D4", "0:3-4");
        due(5, "C2 . . | G3 A3 .", "10:0-1");
        due(5, "C2 . . | A3 . . | C4 D4 F5", "0:0-1 10:0-1 20:0-1 20:1-2");
    }

    private static void outOfRange() {
        due(6, "C0 | B#7", "");
        due(6, "Cb0 | B##7", "0:0 0:1");
        due(6, "Cbb0 | -", "0:0");
        due(6, "Cb0 . Cb0 | C1 D1 E1", "0:0");
        due(6, "Cb0 - Cb0 | C1 D1 E1", "0:0 20:0");
        due(6, "Cb0 Cbb0 Cb0 | -", "0:0 10:0 20:0");
        due(6, "C0 Cb0 | -", "10:0");
        due(6, "- Cb0 | -", "10:0");
        due(6, "B##7 B#7 B##7 | -", "0:0 20:0");
        LeadFaults x = Score.of("C3 D3 E3 | C3 D3 E3");
        x.range(1, 38, 38);
        DUE.same("range of 1", Score.faults(x, 6), "0:1 20:1");
        x.repeat(0, 20);
        DUE.same("repeats do not count", Score.faults(x, 6), "0:1 20:1");
        x.range(1, 36, 40);
        DUE.same("the limits are inside", Score.faults(x, 6), "");
        LeadFaults held = Score.of("Cb0 . | C1 D1");
        DUE.same("judged once", Score.faults(held, 6), "0:0");
        DUE.same("judged twice", Score.faults(held, 6), "0:0");
    }

    private static void leaps() {
        String[] fine = {"C3 Db3", "C3 D3", "C3 Eb3", "C3 E3", "C3 F3", "C3 G3", "C3 Ab3", "C3 A3", "C3 C4",
            "D3 C3", "Db3 C3", "G3 C3", "C4 C3", "A3 C3", "C3 C3", "C3 .", "C3 -", "- C3", "C#3 E#3", "B2 C3"};
        for (String score : fine) {
            due(7, score + " | -", "");
        }
        String[] leaps = {"C3 F#3", "C3 Gb3", "C3 Bb3", "C3 B3", "C3 A#3", "C3 Cb4", "C3 C#4", "C3 D4", "C3 C5",
            "C3 D#3", "C3 Ebb3", "C3 E#3", "C3 Fb3", "C3 G#3", "C3 Abb3", "C3 A##3", "C3 Dbb3", "C3 Dbb4",
            "C3 B#3", "C3 C#3", "C#3 C3", "F#3 C3", "Gb3 C3", "B3 C3", "D4 C3", "D#3 C3", "E##3 Fbb3", "C#3 C4",
            "Fbb3 E##3", "C3 Gb4", "C3 G4", "C3 B4", "C3 Bbb3"};
        for (String score : leaps) {
            due(7, score + " | -", "10:0");
        }
        due(7, "- | - | - | - | C3 F#3", "10:4");
        due(7, "C3 - F#3 | -", "");
    }

    private static void leadingNotes() {
        due(8, "B2 C3 | -", "");
        due(8, "B2 A2 | -", "10:0");
        due(8, "B2 Cb3 | -", "10:0");
        due(8, "B2 C#3 | -", "10:0");
        due(8, "B2 C4 | -", "10:0");
        due(8, "B2 B#2 | -", "10:0");
        due(8, "B2 Dbb3 | -", "10:0");
        due(8, "B2 B3 | -", "10:0");
        due(8, "B2 . B2 | C3 D3 E3", "");
        due(8, "B2 - A2 | C3 D3 E3", "");
        due(8, "Bb2 A2 | -", "");
        due(8, "A2 B2 | -", "");
        LeadFaults x = Score.of("- - | F#3 E3 | F3 E3");
        x.key(1);
        DUE.same("in another key", Score.faults(x, 8), "10:1");
        due(9, "B2 | B4", "0:0-1");
        due(9, "B2 | Bb4", "");
        due(9, "B2 | - | B2", "0:0-2");
        due(9, "B2 . | B3 . | B2 C3", "0:0-1 0:0-2 0:1-2 10:0-1");
    }

    private static void sevenths() {
        due(10, "G2 C3 | F3 E3", "");
        due(10, "G2 C3 | F3 Eb3", "");
        due(10, "G2 C3 | F3 G3", "10:1");
        due(10, "G2 - | F3 G3", "10:1");
        due(10, "G2 . | F3 F#3", "10:1");
        due(10, "G2 . | F3 E2", "10:1");
        due(10, "G2 . | F3 D3", "10:1");
        due(10, "G2 . | F5 G5", "10:1");
        due(10, "G2 . | F#3 G3", "10:1");
        due(10, "G2 C3 | F3 .", "");
        due(10, "G2 C3 | F3 -", "");
        due(10, "- G2 | F3 G3", "");
        due(10, "G2 C3 | E3 G3", "");
        due(10, "F3 G3 | G2 C3", "");
        due(10, "C3 . | B2 C3", "10:1");
        due(10, "G2 . | - - | F3 G3", "10:2");
        due(10, "G2 . | G3 . | F4 G4", "10:2");
        due(10, "- - | G3 . | F4 G4", "");
    }

    private static void crossRelations() {
        due(11, "F3 . | A3 F#4", "10:0-1");
        due(11, "D3 F#3 | F4 G4", "10:1-0");
        due(11, "F3 F#3 | A3 F#4", "");
        due(11, "F3 F#5 | A3 F#4", "");
        due(11, "F3 Fb3 | A3 F#4", "10:0-1");
        due(11, "F3 G#3 | A3 F#4", "10:0-1");
        due(11, "F3 - | A3 F#4", "10:0-1");
        due(11, "F3 . | - F#4", "10:0-1");
        due(11, "F3 . | A3 F4", "");
        due(11, "F3 . | A3 G#4", "");
        due(11, "F3 F#3 | -", "");
        due(11, "- F3 | A3 F#4", "");
        due(11, "F3 . | F#4 . | A4 B4", "10:0-1 10:1-0");
        due(11, "F3 A3 | A3 F#4 | A4 F#5", "10:0-1 10:0-2");
    }

    private static void intoHarsh() {
        due(12, "C3 D3 | G3 C4", "10:0-1");
        due(12, "C3 D3 | Bb3 C4", "");
        due(12, "C3 D3 | E4 C4", "");
        due(12, "C3 . | G3 Bb3", "");
        due(12, "C3 D3 | G3 A3", "");
        due(12, "C3 D3 | E3 G#3", "10:0-1");
        due(12, "F3 D3 | C3 C2", "10:0-1");
        due(12, "C2 D2 | - - | G3 C4", "10:0-2");
        due(12, "C3 D3 | Bb3 B3", "");
    }

    private static void unisons() {
        due(13, "C3 | C3", "0:0-1");
        due(13, "B#2 | C3", "0:0-1");
        due(13, "C3 | C4", "");
        due(13, "C3 | - | C3", "");
        due(13, "C3 | C3 | C3", "0:0-1 0:1-2");
        due(13, "C3 D3 | D3 D3", "10:0-1");
        due(13, "C3 . | C3 -", "0:0-1");
    }
}
