/** The sentences of 'Terms', each at its bounds: NOTES, EVENTS, MOMENTS, PAIRS, THE INTERVAL, THE KEY. */
public final class TermsTest {
    private static final Due DUE = new Due();

    private TermsTest() {
    }

    public static void main(String[] args) {
        stepsOfNotes();
        sharpnessOfNotes();
        letters();
        heights();
        eventsAtMost();
        timesOfEvents();
        eachLater();
        noteAtTime();
        momentsOfEvents();
        momentsOfGrid();
        momentsOfNothing();
        pairsOfNeighbours();
        repeatsTo();
        repeatsFrom();
        repeatsThatAreNone();
        repeatsOfOneMoment();
        repeatsOnGrid();
        goes();
        moves();
        upAndDown();
        intervals();
        intervalsOfSilence();
        keyAtFirst();
        leadingNotes();
        DUE.end();
    }

    /** "A NOTE has a STEP 0 .. 55" */
    private static void stepsOfNotes() {
        for (int step = -1; step <= 56; step++) {
            LeadFaults x = new LeadFaults(2);
            boolean isOne = step >= 0 && step <= 55;
            DUE.same("note of step " + step, x.note(1, 5, step, 0), isOne ? 1 : LeadFaults.BAD);
            DUE.same("event of step " + step, x.event(1, 0, 1), isOne ? step : LeadFaults.BAD);
        }
    }

    /** "and a SHARPNESS -2 .. 2" */
    private static void sharpnessOfNotes() {
        for (int sharpness = -3; sharpness <= 3; sharpness++) {
            LeadFaults x = new LeadFaults(2);
            boolean isOne = sharpness >= -2 && sharpness <= 2;
            DUE.same("note of sharpness " + sharpness, x.note(0, 5, 0, sharpness), isOne ? 1 : LeadFaults.BAD);
            DUE.same("event of sharpness " + sharpness, x.event(0, 0, 2), isOne ? sharpness + 2 : LeadFaults.BAD);
        }
    }

    /** "its LETTER is STEP modulo 7": told by relations across, which need one LETTER. */
    private static void letters() {
        for (int step = 0; step <= 55; step++) {
            for (int other = 0; other <= 55; other++) {
                LeadFaults x = new LeadFaults(2);
                x.note(0, 0, step, 0);
                x.note(1, 10, other, 1);
                boolean isOneLetter = (step - other) % 7 == 0;
                DUE.same("letters of " + step + " and " + other, Score.faults(x, 11), isOneLetter ? "10:0-1" : "");
            }
        }
    }

    /** "its HEIGHT is 12 times (STEP / 7, cut) and 0, 2, 4, 5, 7, 9, 11 for LETTER 0 .. 6, and its SHARPNESS" */
    private static void heights() {
        int[][] due = {{0, -2, -2}, {0, 0, 0}, {6, 0, 11}, {6, 2, 13}, {7, 0, 12}, {7, -2, 10}, {13, 0, 23},
            {14, 0, 24}, {48, 0, 83}, {49, 0, 84}, {55, -2, 93}, {55, 0, 95}, {55, 2, 97}, {3, 0, 5}, {2, 1, 5},
            {2, 0, 4}};
        for (int[] d : due) {
            LeadFaults x = new LeadFaults(2);
            x.note(0, 0, d[0], d[1]);
            DUE.same("height of " + d[0] + ", " + d[1], x.height(0, 0), d[2]);
        }
    }

    /** "EVENTS of a VOICE, 24 at most" */
    private static void eventsAtMost() {
        LeadFaults x = new LeadFaults(5);
        for (int voice = 0; voice < 5; voice++) {
            for (int i = 0; i < 24; i++) {
                DUE.same("event " + (i + 1) + " of voice " + voice, x.note(voice, i, 20, 0), i + 1);
            }
            DUE.same("event 25 of voice " + voice, x.note(voice, 24, 20, 0), LeadFaults.FULL);
            DUE.same("event 25 of voice " + voice, x.rest(voice, 24), LeadFaults.FULL);
            DUE.same("the last one", x.event(voice, 23, 0), 23);
            DUE.same("none after it", x.event(voice, 24, 0), LeadFaults.BAD);
        }
    }

    /** "have TIMES 0 .. 999" */
    private static void timesOfEvents() {
        int[] times = {-1, 0, 999, 1000};
        for (int time : times) {
            int due = time >= 0 && time <= 999 ? 1 : LeadFaults.BAD;
            LeadFaults x = new LeadFaults(2);
            DUE.same("note at " + time, x.note(1, time, 20, 0), due);
            DUE.same("moments", x.moments(), due == 1 ? 1 : 0);
            DUE.same("rest at " + time, x.rest(0, time), due);
            DUE.same("time of the moment", x.time(0), due == 1 ? time : LeadFaults.BAD);
        }
    }

    /** "each later than the one before" */
    private static void eachLater() {
        int[] lasts = {0, 1, 500, 998};
        for (int last : lasts) {
            LeadFaults x = new LeadFaults(2);
            x.note(0, last, 20, 0);
            x.rest(1, last);
            DUE.same("note at the last time " + last, x.note(0, last, 21, 0), LeadFaults.LATE);
            DUE.same("rest at the last time " + last, x.rest(0, last), LeadFaults.LATE);
            DUE.same("note at a rest's time " + last, x.note(1, last, 21, 0), LeadFaults.LATE);
            DUE.same("rest at a rest's time " + last, x.rest(1, last), LeadFaults.LATE);
            DUE.same("note right after " + last, x.note(0, last + 1, 21, 0), 2);
            DUE.same("rest right after " + last, x.rest(1, last + 1), 2);
        }
        LeadFaults x = new LeadFaults(2);
        x.note(0, 999, 20, 0);
        DUE.same("nothing is later than 999", x.note(0, 999, 20, 0), LeadFaults.LATE);
        DUE.same("another voice has its own times", x.note(1, 0, 20, 0), 1);
    }

    /** "A VOICE has a NOTE at a TIME, if the last of its EVENTS that are not later is that NOTE; else it is silent." */
    private static void noteAtTime() {
        LeadFaults x = new LeadFaults(2);
        x.note(0, 10, 7, 0);
        x.note(0, 12, 8, 0);
        x.rest(0, 14);
        x.note(0, 16, 9, 0);
        for (int time = 9; time <= 18; time++) {
            x.rest(1, time);
        }
        x.rest(1, 999);
        int[] due = {-100, 12, 12, 14, 14, -100, -100, 16, 16, 16, 16};
        for (int moment = 0; moment < due.length; moment++) {
            DUE.same("height at " + x.time(moment), x.height(0, moment), due[moment]);
        }
        LeadFaults rests = Score.of("- - C1 | . . .");
        DUE.same("a rest at first", rests.height(0, 0), LeadFaults.SILENT);
        DUE.same("rest after rest", rests.height(0, 1), LeadFaults.SILENT);
        DUE.same("no events", rests.height(1, 2), LeadFaults.SILENT);
    }

    /** "MOMENTS, numbered from 0 on by TIMES that rise: all TIMES of EVENTS, if GRID is 0" */
    private static void momentsOfEvents() {
        LeadFaults x = new LeadFaults(3);
        x.note(2, 999, 20, 0);
        DUE.same("one moment", Score.times(x), "999");
        x.rest(1, 0);
        DUE.same("a rest's time too", Score.times(x), "0 999");
        x.note(0, 0, 20, 0);
        x.note(0, 999, 20, 0);
        DUE.same("one time, one moment", Score.times(x), "0 999");
        x.note(1, 998, 20, 0);
        DUE.same("one tick apart", Score.times(x), "0 998 999");
        x.take(2);
        DUE.same("a time that another has stays", Score.times(x), "0 998 999");
        x.take(0);
        DUE.same("a time that none has goes", Score.times(x), "0 998");
    }

    /** "else all multiples of GRID from 0 on that are not later than the last TIME of any EVENT" */
    private static void momentsOfGrid() {
        int[][] due = {{10, 0, 1}, {10, 9, 1}, {10, 10, 2}, {10, 11, 2}, {10, 19, 2}, {10, 20, 3}, {10, 989, 99},
            {10, 990, 100}, {10, 999, 100}, {11, 989, 90}, {11, 990, 91}, {333, 998, 3}, {333, 999, 4}, {499, 997, 2},
            {499, 998, 3}, {500, 0, 1}, {500, 499, 1}, {500, 500, 2}, {500, 999, 2}};
        for (int[] d : due) {
            LeadFaults x = new LeadFaults(2);
            x.note(1, d[1], 20, 0);
            DUE.same("grid " + d[0] + " to " + d[1], x.grid(d[0]), d[2]);
            DUE.same("moments of grid " + d[0] + " to " + d[1], x.moments(), d[2]);
            DUE.same("first time of grid " + d[0], x.time(0), 0);
            DUE.same("last time of grid " + d[0], x.time(d[2] - 1), d[0] * (d[2] - 1));
            DUE.same("none after it", x.time(d[2]), LeadFaults.BAD);
        }
        lastOfAnyVoice();
    }

    private static void lastOfAnyVoice() {
        for (int voice = 0; voice < 5; voice++) {
            LeadFaults x = new LeadFaults(5);
            x.grid(10);
            for (int other = 0; other < 5; other++) {
                x.note(other, other == voice ? 30 : 29, 20, 0);
            }
            DUE.same("voice " + voice + " is last", Score.times(x), "0 10 20 30");
            x.take(voice);
            DUE.same("voice " + voice + " was last", Score.times(x), "0 10 20");
            x.rest(voice, 40);
            DUE.same("a rest of voice " + voice + " is last", Score.times(x), "0 10 20 30 40");
        }
    }

    /** "(without EVENTS none)" */
    private static void momentsOfNothing() {
        int[] grids = {0, 10, 500};
        for (int ticks : grids) {
            LeadFaults x = new LeadFaults(2);
            DUE.same("grid " + ticks + " of nothing", x.grid(ticks), 0);
            DUE.same("moments of nothing", x.moments(), 0);
            DUE.same("time of nothing", x.time(0), LeadFaults.BAD);
            x.rest(0, 0);
            DUE.same("moments of one rest", x.moments(), 1);
            x.take(0);
            DUE.same("moments of nothing again", x.moments(), 0);
            DUE.same("height of nothing", x.height(0, 0), LeadFaults.BAD);
            DUE.same("interval of nothing", x.interval(0, 1, 0), LeadFaults.BAD);
        }
    }

    private static void due(String name, LeadFaults x, int kind, String want) {
        DUE.same(name, Score.faults(x, kind), want);
    }

    /** "PAIRS: each MOMENT and the next one" */
    private static void pairsOfNeighbours() {
        due("one moment is no pair", Score.of("D3 | C3"), 4, "");
        due("two moments", Score.of("D3 . | C3 -"), 4, "");
        due("two moments", Score.of("C3 D3 | C4 D4"), 0, "10:0-1");
        due("not the next but one", Score.of("C3 E3 D3 | C4 G4 D4"), 0, "");
        due("nor over a rest", Score.of("C3 - D3 | C4 . D4"), 0, "");
        due("not backwards", Score.of("B2 C3 | - -"), 8, "");
        due("each and the next", Score.of("C3 D3 E3 F3 | C4 D4 E4 F4"), 0, "10:0-1 20:0-1 30:0-1");
        due("a moment of a third voice parts them", Score.of("C3 . D3 | C4 D4 . | - - -"), 0, "");
    }

    private static LeadFaults repeating(String score, int from, int to) {
        LeadFaults x = Score.of(score);
        x.repeat(from, to);
        return x;
    }

    /** "for each REPEAT (from, to): the last MOMENT earlier than to" */
    private static void repeatsTo() {
        String score = ". C3 G3 D3 | . C4 B4 D4";
        due("to is its time", repeating(score, 0, 30), 0, "");
        due("to is one later", repeating(score, 0, 31), 0, "10:0-1");
        due("to is the last time", repeating(score, 0, 999), 0, "10:0-1");
        due("to is one before", repeating(score, 0, 29), 0, "");
    }

    /** "and the first one not earlier than from" */
    private static void repeatsFrom() {
        String score = "G2 C3 G3 D3 | B4 C4 B4 D4";
        due("from is its time", repeating(score, 10, 999), 0, "10:0-1");
        due("from is one before", repeating(score, 9, 999), 0, "10:0-1");
        due("from is one after the one before", repeating(score, 1, 999), 0, "10:0-1");
        due("from is the one before", repeating(score, 0, 999), 0, "");
        due("from is one later", repeating(score, 11, 999), 0, "");
    }

    /** "if the first of these is not earlier than the second": a REPEAT without a MOMENT in it adds nothing. */
    private static void repeatsThatAreNone() {
        String score = ". F3 A3 | . A4 F#4";
        due("no repeat", Score.of(score), 11, "20:0-1");
        due("around them", repeating(score, 10, 21), 11, "10:1-0 20:0-1");
        due("right after one, up to the next", repeating(score, 11, 20), 11, "20:0-1");
        due("before all moments, up to the first", repeating(score, 0, 10), 11, "20:0-1");
        due("after all moments", repeating(score, 21, 999), 11, "20:0-1");
        due("after all moments", repeating(score, 998, 999), 11, "20:0-1");
        due("one moment, before it", repeating(". D3 | . C3", 0, 10), 4, "");
        due("one moment, after it", repeating(". D3 | . C3", 11, 999), 4, "");
        LeadFaults empty = new LeadFaults(2);
        empty.repeat(0, 999);
        DUE.same("no moments", empty.judge(), 0);
    }

    /** "(also one MOMENT with itself)" */
    private static void repeatsOfOneMoment() {
        due("relation of a moment with itself", repeating("F3 | F#4", 0, 1), 11, "0:0-1 0:1-0");
        due("overlap of a moment with itself", repeating("D3 | C3", 0, 1), 4, "0:0-1");
        due("in the midst", repeating("C3 D3 - | C4 C3 -", 10, 20), 4, "10:0-1");
        due("nothing moves in it", repeating("B2 | B3", 0, 1), 8, "");
        LeadFaults last = new LeadFaults(2);
        last.note(0, 998, 22, 0);
        last.note(1, 998, 21, 0);
        last.repeat(998, 999);
        due("the last repeat of all", last, 4, "998:0-1");
    }

    private static void repeatsOnGrid() {
        LeadFaults x = Score.of("C3 . . D3 | C4 . . D4");
        x.rest(0, 55);
        x.grid(20);
        due("no repeat", x, 0, "40:0-1");
        x.repeat(0, 40);
        due("to is a time of the grid", x, 0, "40:0-1");
        x.repeat(1, 41);
        due("from is later than a time of the grid", x, 0, "20:0-1 40:0-1");
        x.repeat(0, 41);
        due("from is a time of the grid", x, 0, "0:0-1 20:0-1 40:0-1");
    }

    /** "A VOICE GOES in a PAIR, if it has a NOTE at both" */
    private static void goes() {
        due("both go", Score.of("C3 E3 | D3 D3"), 4, "10:0-1");
        due("a has no second", Score.of("E3 - | C3 D3"), 4, "");
        due("a has no first", Score.of("- E3 | D3 D3"), 4, "");
        due("b has no second", Score.of("C3 E3 | D3 -"), 4, "");
        due("b has no first", Score.of("C3 E3 | - D3"), 4, "");
        due("a note that is held goes", Score.of("C3 . | D3 Cb3"), 4, "10:0-1");
    }

    /** "it MOVES, if it GOES, and these differ in STEP or SHARPNESS" */
    private static void moves() {
        due("in step and sharpness", Score.of("B2 Cb3 | -"), 8, "10:0");
        due("in step alone", Score.of("B2 A2 | -"), 8, "10:0");
        due("in sharpness alone", Score.of("B2 Bb2 | -"), 8, "10:0");
        due("in step, not in height", Score.of("B2 Cb3 | -"), 7, "10:0");
        due("in neither, a new event", Score.of("B2 B2 | -"), 8, "");
        due("in neither, held", Score.of("B2 . | C3 D3"), 8, "");
        due("it does not go", Score.of("B2 - | C3 D3"), 8, "");
    }

    /** "UP: the second one's HEIGHT is greater; DOWN: it is less. .. ALIKE, if both UP, or both DOWN; APART, ..." */
    private static void upAndDown() {
        due("both up by 1", Score.of("C3 C#3 | C4 C#4"), 0, "10:0-1");
        due("both down by 1", Score.of("C#3 C3 | C#4 C4"), 0, "10:0-1");
        due("moving on one height is neither", Score.of("C#3 Db3 | C#4 Db4"), 0, "");
        due("nor is it apart", Score.of("C#3 Db3 | C#4 Db4"), 1, "");
        due("one up, one down", Score.of("C3 D3 | C5 D4"), 1, "10:0-1");
        due("one down, one up", Score.of("D3 C3 | D4 C5"), 1, "10:0-1");
        due("apart is not alike", Score.of("C3 D3 | C5 D4"), 0, "");
        due("alike is not apart", Score.of("C3 D3 | C4 D4"), 1, "");
        due("one stays, one up", Score.of("C3 . | C4 C5"), 0, "");
        due("one stays, one down", Score.of("C3 . | C5 C4"), 1, "");
        due("up in height, down in step", Score.of("C3 B##2 | C4 B##4"), 0, "10:0-1");
        due("a step up, but down in height", Score.of("B##2 C3 | B##3 C4"), 0, "10:0-1");
    }

    /** "EIGHTH, if S modulo 7 is 0 and H modulo 12 is 0; FIFTH, if S modulo 7 is 4 and H modulo 12 is 7; HARSH, .." */
    private static void intervals() {
        for (int low = 20; low <= 28; low++) {
            for (int high = 0; high <= 55; high++) {
                for (int sharps = 0; sharps < 25; sharps++) {
                    LeadFaults x = new LeadFaults(2);
                    x.note(0, 0, low, sharps / 5 - 2);
                    x.note(1, 0, high, sharps % 5 - 2);
                    int h = Score.height(high, sharps % 5 - 2) - Score.height(low, sharps / 5 - 2);
                    DUE.same("interval of " + low + ", " + high + ", sharps " + sharps, x.interval(0, 1, 0),
                            intervalDue(high - low, h));
                }
            }
        }
    }

    /** "(What is left, 0 or more.)" */
    private static int intervalDue(int steps, int heights) {
        int s = Math.floorMod(steps, 7);
        int h = Math.floorMod(heights, 12);
        if (h == 0 && s == 0) {
            return 1;
        }
        if (h == 7 && s == 4) {
            return 2;
        }
        return h == 1 || h == 2 || h == 6 || h == 10 || h == 11 ? 3 : 0;
    }

    /** "at a MOMENT, if both have a NOTE" */
    private static void intervalsOfSilence() {
        String[] scores = {"C3 | -", "- | C3", "- | -", ". C3 | C3 C3", "C3 C3 | . C3"};
        for (String score : scores) {
            DUE.same("interval of " + score, Score.of(score).interval(0, 1, 0), LeadFaults.SILENT);
        }
        DUE.same("a third voice does not matter", Score.of("C3 | C4 | -").interval(0, 1, 0), 1);
        DUE.same("a second voice does not matter", Score.of("C3 | - | C4").interval(0, 2, 0), 1);
    }

    /** "THE KEY is a number f of FIFTHS, -7 .. 7 (0 at first)" */
    private static void keyAtFirst() {
        DUE.same("key at first", new LeadFaults(2).key(5), 0);
        due("leading notes at first", Score.of("B2 | B3 | F#4"), 9, "0:0-1");
        for (int fifths = -8; fifths <= 8; fifths++) {
            LeadFaults x = new LeadFaults(2);
            boolean isOne = fifths >= -7 && fifths <= 7;
            DUE.same("key(" + fifths + ")", x.key(fifths), isOne ? 0 : LeadFaults.SILENT);
            DUE.same("then it is", x.key(0), isOne ? fifths : 0);
        }
    }

    /** "LETTER (4 f + 6) modulo 7 and this SHARPNESS: ..": every NOTE of an octave in every KEY. */
    private static void leadingNotes() {
        String[] leading = {"Bb", "F", "C", "G", "D", "A", "E", "B", "F#", "C#", "G#", "D#", "A#", "E#", "B#"};
        for (int fifths = -7; fifths <= 7; fifths++) {
            for (int step = 14; step < 21; step++) {
                for (int sharpness = -2; sharpness <= 2; sharpness++) {
                    LeadFaults x = new LeadFaults(2);
                    x.key(fifths);
                    x.note(0, 0, step, sharpness);
                    x.note(0, 1, step - 2, sharpness);
                    String note = leading[fifths + 7] + "2";
                    boolean isLeading = Score.step(note) == step && Score.sharpness(note) == sharpness;
                    due("key " + fifths + ", " + step + ", " + sharpness, x, 8, isLeading ? "1:0" : "");
                }
            }
        }
    }
}
