/** Promises 10 and 16 to 19: grid, moments, time, height, interval. */
public final class MomentsTest {
    private static final Due DUE = new Due();
    private static final int LEAST = Integer.MIN_VALUE;
    private static final int MOST = Integer.MAX_VALUE;

    private MomentsTest() {
    }

    public static void main(String[] args) {
        eventTimes();
        grids();
        most();
        heights();
        intervals();
        DUE.end();
    }

    private static void eventTimes() {
        LeadFaults x = new LeadFaults(3);
        DUE.same("moments of nothing", x.moments(), 0);
        DUE.same("time of nothing", x.time(0), LeadFaults.BAD);
        x.note(2, 7, 20, 0);
        x.rest(2, 30);
        x.note(0, 7, 20, 0);
        x.note(0, 8, 20, 0);
        x.rest(1, 0);
        x.note(1, 999, 20, 0);
        DUE.same("times rise, each once", Score.times(x), "0 7 8 30 999");
        DUE.same("moments", x.moments(), 5);
        int[] bad = {-1, 5, LEAST, MOST};
        for (int b : bad) {
            DUE.same("time(" + b + ")", x.time(b), LeadFaults.BAD);
        }
    }

    private static void grids() {
        LeadFaults x = new LeadFaults(2);
        DUE.same("grid without events", x.grid(10), 0);
        DUE.same("moments", x.moments(), 0);
        x.rest(1, 0);
        DUE.same("one event at 0", Score.times(x), "0");
        x.note(1, 29, 20, 0);
        DUE.same("not later than the last", Score.times(x), "0 10 20");
        x.note(0, 30, 20, 0);
        DUE.same("the last itself", Score.times(x), "0 10 20 30");
        DUE.same("grid(13)", x.grid(13), 3);
        DUE.same("grid 13", Score.times(x), "0 13 26");
        int[] bad = {-1, 1, 9, -10, 501, LEAST, MOST};
        for (int b : bad) {
            DUE.same("grid(" + b + ")", x.grid(b), LeadFaults.BAD);
        }
        DUE.same("nothing changed", Score.times(x), "0 13 26");
        DUE.same("silent before the first note", x.height(1, 0), LeadFaults.SILENT);
        DUE.same("silent before the first note", x.height(1, 2), LeadFaults.SILENT);
        DUE.same("grid(500)", x.grid(500), 1);
        DUE.same("grid(0)", x.grid(0), 3);
        DUE.same("grid off", Score.times(x), "0 29 30");
        x.grid(10);
        x.take(0);
        DUE.same("the last one goes", Score.times(x), "0 10 20");
    }

    private static void most() {
        LeadFaults x = new LeadFaults(5);
        for (int i = 0; i < 24; i++) {
            for (int voice = 0; voice < 5; voice++) {
                x.note(voice, 40 * i + 7 * voice, i + 7 * voice, i % 5 - 2);
            }
        }
        DUE.same("120 moments", x.moments(), 120);
        DUE.same("last time", x.time(119), 40 * 23 + 28);
        DUE.same("beyond", x.time(120), LeadFaults.BAD);
        DUE.same("judge ends", x.judge() > 0 ? 1 : 0, 1);
        DUE.same("last fault is near the end", x.fault(x.count(14) - 1, 4), 119);
        DUE.same("grid(10)", x.grid(10), 95);
        x.take(4);
        x.rest(4, 999);
        DUE.same("most moments of a grid", x.moments(), 100);
        DUE.same("last time of a grid", x.time(99), 990);
    }

    private static void heights() {
        for (int step = 0; step <= 55; step++) {
            LeadFaults x = new LeadFaults(2);
            for (int sharpness = -2; sharpness <= 2; sharpness++) {
                x.note(1, sharpness + 2, step, sharpness);
                DUE.same("height of " + step + ", " + sharpness, x.height(1, sharpness + 2),
                        Score.height(step, sharpness));
            }
        }
        LeadFaults x = Score.of("C3 - . D3 | . E3 . .");
        DUE.same("note", x.height(0, 0), 36);
        DUE.same("rest", x.height(0, 1), LeadFaults.SILENT);
        DUE.same("before its first event", x.height(1, 0), LeadFaults.SILENT);
        DUE.same("held", x.height(1, 2), 40);
        DUE.same("after the rest", x.height(0, 2), 38);
        int[][] bad = {{-1, 0}, {2, 0}, {LEAST, 0}, {MOST, 0}, {0, -1}, {0, 3}, {0, LEAST}, {0, MOST}};
        for (int[] b : bad) {
            DUE.same("height(" + b[0] + ", " + b[1] + ")", x.height(b[0], b[1]), LeadFaults.BAD);
        }
        longVoice();
    }

    private static void longVoice() {
        LeadFaults x = new LeadFaults(2);
        for (int i = 0; i < 24; i++) {
            x.note(0, 20 * i + 10, i, 0);
        }
        for (int i = 0; i < 24; i++) {
            x.rest(1, 20 * i + 9);
        }
        DUE.same("before the first", x.height(0, 0), LeadFaults.SILENT);
        for (int i = 0; i < 24; i++) {
            int due = Score.height(i, 0);
            DUE.same("at event " + i, x.height(0, 2 * i + 1), due);
            DUE.same("just before the next of " + i, i < 23 ? x.height(0, 2 * i + 2) : due, due);
        }
    }

    private static void intervals() {
        String[][] due = {
            {"C3 | C3", "1"}, {"C3 | C4", "1"}, {"C3 | C6", "1"}, {"C4 | C3", "1"}, {"C3 | C#4", "3"},
            {"C3 | B#3", "0"}, {"C3 | Dbb4", "0"}, {"C3 | G3", "2"}, {"C3 | G5", "2"}, {"F3 | C3", "2"},
            {"G3 | C3", "0"}, {"C3 | Abb3", "0"}, {"C3 | F##3", "0"}, {"B2 | F3", "3"}, {"F2 | B2", "3"},
            {"C3 | Db3", "3"}, {"C3 | D3", "3"}, {"C3 | Eb3", "0"}, {"C3 | E3", "0"}, {"C3 | F3", "0"},
            {"C3 | Ab3", "0"}, {"C3 | A3", "0"}, {"C3 | Bb3", "3"}, {"C3 | B3", "3"}, {"D3 | C3", "3"},
            {"E3 | C3", "0"}, {"C3 | Cb3", "3"}, {"C#3 | C3", "3"}, {"C3 | G#3", "0"}, {"C3 | Gb3", "3"},
            {"C3 | -", "-100"}, {"- | C3", "-100"}, {"- | -", "-100"}};
        for (String[] d : due) {
            DUE.same(d[0], String.valueOf(Score.of(d[0]).interval(0, 1, 0)), d[1]);
        }
        LeadFaults x = Score.of("C3 D3 | E3 . | G3 -");
        DUE.same("interval(0, 2, 0)", x.interval(0, 2, 0), 2);
        DUE.same("interval(1, 2, 0)", x.interval(1, 2, 0), 0);
        DUE.same("interval(0, 1, 1)", x.interval(0, 1, 1), 3);
        DUE.same("interval(1, 2, 1)", x.interval(1, 2, 1), LeadFaults.SILENT);
        int[][] bad = {{-1, 0, 0}, {0, 3, 0}, {0, 0, 0}, {1, 0, 0}, {2, 1, 0}, {0, 1, -1}, {0, 1, 2},
            {LEAST, 1, 0}, {0, MOST, 0}, {0, 1, LEAST}, {0, 1, MOST}, {3, 4, 0}};
        for (int[] b : bad) {
            String call = "interval(" + b[0] + ", " + b[1] + ", " + b[2] + ")";
            DUE.same(call, x.interval(b[0], b[1], b[2]), LeadFaults.BAD);
        }
    }
}
