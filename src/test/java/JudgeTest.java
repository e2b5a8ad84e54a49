/** Promises 10 to 15: judge with a grid, repeats and exceptions; fault and count, by the last judge. */
public final class JudgeTest {
    private static final Due DUE = new Due();
    private static final int LEAST = Integer.MIN_VALUE;
    private static final int MOST = Integer.MAX_VALUE;

    private JudgeTest() {
    }

    public static void main(String[] args) {
        order();
        tellsOfFaults();
        lastJudgeStays();
        exceptions();
        repeatPairs();
        eachOnce();
        gridPairs();
        DUE.end();
    }

    private static void order() {
        due("C3 D3 | C4 D4 | C4 A3 | G4 E4", "0/13:1-2 1/0:0-1 1/0:2-3 1/3:1-2 1/4:1-2");
        due("C3 D3 | B3 C4 | B4 A4", "0/9:1-2 1/8:2 1/10:1");
        due("C3 D3 E3 | G3 A3 B3 | E4 D4 F4", "1/0:0-1 2/0:0-1 2/12:0-2 2/12:1-2");
        due("F3 . | F#4 . | A4 B4", "1/11:0-1 1/11:1-0");
        due("C3 E3 | G3 B3", "1/0:0-1");
        due("C3 - | - C3", "");
        DUE.same("judge of nothing", new LeadFaults(5).judge(), 0);
    }

    private static void due(String score, String want) {
        LeadFaults x = Score.of(score);
        int many = want.isEmpty() ? 0 : want.split(" ").length;
        DUE.same("judge of " + score, x.judge(), many);
        DUE.same("faults of " + score, Score.told(x), want);
        DUE.same("count of " + score, x.count(14), many);
        int sum = 0;
        for (int kind = 0; kind < 14; kind++) {
            sum += x.count(kind);
        }
        DUE.same("sum of counts of " + score, sum, many);
    }

    private static void tellsOfFaults() {
        LeadFaults x = Score.of("C3 . D3 | B3 . C4 | B4 . A4");
        DUE.same("fault before judge", x.fault(0, 0), LeadFaults.BAD);
        DUE.same("count before judge", x.count(14), 0);
        DUE.same("judge", x.judge(), 3);
        int[][] due = {{9, 0, 1, 2, 0}, {8, 20, 2, LeadFaults.NONE, 1}, {10, 20, 1, LeadFaults.NONE, 1}};
        for (int i = 0; i < 3; i++) {
            for (int what = 0; what < 5; what++) {
                DUE.same("fault(" + i + ", " + what + ")", x.fault(i, what), due[i][what]);
            }
        }
        int[][] bad = {{-1, 0}, {3, 0}, {LEAST, 0}, {MOST, 0}, {0, -1}, {0, 5}, {0, LEAST}, {0, MOST}};
        for (int[] b : bad) {
            DUE.same("fault(" + b[0] + ", " + b[1] + ")", x.fault(b[0], b[1]), LeadFaults.BAD);
        }
        for (int kind = 0; kind < 14; kind++) {
            DUE.same("count(" + kind + ")", x.count(kind), kind >= 8 && kind <= 10 ? 1 : 0);
        }
        DUE.same("count(14)", x.count(14), 3);
        DUE.same("count(15)", x.count(15), 0);
        int[] badKinds = {-1, 16, LEAST, MOST};
        for (int b : badKinds) {
            DUE.same("count(" + b + ")", x.count(b), LeadFaults.BAD);
        }
        x.style(4);
        DUE.same("judge without rules", x.judge(), 0);
        DUE.same("no fault", x.fault(0, 0), LeadFaults.BAD);
        DUE.same("no count", x.count(14), 0);
    }

    private static void lastJudgeStays() {
        LeadFaults x = new LeadFaults(3);
        x.note(0, 50, 14, 0);
        x.note(1, 50, 21, 0);
        x.note(0, 60, 15, 0);
        x.note(1, 60, 22, 0);
        x.judge();
        DUE.same("judged", Score.told(x), "1/0:0-1");
        x.rest(2, 5);
        x.rule(0, 0);
        x.except(0, 60);
        x.take(0);
        x.take(1);
        x.take(1);
        x.grid(500);
        DUE.same("not judged again", Score.told(x), "1/0:0-1");
        DUE.same("time as judged", x.fault(0, 1), 60);
        DUE.same("count as judged", x.count(0), 1);
        DUE.same("none excepted then", x.count(15), 0);
        x.clear();
        DUE.same("cleared", x.fault(0, 1), LeadFaults.BAD);
    }

    private static void exceptions() {
        LeadFaults x = Score.of("C2 D2 E2 | G2 A2 B2 | C3 D3 E3");
        x.style(3);
        DUE.same("no exceptions", x.judge(), 4);
        x.except(0, 20);
        DUE.same("two left", x.judge(), 2);
        DUE.same("told", Score.told(x), "1/0:0-1 1/0:0-2");
        DUE.same("count(0)", x.count(0), 2);
        DUE.same("count(14)", x.count(14), 2);
        DUE.same("count(15)", x.count(15), 2);
        x.except(1, 10);
        x.except(0, 15);
        x.except(0, 9);
        DUE.same("another kind, other times", x.judge(), 2);
        DUE.same("count(15)", x.count(15), 2);
        x.except(0, 10);
        DUE.same("none left", x.judge(), 0);
        DUE.same("all excepted", x.count(15), 4);
        x.rule(0, 0);
        x.judge();
        DUE.same("no faults, none excepted", x.count(15), 0);
        x.rule(0, 1);
        x.grid(20);
        x.judge();
        DUE.same("by time, not by number", x.count(15), 2);
        DUE.same("by time, not by number", x.count(14), 0);
        LeadFaults y = Score.of("C3 D3 | B3 C4 | B4 A4");
        y.except(8, 10);
        y.except(9, 0);
        DUE.same("each kind by itself", y.judge(), 1);
        DUE.same("each kind by itself", Score.told(y), "1/10:1");
        DUE.same("each kind by itself", y.count(15), 2);
    }

    private static void repeatPairs() {
        String[][] due = {{"0 30", "0:0-1"}, {"0 21", "0:0-1"}, {"0 20", ""}, {"0 999", "0:0-1"}, {"1 30", ""}};
        for (String[] d : due) {
            String[] times = d[0].split(" ");
            LeadFaults x = Score.of("C3 E3 D3 | C4 G4 D4");
            x.repeat(Integer.parseInt(times[0]), Integer.parseInt(times[1]));
            DUE.same("repeat " + d[0], Score.faults(x, 0), d[1]);
        }
        LeadFaults later = Score.of("G2 C3 E3 D3 | A4 C4 G4 D4");
        later.repeat(1, 31);
        DUE.same("first not earlier than from", Score.faults(later, 0), "10:0-1");
        withItself();
    }

    private static void withItself() {
        String[][] due = {{"0 1", "0:0-1"}, {"0 999", "0:0-1"}, {"1 999", ""}};
        for (String[] d : due) {
            String[] times = d[0].split(" ");
            LeadFaults x = Score.of("D3 | C3");
            DUE.same("no pair", Score.faults(x, 4), "");
            x.repeat(Integer.parseInt(times[0]), Integer.parseInt(times[1]));
            DUE.same("repeat " + d[0] + " of one moment", Score.faults(x, 4), d[1]);
        }
        LeadFaults early = new LeadFaults(2);
        early.note(0, 50, 22, 0);
        early.note(1, 50, 21, 0);
        early.repeat(0, 50);
        DUE.same("no moment earlier than to", Score.faults(early, 4), "");
        early.repeat(50, 51);
        DUE.same("one moment with itself", Score.faults(early, 4), "50:0-1");
        LeadFaults relation = Score.of("F3 | F#4");
        relation.repeat(0, 5);
        DUE.same("relation with itself", Score.faults(relation, 11), "0:0-1 0:1-0");
        DUE.same("nothing moves", Score.faults(relation, 0), "");
        LeadFaults empty = new LeadFaults(2);
        empty.repeat(0, 999);
        DUE.same("repeat of nothing", empty.judge(), 0);
    }

    private static void eachOnce() {
        LeadFaults x = Score.of("C3 D3 E3 | C4 D4 E4");
        x.repeat(10, 30);
        DUE.same("from both sides", Score.faults(x, 0), "10:0-1 20:0-1");
        x.repeat(0, 30);
        x.repeat(0, 30);
        x.repeat(0, 20);
        DUE.same("from several repeats", Score.faults(x, 0), "0:0-1 10:0-1 20:0-1");
        x.except(0, 0);
        DUE.same("judge", x.judge(), 2);
        DUE.same("excepted once", x.count(15), 1);
    }

    private static void gridPairs() {
        LeadFaults x = Score.of("C3 D3 E3 | C4 E4 E4");
        DUE.same("by events", Score.faults(x, 0), "");
        x.grid(20);
        DUE.same("by a grid", Score.faults(x, 0), "20:0-1");
        LeadFaults fine = new LeadFaults(2);
        fine.note(0, 0, 21, 0);
        fine.note(1, 0, 28, 0);
        fine.note(0, 15, 22, 0);
        fine.note(1, 18, 29, 0);
        fine.rest(0, 40);
        DUE.same("one after the other", Score.faults(fine, 0), "");
        fine.grid(10);
        DUE.same("side by side on the grid", Score.faults(fine, 0), "20:0-1");
        DUE.same("moment on the grid", fine.fault(0, 4), 2);
    }
}
