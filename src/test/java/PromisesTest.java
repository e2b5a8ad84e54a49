/**
 * The sentences of promises 1 to 20, one test for each, at the bounds that they name: empty, full, least, most.
 * RefusalsTest has the numbers outside, and that what is refused changes nothing.
 */
public final class PromisesTest {
    private static final Due DUE = new Due();
    private static final int LEAST = Integer.MIN_VALUE;
    private static final int MOST = Integer.MAX_VALUE;

    private PromisesTest() {
    }

    public static void main(String[] args) {
        newVoices();
        newIsEmpty();
        clearAnswers();
        clearIsAsAtFirst();
        noteAnswers();
        restAnswers();
        takeAnswers();
        takeGivesRoom();
        ruleAnswers();
        styleAnswers();
        keyAnswers();
        rangeAnswers();
        rangeBounds();
        gridAnswers();
        repeatAnswers();
        exceptAnswers();
        judgeAnswers();
        judgeIsAsItIsNow();
        faultAnswers();
        faultWithoutJudging();
        countAnswers();
        countWithoutJudging();
        momentsAnswers();
        timeAnswers();
        heightAnswers();
        intervalAnswers();
        eventAnswers();
        emptyObject();
        fullObject();
        DUE.end();
    }

    /** 1: "So many VOICES, 2 .. 5 (a number that is none counts as the nearest that is)" */
    private static void newVoices() {
        int[][] due = {{LEAST, 2}, {-5, 2}, {-1, 2}, {0, 2}, {1, 2}, {2, 2}, {3, 3}, {4, 4}, {5, 5}, {6, 5}, {7, 5},
            {258, 5}, {MOST, 5}};
        for (int[] d : due) {
            LeadFaults x = new LeadFaults(d[0]);
            for (int voice = 0; voice < 7; voice++) {
                int answer = voice < d[1] ? LeadFaults.NONE : LeadFaults.BAD;
                DUE.same("take(" + voice + ") of " + d[0], x.take(voice), answer);
            }
            DUE.same("interval of the outer voices of " + d[0], outerInterval(x, d[1] - 1), 1);
        }
    }

    private static int outerInterval(LeadFaults x, int highest) {
        x.note(0, 0, 7, 0);
        x.note(highest, 0, 14, 0);
        return x.interval(0, highest, 0);
    }

    /** 1: "no EVENTS, REPEATS, EXCEPTIONS; GRID 0; nothing is judged" */
    private static void newIsEmpty() {
        for (int voices = 2; voices <= 5; voices++) {
            asAtFirst("new of " + voices, new LeadFaults(voices), voices);
        }
    }

    private static void asAtFirst(String name, LeadFaults x, int voices) {
        DUE.same(name + ": moments", x.moments(), 0);
        DUE.same(name + ": a fault", x.fault(0, 0), LeadFaults.BAD);
        for (int kind = 0; kind <= 15; kind++) {
            DUE.same(name + ": count " + kind, x.count(kind), 0);
        }
        DUE.same(name + ": judge", x.judge(), 0);
        for (int voice = 0; voice < voices; voice++) {
            DUE.same(name + ": event", x.event(voice, 0, 0), LeadFaults.BAD);
            DUE.same(name + ": take", x.take(voice), LeadFaults.NONE);
        }
        DUE.same(name + ": one voice more", x.take(voices), LeadFaults.BAD);
        DUE.same(name + ": key", x.key(0), 0);
        for (int kind = 0; kind < 14; kind++) {
            DUE.same(name + ": rule " + kind, x.rule(kind, 1), 1);
        }
        limitsAtFirst(name, x, voices);
        noRepeatsNorExceptions(name, x);
    }

    private static void limitsAtFirst(String name, LeadFaults x, int voices) {
        StringBuilder due = new StringBuilder();
        for (int voice = 0; voice < voices; voice++) {
            x.note(voice, 1, 0, -1);
            x.note(voice, 2, 0, 0);
            x.note(voice, 3, 55, 1);
            x.note(voice, 4, 55, 2);
        }
        for (int time = 1; time <= 4; time += 3) {
            for (int voice = 0; voice < voices; voice++) {
                due.append(due.length() > 0 ? " " : "").append(time).append(':').append(voice);
            }
        }
        DUE.same(name + ": moments without a grid", x.moments(), 4);
        DUE.same(name + ": LOW 0 and HIGH 96", Score.faults(x, 6), due.toString());
        DUE.same(name + ": nothing excepted", x.count(15), 0);
    }

    private static void noRepeatsNorExceptions(String name, LeadFaults x) {
        DUE.same(name + ": 1st repeat", x.repeat(0, 999), 1);
        for (int kind = 0; kind < 14; kind++) {
            DUE.same(name + ": exception " + kind, x.except(kind, 1), kind + 1);
        }
    }

    /** 2: "how many EVENTS there were" */
    private static void clearAnswers() {
        LeadFaults x = new LeadFaults(5);
        DUE.same("clear of nothing", x.clear(), 0);
        x.rest(4, 999);
        DUE.same("clear of a rest", x.clear(), 1);
        x.note(0, 0, 0, 0);
        x.take(0);
        DUE.same("clear of what was taken", x.clear(), 0);
        for (int voice = 0; voice < 5; voice++) {
            for (int i = 0; i < 25; i++) {
                x.note(voice, i, 20, 0);
            }
        }
        DUE.same("clear of all that can be", x.clear(), 120);
        DUE.same("clear again", x.clear(), 0);
    }

    /** 2: "All as at first (with as many VOICES)" */
    private static void clearIsAsAtFirst() {
        for (int voices = 2; voices <= 5; voices++) {
            LeadFaults x = new LeadFaults(voices);
            for (int voice = 0; voice < voices; voice++) {
                for (int i = 0; i < 24; i++) {
                    x.note(voice, 10 * i + voice, 20 + i % 3, 0);
                }
                x.range(voice, -2 + voice, 99 - voice);
            }
            x.key(7);
            x.style(4);
            x.rule(7, 1);
            x.grid(10);
            for (int i = 0; i < 20; i++) {
                x.repeat(i, 999);
                x.except(6, i);
            }
            x.judge();
            DUE.same("clear", x.clear(), 24 * voices);
            asAtFirst("cleared of " + voices, x, voices);
        }
    }

    /** 3: "A NOTE more of a VOICE: how many EVENTS it has" */
    private static void noteAnswers() {
        LeadFaults x = new LeadFaults(2);
        DUE.same("the first", x.note(1, 0, 55, -2), 1);
        for (int i = 1; i < 24; i++) {
            DUE.same("one more", x.note(1, 43 * i, 0, 2), i + 1);
        }
        DUE.same("one too many", x.note(1, 999, 0, 2), LeadFaults.FULL);
        DUE.same("the other voice's first", x.note(0, 999, 0, 0), 1);
        x.take(1);
        x.take(1);
        DUE.same("with a rest before", x.rest(1, 990) + x.note(1, 991, 0, 0), 23 + 24);
    }

    /** 4: "A REST, likewise" */
    private static void restAnswers() {
        LeadFaults x = new LeadFaults(2);
        DUE.same("the first", x.rest(0, 0), 1);
        for (int i = 1; i < 24; i++) {
            DUE.same("one more", x.rest(0, 43 * i), i + 1);
        }
        DUE.same("one too many", x.rest(0, 999), LeadFaults.FULL);
        DUE.same("the other voice's first", x.rest(1, 999), 1);
        DUE.same("not later", x.rest(1, 999), LeadFaults.LATE);
        DUE.same("a rest is none of the notes", x.event(1, 0, 1), LeadFaults.NONE);
    }

    /** 5: "A VOICE'S last EVENT goes: how many are left. .. NONE: it has none" */
    private static void takeAnswers() {
        LeadFaults x = new LeadFaults(2);
        DUE.same("none to take", x.take(0), LeadFaults.NONE);
        for (int i = 0; i < 24; i++) {
            x.note(0, i, i, 0);
        }
        x.rest(1, 5);
        for (int i = 23; i >= 0; i--) {
            DUE.same("take", x.take(0), i);
            DUE.same("the last is gone", x.event(0, i, 0), LeadFaults.BAD);
            DUE.same("the one before is there", i == 0 ? 0 : x.event(0, i - 1, 1) + 1, i);
        }
        DUE.same("none is left", x.take(0), LeadFaults.NONE);
        DUE.same("the other voice's is left", x.take(1), 0);
        DUE.same("none is left there", x.take(1), LeadFaults.NONE);
    }

    private static void takeGivesRoom() {
        LeadFaults x = new LeadFaults(2);
        for (int i = 0; i < 24; i++) {
            x.note(0, 10 * i, 20, 0);
        }
        x.take(0);
        DUE.same("at the time of the one that is last now", x.note(0, 220, 20, 0), LeadFaults.LATE);
        DUE.same("right after it", x.rest(0, 221), 24);
        DUE.same("full again", x.rest(0, 222), LeadFaults.FULL);
        LeadFaults y = new LeadFaults(2);
        y.rest(0, 999);
        y.take(0);
        DUE.same("any time after all are gone", y.rest(0, 0), 1);
    }

    /** 6: "A RULE is on (1) or off (0): what it was" */
    private static void ruleAnswers() {
        for (int kind = -1; kind <= 14; kind++) {
            boolean isOne = kind >= 0 && kind <= 13;
            LeadFaults x = new LeadFaults(2);
            int[] on = {1, 0, 0, 1, 1, 2, -1, 0};
            int[] was = {1, 1, 0, 0, 1, LeadFaults.BAD, LeadFaults.BAD, 1};
            for (int i = 0; i < on.length; i++) {
                DUE.same("rule(" + kind + ", " + on[i] + ")", x.rule(kind, on[i]), isOne ? was[i] : LeadFaults.BAD);
            }
            for (int other = 0; other < 14; other++) {
                DUE.same("rule " + other + " after " + kind, x.rule(other, 1), other == kind ? 0 : 1);
            }
        }
    }

    /** 7: "The RULES are as a STYLE, 0 .. 4, tells: how many are on", by each STYLE after each other one. */
    private static void styleAnswers() {
        String[] on = {"0 1 2 3 4 5 6 7 8 9 10 11 12 13 ", "0 2 3 5 6 7 8 9 10 11 ", "0 2 3 8 9 ", "0 ", ""};
        int[] many = {14, 10, 5, 1, 0};
        for (int before = 0; before < 5; before++) {
            for (int style = -1; style <= 5; style++) {
                LeadFaults x = new LeadFaults(2);
                x.style(before);
                boolean isOne = style >= 0 && style <= 4;
                String name = "style " + style + " after " + before;
                DUE.same(name, x.style(style), isOne ? many[style] : LeadFaults.BAD);
                StringBuilder seen = new StringBuilder();
                for (int kind = 0; kind < 14; kind++) {
                    seen.append(x.rule(kind, 0) == 1 ? kind + " " : "");
                }
                DUE.same(name, seen.toString(), on[isOne ? style : before]);
            }
        }
    }

    /** 8: "THE KEY: what it was; SILENT: it is not -7 .. 7" */
    private static void keyAnswers() {
        LeadFaults x = new LeadFaults(2);
        int[] keys = {7, -7, 8, -8, 6, -6, -6, LEAST, MOST, 0};
        int[] due = {0, 7, -100, -100, -7, 6, -6, -100, -100, -6};
        for (int i = 0; i < keys.length; i++) {
            DUE.same("key(" + keys[i] + ")", x.key(keys[i]), due[i]);
        }
    }

    /** 9: "how many NOTES among its EVENTS are out of them" */
    private static void rangeAnswers() {
        LeadFaults x = Score.of("C3 - C#3 D3 | D3 D3 - -");
        int[][] due = {{36, 38, 0}, {37, 38, 1}, {36, 37, 1}, {37, 37, 2}, {38, 38, 2}, {39, 39, 3}, {35, 35, 3},
            {35, 39, 0}, {-2, 35, 3}, {39, 99, 3}, {-2, -2, 3}, {99, 99, 3}, {-2, 99, 0}};
        for (int[] d : due) {
            DUE.same("range(0, " + d[0] + ", " + d[1] + ")", x.range(0, d[0], d[1]), d[2]);
        }
        DUE.same("equal notes, each", x.range(1, 37, 37), 2);
        LeadFaults y = new LeadFaults(2);
        DUE.same("no events", y.range(0, 50, 50), 0);
        y.rest(0, 0);
        DUE.same("a rest alone", y.range(0, 50, 50), 0);
        for (int i = 0; i < 24; i++) {
            y.note(1, i, 0, -2);
        }
        DUE.same("all of a full voice", y.range(1, -1, 99), 24);
        DUE.same("none of a full voice", y.range(1, -2, 99), 0);
        y.clear();
        y.note(1, 0, 55, 2);
        DUE.same("the highest note inside", y.range(1, 97, 97), 0);
        DUE.same("the highest note above", y.range(1, 96, 96), 1);
    }

    /** 9: "LOW and HIGH of a VOICE, HEIGHTS -2 .. 99: .. BAD: also LOW above HIGH" */
    private static void rangeBounds() {
        for (int low = -4; low <= 101; low++) {
            for (int high = -4; high <= 101; high++) {
                boolean isOne = low >= -2 && high <= 99 && low <= high;
                DUE.same("range(1, " + low + ", " + high + ")", new LeadFaults(2).range(1, low, high),
                        isOne ? 0 : LeadFaults.BAD);
            }
        }
    }

    /** 10: "GRID, 0 or 10 .. 500: how many MOMENTS there are then" */
    private static void gridAnswers() {
        for (int ticks = -12; ticks <= 512; ticks++) {
            LeadFaults x = new LeadFaults(2);
            x.rest(1, 7);
            x.rest(0, 999);
            boolean isOne = ticks == 0 || ticks >= 10 && ticks <= 500;
            int many = ticks == 0 || !isOne ? 2 : 999 / ticks + 1;
            DUE.same("grid(" + ticks + ")", x.grid(ticks), isOne ? many : LeadFaults.BAD);
            DUE.same("moments of grid " + ticks, x.moments(), many);
            DUE.same("no grid again", x.grid(0), 2);
        }
    }

    /** 11: "A REPEAT, 0 .. 999 both, from less than to: how many there are. .. FULL: 4 are there" */
    private static void repeatAnswers() {
        int[][] due = {{0, 1, 1}, {998, 999, 1}, {0, 999, 1}, {-1, 1, -2}, {0, 0, -2}, {1, 0, -2}, {999, 999, -2},
            {999, 1000, -2}, {998, 1000, -2}, {-1, 0, -2}, {999, 998, -2}, {500, 501, 1}, {500, 500, -2}};
        for (int[] d : due) {
            LeadFaults x = new LeadFaults(2);
            DUE.same("repeat(" + d[0] + ", " + d[1] + ")", x.repeat(d[0], d[1]), d[2]);
            DUE.same("one more", x.repeat(3, 5), d[2] == 1 ? 2 : 1);
        }
        LeadFaults x = new LeadFaults(2);
        int[] answers = {1, 2, 3, 4, LeadFaults.FULL, LeadFaults.FULL};
        for (int i = 0; i < answers.length; i++) {
            DUE.same("repeat " + (i + 1), x.repeat(5 - i, 10 * i + 6), answers[i]);
        }
        x.clear();
        DUE.same("room after clear", x.repeat(0, 1), 1);
        fourthRepeatCounts();
    }

    private static void fourthRepeatCounts() {
        LeadFaults x = Score.of("C3 . . . F3 | C4 . . . F#4");
        for (int i = 0; i < 3; i++) {
            x.repeat(0, 1);
        }
        DUE.same("three that do nothing", Score.faults(x, 11), "");
        x.repeat(40, 41);
        DUE.same("the fourth does", Score.faults(x, 11), "40:0-1 40:1-0");
    }

    /** 12: "An EXCEPTION: how many there are. .. NONE: it is there; FULL: 20 are" */
    private static void exceptAnswers() {
        int[][] due = {{0, 0, 1}, {13, 999, 1}, {0, 999, 1}, {13, 0, 1}, {-1, 0, -2}, {14, 0, -2}, {0, -1, -2},
            {13, 1000, -2}};
        for (int[] d : due) {
            LeadFaults x = new LeadFaults(2);
            DUE.same("except(" + d[0] + ", " + d[1] + ")", x.except(d[0], d[1]), d[2]);
            DUE.same("once more", x.except(d[0], d[1]), d[2] == 1 ? LeadFaults.NONE : d[2]);
            DUE.same("another", x.except(5, 500), d[2] == 1 ? 2 : 1);
        }
        LeadFaults x = new LeadFaults(2);
        for (int i = 0; i < 20; i++) {
            DUE.same("exception " + (i + 1), x.except(0, 10 * i), i + 1);
        }
        DUE.same("exception 21", x.except(0, 200), LeadFaults.FULL);
        for (int i = 0; i < 20; i++) {
            DUE.same("it is there", x.except(0, 10 * i), LeadFaults.NONE);
            DUE.same("another kind", x.except(1, 10 * i), LeadFaults.FULL);
        }
        for (int i = 0; i <= 23; i++) {
            x.note(0, 10 * i, 14 + i, 0);
            x.note(1, 10 * i, 21 + i, 0);
        }
        DUE.same("all twenty count", Score.faults(x, 0), "200:0-1 210:0-1 220:0-1 230:0-1");
        DUE.same("nineteen faults, none at 0", x.count(15), 19);
        x.clear();
        DUE.same("room after clear", x.except(0, 0), 1);
    }

    /** 13: "how many FAULTS are told" */
    private static void judgeAnswers() {
        DUE.same("no events", new LeadFaults(5).judge(), 0);
        DUE.same("rests alone", Score.of("- - | - - | - -").judge(), 0);
        DUE.same("one note", Score.of("C3 | .").judge(), 0);
        DUE.same("one fault", Score.of("C3 D3 | C4 D4").judge(), 1);
        LeadFaults x = Score.of("C3 D3 | C4 D4");
        x.except(0, 10);
        DUE.same("one excepted is not told", x.judge(), 0);
        LeadFaults y = Score.of("C3 D3 | C4 D4");
        y.style(4);
        DUE.same("no rules", y.judge(), 0);
    }

    /** 13: "All is judged as it is now": after each thing that can be changed. */
    private static void judgeIsAsItIsNow() {
        LeadFaults x = Score.of("C3 D3 | C4 D4");
        judged("new", x, "1/0:0-1");
        x.note(0, 20, 23, 0);
        x.note(1, 20, 30, 0);
        judged("two notes more", x, "1/0:0-1 2/0:0-1");
        x.rule(0, 0);
        judged("a rule off", x, "");
        x.style(3);
        judged("a style", x, "1/0:0-1 2/0:0-1");
        x.repeat(0, 999);
        judged("a repeat", x, "0/0:0-1 1/0:0-1 2/0:0-1");
        x.except(0, 10);
        judged("an exception", x, "0/0:0-1 2/0:0-1");
        x.grid(20);
        judged("a grid", x, "0/0:0-1 1/0:0-1");
        x.take(0);
        judged("a note less", x, "");
        x.rule(6, 1);
        judged("a rule on", x, "");
        x.range(0, 99, 99);
        judged("a range", x, "0/6:0 1/6:0");
        x.rule(9, 1);
        judged("a rule on in the first key", x, "0/6:0 1/6:0");
        x.key(-5);
        judged("a key", x, "0/6:0 0/9:0-1 1/6:0");
        x.rest(0, 40);
        judged("a rest", x, "0/6:0 0/9:0-1 1/6:0");
        DUE.same("a moment more", x.moments(), 3);
        x.clear();
        judged("cleared", x, "");
    }

    private static void judged(String name, LeadFaults x, String want) {
        x.judge();
        DUE.same("judged after " + name, Score.told(x), want);
    }

    /** 14: "what = 0 the KIND, 1 the TIME of the MOMENT, 2 a, 3 b (NONE), 4 the number of the MOMENT" */
    private static void faultAnswers() {
        LeadFaults x = Score.of("C3 . D3 | C4 . D4 | - . B3");
        x.range(2, 99, 99);
        x.judge();
        int[][] due = {{0, 20, 0, 1, 1}, {3, 20, 1, 2, 1}, {6, 20, 2, LeadFaults.NONE, 1}};
        for (int i = -1; i <= due.length; i++) {
            for (int what = -1; what <= 5; what++) {
                boolean isOne = i >= 0 && i < due.length && what >= 0 && what <= 4;
                DUE.same("fault(" + i + ", " + what + ")", x.fault(i, what), isOne ? due[i][what] : LeadFaults.BAD);
            }
        }
    }

    /** 14: "BAD: also before the first one" */
    private static void faultWithoutJudging() {
        LeadFaults x = Score.of("C3 D3 | C4 D4");
        for (int what = -1; what <= 5; what++) {
            DUE.same("before the first judging", x.fault(0, what), LeadFaults.BAD);
        }
        x.judge();
        DUE.same("after it", x.fault(0, 0), 0);
        x.except(0, 10);
        x.judge();
        DUE.same("none told", x.fault(0, 0), LeadFaults.BAD);
        Score.write(x, 0, 30, "F#2");
        x.judge();
        x.clear();
        DUE.same("after clear", x.fault(0, 0), LeadFaults.BAD);
    }

    /** 15: "how many FAULTS of a KIND were told; of KIND 14 all; 15 how many were EXCEPTED. BAD." */
    private static void countAnswers() {
        LeadFaults x = Score.of("C3 D3 | C4 D4 | C4 D4");
        x.rule(4, 0);
        x.except(13, 0);
        x.judge();
        int[] due = {3, 0, 0, 0, 0, 0, 0, 0, 0, 0, 0, 0, 0, 1, 4, 1};
        for (int kind = -1; kind <= 16; kind++) {
            boolean isOne = kind >= 0 && kind <= 15;
            DUE.same("count(" + kind + ")", x.count(kind), isOne ? due[kind] : LeadFaults.BAD);
        }
        x.except(0, 10);
        x.except(13, 10);
        x.rule(13, 0);
        DUE.same("as the last judging left it", x.count(14), 4);
        DUE.same("as the last judging left it", x.count(15), 1);
        x.judge();
        DUE.same("a rule that is off excepts nothing", x.count(15), 3);
        DUE.same("none told", x.count(14), 0);
    }

    /** 15: "(0 before the first one)" */
    private static void countWithoutJudging() {
        LeadFaults x = Score.of("C3 D3 | C4 D4");
        x.except(0, 10);
        for (int kind = -1; kind <= 16; kind++) {
            boolean isOne = kind >= 0 && kind <= 15;
            DUE.same("count(" + kind + ") before judging", x.count(kind), isOne ? 0 : LeadFaults.BAD);
        }
        x.judge();
        DUE.same("after it", x.count(15), 1);
        x.clear();
        DUE.same("after clear", x.count(15), 0);
    }

    /** 16: "How many MOMENTS there are" */
    private static void momentsAnswers() {
        LeadFaults x = new LeadFaults(5);
        DUE.same("none", x.moments(), 0);
        for (int i = 0; i < 24; i++) {
            for (int voice = 0; voice < 5; voice++) {
                x.rest(voice, 5 * i + voice);
                DUE.same("one more", x.moments(), 5 * i + voice + 1);
            }
        }
        DUE.same("the last of the most", x.time(119), 119);
        x.grid(10);
        DUE.same("of the grid", x.moments(), 12);
        x.clear();
        DUE.same("none", x.moments(), 0);
    }

    /** 17: "TIME of a MOMENT. BAD." */
    private static void timeAnswers() {
        LeadFaults x = Score.of("C3 . - | . C3 .");
        int[] due = {-2, 0, 10, 20, -2};
        for (int moment = -1; moment <= 3; moment++) {
            DUE.same("time(" + moment + ")", x.time(moment), due[moment + 1]);
        }
        x.grid(13);
        int[] onGrid = {-2, 0, 13, -2, -2};
        for (int moment = -1; moment <= 3; moment++) {
            DUE.same("time(" + moment + ") on the grid", x.time(moment), onGrid[moment + 1]);
        }
    }

    /** 18: "HEIGHT of a VOICE at a MOMENT; SILENT. BAD." */
    private static void heightAnswers() {
        LeadFaults x = Score.of("Cbb0 - | . B##7");
        int[][] due = {{-2, -2, -2, -2}, {-2, -2, -100, -2}, {-2, -100, 97, -2}, {-2, -2, -2, -2}};
        for (int voice = -1; voice <= 2; voice++) {
            for (int moment = -1; moment <= 2; moment++) {
                DUE.same("height(" + voice + ", " + moment + ")", x.height(voice, moment), due[voice + 1][moment + 1]);
            }
        }
        DUE.same("the lowest height is no refusal, it is as low", Score.of("Cb0 | -").height(0, 0), -1);
    }

    /** 19: "0 it is none of these, 1 EIGHTH, 2 FIFTH, 3 HARSH; SILENT: one has no NOTE. BAD." */
    private static void intervalAnswers() {
        LeadFaults x = Score.of("C3 | E3 | G3 | C4 | D5");
        String[] due = {".0213", "..003", "...02", "....3", "....."};
        for (int a = -1; a <= 5; a++) {
            for (int b = -1; b <= 5; b++) {
                boolean isOne = a >= 0 && b <= 4 && a < b;
                DUE.same("interval(" + a + ", " + b + ", 0)", x.interval(a, b, 0),
                        isOne ? due[a].charAt(b) - '0' : LeadFaults.BAD);
                DUE.same("interval(" + a + ", " + b + ", 1)", x.interval(a, b, 1), LeadFaults.BAD);
                DUE.same("interval(" + a + ", " + b + ", -1)", x.interval(a, b, -1), LeadFaults.BAD);
            }
        }
        LeadFaults y = Score.of("C3 | - | G3");
        DUE.same("the upper is silent", y.interval(0, 1, 0), LeadFaults.SILENT);
        DUE.same("the lower is silent", y.interval(1, 2, 0), LeadFaults.SILENT);
        DUE.same("neither is", y.interval(0, 2, 0), 2);
        DUE.same("bad before silent", y.interval(1, 3, 0), LeadFaults.BAD);
        DUE.same("bad before silent", y.interval(1, 1, 0), LeadFaults.BAD);
    }

    /** 20: "what = 0 its TIME, 1 STEP (NONE of a REST), 2 SHARPNESS and 2 (0 of a REST). BAD." */
    private static void eventAnswers() {
        LeadFaults x = new LeadFaults(2);
        x.note(0, 0, 0, -2);
        x.rest(0, 1);
        x.note(0, 998, 55, 2);
        x.rest(0, 999);
        int[][] due = {{0, 0, 0}, {1, LeadFaults.NONE, 0}, {998, 55, 4}, {999, LeadFaults.NONE, 0}};
        for (int voice = -1; voice <= 2; voice++) {
            for (int i = -1; i <= 4; i++) {
                for (int what = -1; what <= 3; what++) {
                    boolean isOne = voice == 0 && i >= 0 && i < 4 && what >= 0 && what <= 2;
                    DUE.same("event(" + voice + ", " + i + ", " + what + ")", x.event(voice, i, what),
                            isOne ? due[i][what] : LeadFaults.BAD);
                }
            }
        }
        x.take(0);
        DUE.same("what was taken", x.event(0, 3, 0), LeadFaults.BAD);
        x.note(0, 999, 7, 0);
        DUE.same("a note where a rest was", x.event(0, 3, 1) * 10 + x.event(0, 3, 2), 72);
    }

    /** Every call of an object without EVENTS, new, cleared, and with all EVENTS taken. */
    private static void emptyObject() {
        LeadFaults cleared = Score.of("C3 D3 | C4 D4");
        cleared.judge();
        cleared.clear();
        LeadFaults taken = Score.of("C3 | C4");
        taken.take(1);
        taken.take(0);
        LeadFaults[] all = {new LeadFaults(2), cleared, taken};
        for (LeadFaults x : all) {
            int[] got = {x.moments(), x.time(0), x.height(0, 0), x.interval(0, 1, 0), x.event(0, 0, 0), x.take(0),
                x.fault(0, 0), x.count(14), x.range(0, 0, 0), x.key(1), x.rule(0, 1), x.style(1), x.repeat(0, 999),
                x.except(0, 0), x.judge(), x.fault(0, 0), x.count(14), x.count(15), x.grid(10), x.judge(), x.clear()};
            int[] due = {0, -2, -2, -2, -2, -1, -2, 0, 0, 0, 1, 10, 1, 1, 0, -2, 0, 0, 0, 0, 0};
            for (int i = 0; i < due.length; i++) {
                DUE.same("call " + i + " of an object without events", got[i], due[i]);
            }
        }
    }

    /** All VOICES, REPEATS and EXCEPTIONS full: 120 MOMENTS, at each of which there are FAULTS. */
    private static void fullObject() {
        LeadFaults x = new LeadFaults(5);
        for (int i = 0; i < 24; i++) {
            for (int voice = 0; voice < 5; voice++) {
                DUE.same("note", x.note(voice, 5 * i + voice, i % 2 == 0 ? 20 : 34 - voice, 0), i + 1);
            }
        }
        for (int i = 0; i < 4; i++) {
            DUE.same("repeat", x.repeat(i, 999), i + 1);
        }
        for (int i = 0; i < 20; i++) {
            DUE.same("exception", x.except(7, 100 + i), i + 1);
        }
        DUE.same("moments", x.moments(), 120);
        int many = x.judge();
        int sum = 0;
        for (int kind = 0; kind < 14; kind++) {
            sum += x.count(kind);
        }
        DUE.same("all are counted", sum, many);
        DUE.same("all are counted", x.count(14), many);
        DUE.same("leaps", x.count(7), 5 * 23 - 20 + 1 + 2 + 3 + 4);
        DUE.same("leaps that were excepted", x.count(15), 20);
        DUE.same("the last fault's moment", x.fault(many - 1, 4), 119);
        DUE.same("the first fault's moment", x.fault(0, 4), 0);
        DUE.same("none after the last", x.fault(many, 0), LeadFaults.BAD);
        DUE.same("clear", x.clear(), 120);
    }
}
