/** Promises 1 to 5 and 20: a new object, clear, note, rest, take, event. */
public final class EventsTest {
    private static final Due DUE = new Due();
    private static final int LEAST = Integer.MIN_VALUE;
    private static final int MOST = Integer.MAX_VALUE;

    private EventsTest() {
    }

    public static void main(String[] args) {
        newObject();
        clearing();
        notes();
        rests();
        full();
        taking();
        events();
        DUE.end();
    }

    private static void newObject() {
        int[] asked = {LEAST, -1, 0, 1, 2, 3, 4, 5, 6, MOST};
        int[] made = {2, 2, 2, 2, 2, 3, 4, 5, 5, 5};
        for (int i = 0; i < asked.length; i++) {
            LeadFaults x = new LeadFaults(asked[i]);
            DUE.same("highest voice of " + asked[i], x.rest(made[i] - 1, 0), 1);
            DUE.same("voice beyond those of " + asked[i], x.rest(made[i], 0), LeadFaults.BAD);
        }
        asAtFirst("new", new LeadFaults(3));
    }

    private static void asAtFirst(String name, LeadFaults x) {
        DUE.same(name + " moments at once", x.moments(), 0);
        for (int voice = 0; voice < 3; voice++) {
            DUE.same(name + " event", x.event(voice, 0, 0), LeadFaults.BAD);
            DUE.same(name + " take", x.take(voice), LeadFaults.NONE);
        }
        DUE.same(name + " fourth voice", x.take(3), LeadFaults.BAD);
        DUE.same(name + " moments", x.moments(), 0);
        DUE.same(name + " fault", x.fault(0, 0), LeadFaults.BAD);
        for (int kind = 0; kind < 16; kind++) {
            DUE.same(name + " count " + kind, x.count(kind), 0);
        }
        for (int kind = 0; kind < 14; kind++) {
            DUE.same(name + " rule " + kind, x.rule(kind, 1), 1);
        }
        DUE.same(name + " key", x.key(0), 0);
        DUE.same(name + " repeats", x.repeat(1, 2), 1);
        DUE.same(name + " exceptions", x.except(13, 999), 1);
        DUE.same(name + " judge", x.judge(), 0);
        x.note(0, 5, 0, -1);
        x.note(1, 7, 55, 2);
        DUE.same(name + " grid", x.moments(), 2);
        DUE.same(name + " faults", Score.faults(x, 6), "5:0 7:1");
        x.take(0);
        x.take(1);
        x.note(0, 5, 0, 0);
        x.note(1, 7, 55, 1);
        x.note(2, 9, 0, -1);
        x.note(2, 11, 0, 0);
        x.note(2, 13, 55, 1);
        x.note(2, 15, 55, 2);
        DUE.same(name + " limits", Score.faults(x, 6), "9:2 15:2");
    }

    private static void clearing() {
        LeadFaults x = Score.of("C3 D3 . | C4 D4 - | Cb0 . . ");
        DUE.same("judge before clear", x.judge() > 0 ? 1 : 0, 1);
        x.key(3);
        x.style(3);
        x.range(0, 50, 60);
        x.range(1, -2, 99);
        x.range(2, -2, -2);
        x.grid(10);
        x.repeat(0, 20);
        x.except(0, 10);
        x.judge();
        DUE.same("clear", x.clear(), 6);
        asAtFirst("cleared", x);
        DUE.same("clear again", x.clear(), 6);
        DUE.same("clear of nothing", x.clear(), 0);
    }

    private static void notes() {
        LeadFaults x = new LeadFaults(2);
        DUE.same("note at all least", x.note(0, 0, 0, -2), 1);
        DUE.same("note at all most", x.note(1, 999, 55, 2), 1);
        DUE.same("note later", x.note(0, 1, 3, 0), 2);
        int[][] bad = {{-1, 5, 5, 0}, {2, 5, 5, 0}, {LEAST, 5, 5, 0}, {MOST, 5, 5, 0},
            {0, -1, 5, 0}, {0, 1000, 5, 0}, {0, LEAST, 5, 0}, {0, MOST, 5, 0},
            {0, 5, -1, 0}, {0, 5, 56, 0}, {0, 5, LEAST, 0}, {0, 5, MOST, 0},
            {0, 5, 5, -3}, {0, 5, 5, 3}, {0, 5, 5, LEAST}, {0, 5, 5, MOST}};
        for (int[] b : bad) {
            String call = "note(" + b[0] + ", " + b[1] + ", " + b[2] + ", " + b[3] + ")";
            DUE.same(call, x.note(b[0], b[1], b[2], b[3]), LeadFaults.BAD);
        }
        DUE.same("note at the same time", x.note(0, 1, 4, 0), LeadFaults.LATE);
        DUE.same("note earlier", x.note(0, 0, 4, 0), LeadFaults.LATE);
        DUE.same("bad before late", x.note(0, 0, 56, 0), LeadFaults.BAD);
        DUE.same("another voice has times of its own", x.note(1, 999, 4, 0), LeadFaults.LATE);
        DUE.same("nothing changed", x.note(0, 2, 4, 0), 3);
        DUE.same("nothing changed", x.moments(), 4);
    }

    private static void rests() {
        LeadFaults x = new LeadFaults(3);
        DUE.same("rest", x.rest(2, 0), 1);
        DUE.same("rest last", x.rest(2, 999), 2);
        DUE.same("rest late", x.rest(2, 999), LeadFaults.LATE);
        int[][] bad = {{-1, 5}, {3, 5}, {LEAST, 5}, {MOST, 5}, {0, -1}, {0, 1000}, {0, LEAST}, {0, MOST}};
        for (int[] b : bad) {
            DUE.same("rest(" + b[0] + ", " + b[1] + ")", x.rest(b[0], b[1]), LeadFaults.BAD);
        }
        DUE.same("bad before late", x.rest(2, 1000), LeadFaults.BAD);
        DUE.same("rest after note", x.note(0, 5, 5, 0) + x.rest(0, 6), 3);
        DUE.same("clear counts rests", x.clear(), 4);
    }

    private static void full() {
        LeadFaults x = new LeadFaults(2);
        for (int i = 0; i < 24; i++) {
            DUE.same("event " + i, i % 2 == 0 ? x.note(1, 3 * i, i, 0) : x.rest(1, 3 * i), i + 1);
        }
        DUE.same("25th note", x.note(1, 100, 0, 0), LeadFaults.FULL);
        DUE.same("25th rest", x.rest(1, 100), LeadFaults.FULL);
        DUE.same("late before full", x.note(1, 69, 0, 0), LeadFaults.LATE);
        DUE.same("late before full", x.rest(1, 69), LeadFaults.LATE);
        DUE.same("bad before full", x.note(1, 100, 0, 3), LeadFaults.BAD);
        DUE.same("the other is not full", x.note(0, 100, 0, 0), 1);
        DUE.same("one goes", x.take(1), 23);
        DUE.same("24th again", x.note(1, 68, 0, 0), 24);
        DUE.same("clear", x.clear(), 25);
    }

    private static void taking() {
        LeadFaults x = Score.of("C3 D3 E3 | C4");
        DUE.same("take(-1)", x.take(-1), LeadFaults.BAD);
        DUE.same("take(2)", x.take(2), LeadFaults.BAD);
        DUE.same("take most", x.take(MOST), LeadFaults.BAD);
        DUE.same("take", x.take(0), 2);
        DUE.same("moments after take", x.moments(), 2);
        DUE.same("taken event", x.event(0, 2, 0), LeadFaults.BAD);
        DUE.same("not later than the last left", x.note(0, 10, 0, 0), LeadFaults.LATE);
        DUE.same("later than the last left", x.note(0, 11, 0, 0), 3);
        DUE.same("take", x.take(0), 2);
        DUE.same("take", x.take(0), 1);
        DUE.same("take", x.take(0), 0);
        DUE.same("take of none", x.take(0), LeadFaults.NONE);
        DUE.same("other voice", x.take(1), 0);
        DUE.same("moments", x.moments(), 0);
    }

    private static void events() {
        LeadFaults x = new LeadFaults(2);
        x.note(1, 7, 30, -2);
        x.rest(1, 9);
        x.note(1, 11, 0, 2);
        int[][] due = {{7, 30, 0}, {9, LeadFaults.NONE, 0}, {11, 0, 4}};
        for (int i = 0; i < 3; i++) {
            for (int what = 0; what < 3; what++) {
                DUE.same("event(1, " + i + ", " + what + ")", x.event(1, i, what), due[i][what]);
            }
        }
        int[][] bad = {{-1, 0, 0}, {2, 0, 0}, {MOST, 0, 0}, {1, -1, 0}, {1, 3, 0}, {1, LEAST, 0}, {1, MOST, 0},
            {1, 0, -1}, {1, 0, 3}, {1, 0, MOST}, {0, 0, 0}};
        for (int[] b : bad) {
            DUE.same("event(" + b[0] + ", " + b[1] + ", " + b[2] + ")", x.event(b[0], b[1], b[2]), LeadFaults.BAD);
        }
    }
}
