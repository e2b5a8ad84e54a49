import java.util.function.IntFunction;

/**
 * "REFUSALS are answers: BAD (a number is none, or out of its bounds) first; then what a call names, in the order
 * named. What is refused changes nothing." Every refusal of every call, in states from empty to full.
 */
public final class RefusalsTest {
    private static final Due DUE = new Due();
    private static final int LEAST = Integer.MIN_VALUE;
    private static final int MOST = Integer.MAX_VALUE;

    private RefusalsTest() {
    }

    public static void main(String[] args) {
        for (String state : Twins.STATES.keySet()) {
            eventCalls(state);
            settingCalls(state);
            placeCalls(state);
            findingCalls(state);
            momentCalls(state);
        }
        late();
        full();
        none();
        badBeforeAll();
        inTheOrderNamed();
        DUE.end();
    }

    /** Numbers right outside two bounds, far outside them, and such as are inside when cut to fewer bits. */
    private static void outside(String state, String name, int least, int most, IntFunction<Twins.Call> call,
            int want) {
        int[] numbers = {LEAST, LEAST + 1, least - (1 << 16), least - 256, least - 32, least - 1,
            most + 1, most + 32, most + 256, most + (1 << 16), MOST - 1, MOST};
        for (int number : numbers) {
            Twins.refused(DUE, state, name + " with " + number, call.apply(number), want);
        }
    }

    private static void bad(String state, String name, int least, int most, IntFunction<Twins.Call> call) {
        outside(state, name, least, most, call, LeadFaults.BAD);
    }

    private static void bad(String state, String name, Twins.Call call) {
        Twins.refused(DUE, state, name, call, LeadFaults.BAD);
    }

    private static void eventCalls(String state) {
        bad(state, "note, voice", 0, 2, n -> x -> x.note(n, 999, 20, 0));
        bad(state, "note, time", 0, 999, n -> x -> x.note(0, n, 20, 0));
        bad(state, "note, step", 0, 55, n -> x -> x.note(0, 999, n, 0));
        bad(state, "note, sharpness", -2, 2, n -> x -> x.note(0, 999, 20, n));
        bad(state, "rest, voice", 0, 2, n -> x -> x.rest(n, 999));
        bad(state, "rest, time", 0, 999, n -> x -> x.rest(0, n));
        bad(state, "take, voice", 0, 2, n -> x -> x.take(n));
        int[] sizes = sizes(state);
        for (int voice = 0; voice < 3; voice++) {
            int v = voice;
            bad(state, "event of voice " + v + ", i", 0, sizes[v] - 1, n -> x -> x.event(v, n, 0));
        }
        bad(state, "event, voice", 0, 2, n -> x -> x.event(n, 0, 0));
        bad(state, "event, what", 0, 2, n -> x -> x.event(0, 0, n));
    }

    private static int[] sizes(String state) {
        int[] sizes = new int[3];
        LeadFaults x = Twins.STATES.get(state).get();
        for (int voice = 0; voice < 3; voice++) {
            while (x.event(voice, sizes[voice], 0) != LeadFaults.BAD) {
                sizes[voice]++;
            }
        }
        return sizes;
    }

    private static void settingCalls(String state) {
        bad(state, "rule, kind", 0, 13, n -> x -> x.rule(n, 0));
        bad(state, "rule, kind, on", 0, 13, n -> x -> x.rule(n, 1));
        bad(state, "rule, on", 0, 1, n -> x -> x.rule(0, n));
        bad(state, "rule 13, on", 0, 1, n -> x -> x.rule(13, n));
        bad(state, "style", 0, 4, n -> x -> x.style(n));
        outside(state, "key", -7, 7, n -> x -> x.key(n), LeadFaults.SILENT);
        bad(state, "range, voice", 0, 2, n -> x -> x.range(n, 20, 21));
        for (int voice = 0; voice < 3; voice++) {
            int v = voice;
            bad(state, "range, low", -2, 99, n -> x -> x.range(v, n, 99));
            bad(state, "range, high", -2, 99, n -> x -> x.range(v, -2, n));
            bad(state, "range, both", -2, 99, n -> x -> x.range(v, n, n));
            bad(state, "range, low above high", x -> x.range(v, 31, 30));
            bad(state, "range, low above high", x -> x.range(v, -1, -2));
            bad(state, "range, low above high", x -> x.range(v, 99, 98));
        }
    }

    private static void placeCalls(String state) {
        for (int ticks : new int[] {-500, -10, -2, -1, 1, 2, 5, 8, 9}) {
            bad(state, "grid(" + ticks + ")", x -> x.grid(ticks));
        }
        bad(state, "grid", 0, 500, n -> x -> x.grid(n));
        bad(state, "repeat, from", 0, 998, n -> x -> x.repeat(n, 999));
        bad(state, "repeat, to", 1, 999, n -> x -> x.repeat(0, n));
        for (int time : new int[] {0, 1, 20, 998, 999}) {
            bad(state, "repeat of nothing at " + time, x -> x.repeat(time, time));
            bad(state, "repeat back to " + time, x -> x.repeat(time + 1, time));
        }
        bad(state, "except, kind", 0, 13, n -> x -> x.except(n, 500));
        bad(state, "except, time", 0, 999, n -> x -> x.except(5, n));
    }

    private static void findingCalls(String state) {
        int told = Twins.STATES.get(state).get().count(14);
        bad(state, "fault, i", 0, told - 1, n -> x -> x.fault(n, 0));
        bad(state, "fault, what", 0, 4, n -> x -> x.fault(0, n));
        bad(state, "fault, what of the last", 0, 4, n -> x -> x.fault(told - 1, n));
        bad(state, "count", 0, 15, n -> x -> x.count(n));
    }

    private static void momentCalls(String state) {
        int many = Twins.STATES.get(state).get().moments();
        bad(state, "time", 0, many - 1, n -> x -> x.time(n));
        bad(state, "height, voice", 0, 2, n -> x -> x.height(n, 0));
        bad(state, "height, moment", 0, many - 1, n -> x -> x.height(0, n));
        bad(state, "interval, a", 0, 1, n -> x -> x.interval(n, 2, 0));
        bad(state, "interval, b", 1, 2, n -> x -> x.interval(0, n, 0));
        bad(state, "interval, moment", 0, many - 1, n -> x -> x.interval(0, 1, n));
        for (int a = 0; a < 3; a++) {
            for (int b = 0; b <= a; b++) {
                int low = a;
                int high = b;
                bad(state, "interval(" + a + ", " + b + ", 0)", x -> x.interval(low, high, 0));
            }
        }
    }

    private static void refused(String state, String name, Twins.Call call, int want) {
        Twins.refused(DUE, state, name, call, want);
    }

    /** "LATE: TIME is not later than that of its last one" */
    private static void late() {
        refused("ordinary", "note at its last time", x -> x.note(0, 50, 20, 0), LeadFaults.LATE);
        refused("ordinary", "note before its last time", x -> x.note(0, 49, 20, 0), LeadFaults.LATE);
        refused("ordinary", "note at 0", x -> x.note(0, 0, 20, 0), LeadFaults.LATE);
        refused("ordinary", "rest at its last time", x -> x.rest(2, 55), LeadFaults.LATE);
        refused("ordinary", "rest before its last time", x -> x.rest(2, 54), LeadFaults.LATE);
        refused("grid", "note at what is last after a take", x -> x.note(1, 40, 20, 0), LeadFaults.LATE);
        refused("grid", "rest at 0", x -> x.rest(1, 0), LeadFaults.LATE);
    }

    /** "FULL: it has 24", "FULL: 4 are there", "FULL: 20 are" */
    private static void full() {
        refused("full", "25th event, a note", x -> x.note(1, 47, 20, 0), LeadFaults.FULL);
        refused("full", "25th event, the last time", x -> x.note(1, 999, 55, 2), LeadFaults.FULL);
        refused("full", "25th event, a rest", x -> x.rest(1, 47), LeadFaults.FULL);
        refused("full", "5th repeat", x -> x.repeat(0, 999), LeadFaults.FULL);
        refused("full", "5th repeat, as the first", x -> x.repeat(0, 40), LeadFaults.FULL);
        refused("full", "21st exception", x -> x.except(6, 999), LeadFaults.FULL);
        refused("full", "21st exception, of another kind", x -> x.except(5, 0), LeadFaults.FULL);
    }

    /** "NONE: it has none", "NONE: it is there" */
    private static void none() {
        for (int voice = 0; voice < 3; voice++) {
            int v = voice;
            refused("empty", "take of voice " + v, x -> x.take(v), LeadFaults.NONE);
        }
        refused("full", "take of the voice without events", x -> x.take(2), LeadFaults.NONE);
        refused("ordinary", "the first exception again", x -> x.except(7, 20), LeadFaults.NONE);
        refused("ordinary", "the last exception again", x -> x.except(11, 20), LeadFaults.NONE);
    }

    /** "BAD (a number is none, or out of its bounds) first" */
    private static void badBeforeAll() {
        bad("ordinary", "bad step and late", x -> x.note(0, 50, 56, 0));
        bad("ordinary", "bad sharpness and late", x -> x.note(0, 0, 20, 3));
        bad("ordinary", "bad time and late", x -> x.note(0, -1, 20, 0));
        bad("ordinary", "bad time and late", x -> x.rest(0, -1));
        bad("full", "bad step and full", x -> x.note(1, 999, -1, 0));
        bad("full", "bad sharpness and full", x -> x.note(1, 999, 20, -3));
        bad("full", "bad time and full", x -> x.note(1, 1000, 20, 0));
        bad("full", "bad time and full", x -> x.rest(1, 1000));
        bad("full", "bad step, late and full", x -> x.note(1, 46, 56, 0));
        bad("full", "bad repeat and full", x -> x.repeat(5, 5));
        bad("full", "bad repeat and full", x -> x.repeat(0, 1000));
        bad("full", "bad repeat and full", x -> x.repeat(-1, 999));
        bad("full", "bad exception and full", x -> x.except(14, 0));
        bad("full", "bad exception and full", x -> x.except(6, 1000));
    }

    /** "then what a call names, in the order named": LATE before FULL, NONE before FULL. */
    private static void inTheOrderNamed() {
        refused("full", "late and full", x -> x.note(1, 46, 20, 0), LeadFaults.LATE);
        refused("full", "late and full", x -> x.note(1, 0, 20, 0), LeadFaults.LATE);
        refused("full", "late and full", x -> x.rest(1, 46), LeadFaults.LATE);
        for (int i = 0; i < 20; i++) {
            int kind = 6 + i % 2;
            int time = 4 * (i / 2);
            refused("full", "it is there, and 20 are", x -> x.except(kind, time), LeadFaults.NONE);
        }
    }
}
