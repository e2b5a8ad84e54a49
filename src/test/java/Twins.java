import java.util.LinkedHashMap;
import java.util.List;
import java.util.Map;
import java.util.function.Function;
import java.util.function.Supplier;

/**
 * Two objects are made alike, one of them gets a call that is to be refused, and both are then looked at from every
 * side: what is refused changes nothing. Each look is at two new objects and keeps within their 512 calls.
 */
final class Twins {
    /** A call, the numbers of which are settled. */
    interface Call {
        int on(LeadFaults x);
    }

    /** Objects of three VOICES to be refused something, by name. */
    static final Map<String, Supplier<LeadFaults>> STATES = new LinkedHashMap<>();

    static {
        STATES.put("empty", () -> new LeadFaults(3));
        STATES.put("ordinary", Twins::ordinary);
        STATES.put("grid", Twins::onGrid);
        STATES.put("full", Twins::full);
    }

    private static final List<Function<LeadFaults, String>> LOOKS = List.of(Twins::events, Twins::moments,
            Twins::findings, Twins::judgedNow, Twins::settings, Twins::limits, Twins::room);

    private Twins() {
    }

    /** A call is answered by a refusal in a state, and all is as it was. */
    static void refused(Due due, String state, String name, Call call, int want) {
        Supplier<LeadFaults> maker = STATES.get(state);
        for (Function<LeadFaults, String> look : LOOKS) {
            LeadFaults asked = maker.get();
            due.same(state + ": " + name, call.on(asked), want);
            due.same(state + " after " + name, look.apply(asked), look.apply(maker.get()));
        }
    }

    /** Settings unlike the first ones, a judging, and EVENTS that came and went after it. */
    private static LeadFaults ordinary() {
        LeadFaults x = Score.of("F#2 G2 F2 - G2 C2 | F#3 . F3 E3 D3 F4 | C4 D4 Eb4 . F#5 E4");
        x.key(1);
        x.rule(5, 0);
        x.rule(13, 0);
        x.range(0, 29, 30);
        x.range(1, 40, 50);
        x.range(2, 49, 52);
        x.repeat(10, 40);
        x.except(7, 20);
        x.except(11, 20);
        x.judge();
        x.take(2);
        x.note(2, 55, 30, 1);
        x.repeat(0, 25);
        return x;
    }

    private static LeadFaults onGrid() {
        LeadFaults x = ordinary();
        x.grid(15);
        x.judge();
        x.take(1);
        return x;
    }

    /** VOICE 1 with 24 EVENTS, 4 REPEATS, 20 EXCEPTIONS; VOICE 2 has none. */
    private static LeadFaults full() {
        LeadFaults x = new LeadFaults(3);
        for (int i = 0; i < 24; i++) {
            if (i % 7 == 3) {
                x.rest(1, 2 * i);
            } else {
                x.note(1, 2 * i, 20 + i % 5, i % 3 - 1);
            }
        }
        x.note(0, 10, 16, 0);
        x.note(0, 20, 17, 0);
        x.range(1, 38, 40);
        for (int i = 0; i < 4; i++) {
            x.repeat(2 * i, 40 - 5 * i);
        }
        for (int i = 0; i < 20; i++) {
            x.except(6 + i % 2, 4 * (i / 2));
        }
        x.judge();
        return x;
    }

    private static String events(LeadFaults x) {
        StringBuilder seen = new StringBuilder();
        for (int voice = 0; voice < 3; voice++) {
            for (int i = 0; x.event(voice, i, 0) != LeadFaults.BAD; i++) {
                seen.append(x.event(voice, i, 0)).append(' ').append(x.event(voice, i, 1)).append(' ');
                seen.append(x.event(voice, i, 2)).append(", ");
            }
            seen.append("| ");
        }
        return seen.toString();
    }

    private static String moments(LeadFaults x) {
        StringBuilder seen = new StringBuilder();
        int many = x.moments();
        for (int moment = 0; moment < many; moment++) {
            seen.append(x.time(moment)).append(':');
            for (int voice = 0; voice < 3; voice++) {
                seen.append(' ').append(x.height(voice, moment));
                seen.append(' ').append(x.interval(voice / 2, 1 + (voice + 1) / 2, moment));
            }
            seen.append(", ");
        }
        return seen.toString();
    }

    private static String findings(LeadFaults x) {
        StringBuilder seen = new StringBuilder();
        for (int kind = 0; kind <= 15; kind++) {
            seen.append(x.count(kind)).append(' ');
        }
        int many = x.count(14);
        for (int i = 0; i <= many; i++) {
            seen.append(", ");
            for (int what = 0; what < 5; what++) {
                seen.append(x.fault(i, what)).append(' ');
            }
        }
        return seen.toString();
    }

    private static String judgedNow(LeadFaults x) {
        return x.judge() + ": " + findings(x);
    }

    private static String settings(LeadFaults x) {
        StringBuilder seen = new StringBuilder();
        for (int kind = 0; kind < 14; kind++) {
            seen.append(x.rule(kind, 1)).append(' ');
        }
        seen.append(x.key(0)).append(' ');
        for (int i = 0; i < 5; i++) {
            seen.append(x.repeat(i, 999)).append(' ');
        }
        for (int i = 0; i < 20; i++) {
            seen.append(x.except(6 + i % 2, 4 * (i / 2))).append(' ');
        }
        for (int i = 0; i < 21; i++) {
            seen.append(x.except(11, 20 + i)).append(' ');
        }
        return seen.toString();
    }

    /** What of the lowest and highest NOTES is out of range tells LOW and HIGH where they are as at first. */
    private static String limits(LeadFaults x) {
        for (int voice = 0; voice < 3; voice++) {
            x.note(voice, 900, 0, -2);
            x.note(voice, 910, 0, -1);
            x.note(voice, 920, 0, 0);
            x.note(voice, 930, 55, 1);
            x.note(voice, 940, 55, 2);
        }
        return Score.faults(x, 6);
    }

    private static String room(LeadFaults x) {
        StringBuilder seen = new StringBuilder();
        for (int voice = 0; voice < 4; voice++) {
            seen.append(x.rest(voice, 998)).append(' ').append(x.note(voice, 999, 20, 0)).append(' ');
            seen.append(x.take(voice)).append(' ');
        }
        return seen.append(x.clear()).toString();
    }
}
