import java.util.Random;

/** All promises: long runs of mixed calls, each answer held against that of the Model. */
public final class ModelTest {
    private static final int RUNS = 2000;
    /** What an object answers after its 512th call is free. */
    private static final int CALLS = 512;
    private static final int[] EDGES = {Integer.MIN_VALUE, -101, -100, -8, -7, -3, -2, -1, 0, 1, 2, 3, 4, 5, 6, 7, 8, 9,
        10, 13, 14, 15, 16, 20, 23, 24, 25, 55, 56, 96, 99, 100, 119, 120, 500, 501, 998, 999, 1000, Integer.MAX_VALUE};
    private static int wrong;

    private final Random random;
    private final LeadFaults lead;
    private final Model model;
    private final int voices;
    /** What the voices sing: near or far steps, few or many sharps, close or wide times. */
    private final int spread;
    private final int sharps;
    private final int pace;
    private final int[] lastTimes = new int[5];
    private final int seed;
    private int calls;
    private int kindsSeen;

    private ModelTest(int seed) {
        this.seed = seed;
        random = new Random(seed);
        int asked = seed % 8;
        lead = new LeadFaults(asked);
        model = new Model(asked);
        voices = Math.max(2, Math.min(5, asked));
        spread = 1 + random.nextInt(12);
        sharps = random.nextInt(3);
        pace = 1 + random.nextInt(random.nextBoolean() ? 3 : 60);
    }

    public static void main(String[] args) {
        int kindsSeen = 0;
        for (int seed = 0; seed < RUNS && wrong < 20; seed++) {
            ModelTest run = new ModelTest(seed);
            while (run.calls < CALLS) {
                run.call();
            }
            kindsSeen |= run.kindsSeen;
        }
        if (kindsSeen != (1 << 14) - 1) {
            wrong++;
            System.out.println("not every kind of fault was met: " + Integer.toBinaryString(kindsSeen));
        }
        System.out.println(wrong == 0 ? "all answers are as due" : wrong + " answers are not as due");
        if (wrong != 0) {
            System.exit(1);
        }
    }

    private int any(int least, int most) {
        if (random.nextInt(25) == 0) {
            return EDGES[random.nextInt(EDGES.length)];
        }
        return least + random.nextInt(most - least + 1);
    }

    private int voice() {
        return any(0, voices - 1);
    }

    private int nextTime(int voice) {
        if (voice < 0 || voice >= voices) {
            return any(0, 999);
        }
        int time = lastTimes[voice] + any(0, 1) * pace + any(0, 1);
        lastTimes[voice] = Math.max(lastTimes[voice], Math.min(999, time));
        return time;
    }

    private void call() {
        int dice = random.nextInt(100);
        if (dice < 40) {
            sing();
        } else if (dice < 60) {
            set();
        } else if (dice < 90) {
            ask();
        } else {
            judgeAndTell();
        }
    }

    private void sing() {
        int voice = voice();
        int dice = random.nextInt(100);
        if (dice < 82) {
            int time = nextTime(voice);
            int ground = Math.max(0, Math.min(4, voice)) * Math.min(8, spread);
            int step = ground + any(0, spread) + (random.nextInt(30) == 0 ? 20 : 0);
            int sharpness = any(-sharps, sharps);
            due("note(" + voice + ", " + time + ", " + step + ", " + sharpness + ")",
                    lead.note(voice, time, step, sharpness), model.note(voice, time, step, sharpness));
        } else if (dice < 90) {
            int time = nextTime(voice);
            due("rest(" + voice + ", " + time + ")", lead.rest(voice, time), model.rest(voice, time));
        } else if (dice < 99 || random.nextInt(4) > 0) {
            due("take(" + voice + ")", lead.take(voice), model.take(voice));
        } else {
            due("clear()", lead.clear(), model.clear());
            for (int i = 0; i < lastTimes.length; i++) {
                lastTimes[i] = 0;
            }
        }
    }

    private void set() {
        int x = 0;
        int y = 0;
        switch (random.nextInt(8)) {
            case 0 -> {
                x = any(0, 13);
                y = any(0, 1);
                due("rule(" + x + ", " + y + ")", lead.rule(x, y), model.rule(x, y));
            }
            case 1 -> {
                x = random.nextBoolean() ? 0 : any(0, 4);
                due("style(" + x + ")", lead.style(x), model.style(x));
            }
            case 2, 3 -> {
                x = any(-7, 7);
                due("key(" + x + ")", lead.key(x), model.key(x));
            }
            case 4 -> {
                int voice = voice();
                x = any(-2, 60);
                y = any(0, 99);
                due("range(" + voice + ", " + x + ", " + y + ")", lead.range(voice, x, y),
                        model.range(voice, x, y));
            }
            case 5 -> {
                x = random.nextInt(3) > 0 ? 0 : any(10, random.nextBoolean() ? 30 : 500);
                due("grid(" + x + ")", lead.grid(x), model.grid(x));
            }
            case 6 -> {
                x = any(0, 24 * pace);
                y = any(0, 24 * pace);
                due("repeat(" + x + ", " + y + ")", lead.repeat(x, y), model.repeat(x, y));
            }
            default -> {
                x = any(0, 13);
                y = any(0, 12 * pace);
                due("except(" + x + ", " + y + ")", lead.except(x, y), model.except(x, y));
            }
        }
    }

    private void ask() {
        int voice = voice();
        int other = voice();
        int moment = any(0, 120);
        switch (random.nextInt(7)) {
            case 0 -> due("moments()", lead.moments(), model.moments());
            case 1 -> due("time(" + moment + ")", lead.time(moment), model.time(moment));
            case 2 -> due("height(" + voice + ", " + moment + ")", lead.height(voice, moment),
                    model.height(voice, moment));
            case 3 -> due("interval(" + voice + ", " + other + ", " + moment + ")",
                    lead.interval(voice, other, moment), model.interval(voice, other, moment));
            case 4 -> {
                int i = any(0, 24);
                int what = any(0, 2);
                due("event(" + voice + ", " + i + ", " + what + ")", lead.event(voice, i, what),
                        model.event(voice, i, what));
            }
            case 5 -> {
                int i = any(0, 200);
                int what = any(0, 4);
                due("fault(" + i + ", " + what + ")", lead.fault(i, what), model.fault(i, what));
            }
            default -> {
                int kind = any(0, 15);
                due("count(" + kind + ")", lead.count(kind), model.count(kind));
            }
        }
    }

    private void judgeAndTell() {
        int many = lead.judge();
        due("judge()", many, model.judge());
        for (int kind = 0; kind <= 15 && calls < CALLS; kind++) {
            due("count(" + kind + ")", lead.count(kind), model.count(kind));
        }
        // Now and then from somewhere on alone, lest telling uses up all calls.
        int from = random.nextInt(3) == 0 ? 0 : Math.max(0, many - random.nextInt(8));
        for (int i = from; i <= many; i++) {
            for (int what = 0; what < 5 && calls < CALLS; what++) {
                due("fault(" + i + ", " + what + ")", lead.fault(i, what), model.fault(i, what));
            }
            if (i < many) {
                kindsSeen |= 1 << model.fault(i, 0);
            }
        }
    }

    private void due(String what, int got, int want) {
        calls++;
        if (got != want && wrong++ < 20) {
            System.out.println("run " + seed + ", call " + calls + ": "
                    + what + " answered " + got + ", due is " + want);
        }
    }
}
