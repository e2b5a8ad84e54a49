import java.util.Arrays;

/** Leading of two to five VOICES, judged by RULES that are switched on and off. */
public final class LeadFaults {
    public static final int NONE = -1, BAD = -2, FULL = -3, LATE = -4, SILENT = -100;

    private static final int LEAST_VOICES = 2;
    private static final int MOST_VOICES = 5;
    private static final int MOST_EVENTS = 24;
    private static final int MOST_MOMENTS = MOST_VOICES * MOST_EVENTS;
    private static final int MOST_REPEATS = 4;
    private static final int MOST_EXCEPTIONS = 20;

    private static final int LAST_TIME = 999;
    private static final int LAST_STEP = 55;
    private static final int MOST_SHARPNESS = 2;
    private static final int LEAST_LIMIT = -2;
    private static final int MOST_LIMIT = 99;
    private static final int FIRST_LOW = 0;
    private static final int FIRST_HIGH = 96;
    private static final int LEAST_TICKS = 10;
    private static final int MOST_TICKS = 500;
    private static final int MOST_FIFTHS = 7;

    private static final int LETTERS = 7;
    private static final int OCTAVE = 12;
    private static final int[] LETTER_HEIGHTS = {0, 2, 4, 5, 7, 9, 11};
    private static final int[] SHARPENED_LETTERS = {3, 0, 4, 1, 5, 2, 6};
    private static final int[] FLATTENED_LETTERS = {6, 2, 5, 1, 4, 0, 3};

    private static final int EIGHTH = 1;
    private static final int FIFTH = 2;
    private static final int HARSH = 3;
    private static final int[] QUALITY_BY_HEIGHT = {0, HARSH, HARSH, 0, 0, 0, HARSH, 0, 0, 0, HARSH, HARSH};

    private static final int[] LEAST_HEIGHT_OF_STEPS = {0, 1, 3, 5, 7, 8, 10};
    private static final int[] MOST_HEIGHT_OF_STEPS = {0, 2, 4, 5, 7, 9, 11};

    private static final int PARALLEL = 0;
    private static final int CONTRARY = 1;
    private static final int HIDDEN = 2;
    private static final int CROSSED = 3;
    private static final int OVERLAPPED = 4;
    private static final int SPREAD = 5;
    private static final int OUT_OF_RANGE = 6;
    private static final int LEAP = 7;
    private static final int LEADING_ASTRAY = 8;
    private static final int LEADING_TWICE = 9;
    private static final int SEVENTH = 10;
    private static final int CROSS_RELATION = 11;
    private static final int INTO_HARSH = 12;
    private static final int UNISON = 13;
    private static final int KINDS = 14;

    private static final int COUNT_ALL = 14;
    private static final int COUNT_EXCEPTED = 15;

    /** A RULE of KIND k is bit k. */
    private static final int[] STYLE_RULES = {
        0b11111111111111,
        0b00111111101101,
        0b00001100001101,
        0b00000000000001,
        0b00000000000000};

    private final Part[] parts;
    private final Timeline timeline;
    private final Entries repeats;
    private final Entries exceptions;
    private final Judging judging;
    private final Chord chord;
    private int ruleBits;
    private int fifths;
    private int ticks;

    public LeadFaults(int voices) {
        int wanted = Math.max(LEAST_VOICES, Math.min(MOST_VOICES, voices));
        parts = new Part[wanted];
        for (int voice = 0; voice < parts.length; voice++) {
            parts[voice] = new Part();
        }
        timeline = new Timeline();
        repeats = new Entries(MOST_REPEATS);
        exceptions = new Entries(MOST_EXCEPTIONS);
        judging = new Judging();
        chord = new Chord();
        ruleBits = STYLE_RULES[0];
    }

    public int clear() {
        int events = 0;
        for (int voice = 0; voice < parts.length; voice++) {
            events += parts[voice].size;
            parts[voice].reset();
        }
        repeats.size = 0;
        exceptions.size = 0;
        judging.findings.reset();
        ruleBits = STYLE_RULES[0];
        fifths = 0;
        ticks = 0;
        timeline.gather(parts, ticks);
        return events;
    }

    public int note(int voice, int time, int step, int sharpness) {
        if (!isVoice(voice) || !isTime(time) || !within(step, 0, LAST_STEP)
                || !within(sharpness, -MOST_SHARPNESS, MOST_SHARPNESS)) {
            return BAD;
        }
        return append(voice, time, step, sharpness);
    }

    public int rest(int voice, int time) {
        if (!isVoice(voice) || !isTime(time)) {
            return BAD;
        }
        return append(voice, time, NONE, 0);
    }

    public int take(int voice) {
        if (!isVoice(voice)) {
            return BAD;
        }
        int left = parts[voice].dropLast();
        timeline.gather(parts, ticks);
        return left;
    }

    public int rule(int kind, int on) {
        if (!isKind(kind) || !within(on, 0, 1)) {
            return BAD;
        }
        int was = (ruleBits >> kind) & 1;
        ruleBits = (ruleBits & ~(1 << kind)) | (on << kind);
        return was;
    }

    public int style(int style) {
        if (!within(style, 0, STYLE_RULES.length - 1)) {
            return BAD;
        }
        ruleBits = STYLE_RULES[style];
        return Integer.bitCount(ruleBits);
    }

    public int key(int fifths) {
        if (!within(fifths, -MOST_FIFTHS, MOST_FIFTHS)) {
            return SILENT;
        }
        int was = this.fifths;
        this.fifths = fifths;
        return was;
    }

    public int range(int voice, int low, int high) {
        if (!isVoice(voice) || !within(low, LEAST_LIMIT, MOST_LIMIT)
                || !within(high, LEAST_LIMIT, MOST_LIMIT) || low > high) {
            return BAD;
        }
        Part part = parts[voice];
        part.low = low;
        part.high = high;
        return part.notesOutside();
    }

    public int grid(int ticks) {
        if (ticks != 0 && !within(ticks, LEAST_TICKS, MOST_TICKS)) {
            return BAD;
        }
        this.ticks = ticks;
        timeline.gather(parts, ticks);
        return timeline.size;
    }

    public int repeat(int from, int to) {
        if (!isTime(from) || !isTime(to) || from >= to) {
            return BAD;
        }
        return repeats.append(from, to);
    }

    public int except(int kind, int time) {
        if (!isKind(kind) || !isTime(time)) {
            return BAD;
        }
        if (exceptions.holds(kind, time)) {
            return NONE;
        }
        return exceptions.append(kind, time);
    }

    public int judge() {
        judging.begin(ruleBits, fifths);
        judging.walk(parts, timeline);
        for (int i = 0; i < repeats.size; i++) {
            judging.goBack(parts, timeline, repeats.firsts[i], repeats.seconds[i]);
        }
        Findings findings = judging.findings;
        for (int i = 0; i < exceptions.size; i++) {
            findings.leaveOut(exceptions.firsts[i], exceptions.seconds[i]);
        }
        return findings.sum();
    }

    public int fault(int i, int what) {
        Findings findings = judging.findings;
        if (!within(i, 0, findings.told - 1) || !within(what, 0, 4)) {
            return BAD;
        }
        return findings.tell(i, what);
    }

    public int count(int kind) {
        Findings findings = judging.findings;
        if (isKind(kind)) {
            return findings.toldOfKind[kind];
        }
        if (kind == COUNT_ALL) {
            return findings.told;
        }
        return kind == COUNT_EXCEPTED ? findings.excepted : BAD;
    }

    public int moments() {
        return timeline.size;
    }

    public int time(int moment) {
        return isMoment(moment) ? timeline.times[moment] : BAD;
    }

    public int height(int voice, int moment) {
        if (!isVoice(voice) || !isMoment(moment)) {
            return BAD;
        }
        chord.load(parts, timeline.times[moment]);
        return chord.sounds[voice] ? chord.heights[voice] : SILENT;
    }

    public int interval(int a, int b, int moment) {
        if (!isVoice(a) || !isVoice(b) || a >= b || !isMoment(moment)) {
            return BAD;
        }
        chord.load(parts, timeline.times[moment]);
        return chord.sounds[a] && chord.sounds[b] ? chord.quality(a, b) : SILENT;
    }

    public int event(int voice, int i, int what) {
        if (!isVoice(voice) || !within(i, 0, parts[voice].size - 1) || !within(what, 0, 2)) {
            return BAD;
        }
        Part part = parts[voice];
        if (what == 0) {
            return part.times[i];
        }
        if (what == 1) {
            return part.steps[i];
        }
        return part.isNote(i) ? part.sharps[i] + MOST_SHARPNESS : 0;
    }

    private int append(int voice, int time, int step, int sharpness) {
        int size = parts[voice].append(time, step, sharpness);
        timeline.gather(parts, ticks);
        return size;
    }

    private boolean isVoice(int voice) {
        return within(voice, 0, parts.length - 1);
    }

    private boolean isMoment(int moment) {
        return within(moment, 0, timeline.size - 1);
    }

    private static boolean isTime(int time) {
        return within(time, 0, LAST_TIME);
    }

    private static boolean isKind(int kind) {
        return within(kind, 0, KINDS - 1);
    }

    private static boolean within(int number, int least, int most) {
        return number >= least && number <= most;
    }

    /** The EVENTS of one VOICE, and its LOW and HIGH. */
    private static final class Part {
        final int[] times = new int[MOST_EVENTS];
        /** NONE of a REST. */
        final int[] steps = new int[MOST_EVENTS];
        final int[] sharps = new int[MOST_EVENTS];
        int size;
        int low = FIRST_LOW;
        int high = FIRST_HIGH;

        Part() {
        }

        void reset() {
            size = 0;
            low = FIRST_LOW;
            high = FIRST_HIGH;
        }

        int append(int time, int step, int sharpness) {
            if (time <= lastTime()) {
                return LATE;
            }
            if (size >= MOST_EVENTS) {
                return FULL;
            }
            times[size] = time;
            steps[size] = step;
            sharps[size] = sharpness;
            size++;
            return size;
        }

        int dropLast() {
            if (size == 0) {
                return NONE;
            }
            size--;
            return size;
        }

        /** NONE, which is before every TIME, without EVENTS. */
        int lastTime() {
            return size > 0 ? times[size - 1] : NONE;
        }

        boolean isNote(int i) {
            return steps[i] != NONE;
        }

        /** SILENT of a REST. */
        int heightOf(int i) {
            int step = steps[i];
            if (step < 0) {
                return SILENT;
            }
            return OCTAVE * (step / LETTERS) + LETTER_HEIGHTS[step % LETTERS] + sharps[i];
        }

        boolean isOutside(int height) {
            return height < low || height > high;
        }

        int notesOutside() {
            int outside = 0;
            for (int i = 0; i < size; i++) {
                if (isNote(i) && isOutside(heightOf(i))) {
                    outside++;
                }
            }
            return outside;
        }

        /** The last EVENT that is not later than a TIME, or NONE. */
        int lastNotLater(int time) {
            int found = NONE;
            // Halved strides from 16 on reach 31 EVENTS, more than a VOICE can have.
            for (int stride = 16; stride > 0; stride /= 2) {
                int tried = found + stride;
                if (tried < size && times[tried] <= time) {
                    found = tried;
                }
            }
            return found;
        }
    }

    /** The TIMES of the MOMENTS. */
    private static final class Timeline {
        final int[] times = new int[MOST_MOMENTS];
        int size;
        /** For each VOICE its first EVENT that is not gathered yet. */
        private final int[] heads = new int[MOST_VOICES];

        Timeline() {
        }

        void gather(Part[] parts, int ticks) {
            size = 0;
            if (ticks > 0) {
                gatherGrid(parts, ticks);
            } else {
                gatherEvents(parts);
            }
        }

        private void gatherGrid(Part[] parts, int ticks) {
            int last = NONE;
            for (int voice = 0; voice < parts.length; voice++) {
                last = Math.max(last, parts[voice].lastTime());
            }
            for (int time = 0; time <= last && size < times.length; time += ticks) {
                times[size] = time;
                size++;
            }
        }

        private void gatherEvents(Part[] parts) {
            Arrays.fill(heads, 0);
            int next = earliestHead(parts);
            while (next <= LAST_TIME && size < times.length) {
                times[size] = next;
                size++;
                passHeads(parts, next);
                next = earliestHead(parts);
            }
        }

        /** A TIME beyond the last one, if all EVENTS are gathered. */
        private int earliestHead(Part[] parts) {
            int earliest = LAST_TIME + 1;
            for (int voice = 0; voice < parts.length; voice++) {
                if (heads[voice] < parts[voice].size) {
                    earliest = Math.min(earliest, parts[voice].times[heads[voice]]);
                }
            }
            return earliest;
        }

        private void passHeads(Part[] parts, int time) {
            for (int voice = 0; voice < parts.length; voice++) {
                int head = heads[voice];
                if (head < parts[voice].size && parts[voice].times[head] == time) {
                    heads[voice]++;
                }
            }
        }

        /** The first MOMENT that is not earlier than a TIME, or NONE. */
        int firstFrom(int time) {
            for (int moment = 0; moment < size; moment++) {
                if (times[moment] >= time) {
                    return moment;
                }
            }
            return NONE;
        }

        /** The last MOMENT that is earlier than a TIME, or NONE. */
        int lastBefore(int time) {
            for (int moment = size - 1; moment >= 0; moment--) {
                if (times[moment] < time) {
                    return moment;
                }
            }
            return NONE;
        }
    }

    /** Couples of numbers, of which only so many are taken. */
    private static final class Entries {
        final int[] firsts;
        final int[] seconds;
        int size;

        Entries(int most) {
            int room = Math.max(0, most);
            firsts = new int[room];
            seconds = new int[room];
        }

        boolean holds(int first, int second) {
            for (int i = 0; i < size; i++) {
                if (firsts[i] == first && seconds[i] == second) {
                    return true;
                }
            }
            return false;
        }

        int append(int first, int second) {
            if (size >= firsts.length) {
                return FULL;
            }
            firsts[size] = first;
            seconds[size] = second;
            size++;
            return size;
        }
    }

    /** The NOTES that the VOICES have at one TIME. */
    private static final class Chord {
        final boolean[] sounds = new boolean[MOST_VOICES];
        final int[] steps = new int[MOST_VOICES];
        final int[] sharps = new int[MOST_VOICES];
        final int[] heights = new int[MOST_VOICES];

        Chord() {
        }

        void hush() {
            for (int voice = 0; voice < sounds.length; voice++) {
                sounds[voice] = false;
            }
        }

        void load(Part[] parts, int time) {
            for (int voice = 0; voice < parts.length; voice++) {
                Part part = parts[voice];
                int i = part.lastNotLater(time);
                sounds[voice] = i != NONE && part.isNote(i);
                if (sounds[voice]) {
                    steps[voice] = part.steps[i];
                    sharps[voice] = part.sharps[i];
                    heights[voice] = part.heightOf(i);
                }
            }
        }

        int letter(int voice) {
            return steps[voice] % LETTERS;
        }

        boolean isNoteOf(int voice, int letter, int sharpness) {
            return sounds[voice] && letter(voice) == letter && sharps[voice] == sharpness;
        }

        int stepsUp(int a, int b) {
            return steps[b] - steps[a];
        }

        int heightUp(int a, int b) {
            return heights[b] - heights[a];
        }

        /** What THE INTERVAL of two VOICES that both have a NOTE is: EIGHTH, FIFTH, HARSH, or 0. */
        int quality(int a, int b) {
            int s = Math.floorMod(stepsUp(a, b), LETTERS);
            int h = Math.floorMod(heightUp(a, b), OCTAVE);
            if (s == 0 && h == 0) {
                return EIGHTH;
            }
            if (s == 4 && h == 7) {
                return FIFTH;
            }
            return QUALITY_BY_HEIGHT[h];
        }
    }

    /** What the last judging found; FAULTS are bits, so that each is there once and all are in order. */
    private static final class Findings {
        /** For each MOMENT and KIND a bit for each a and b. */
        private final int[] marks = new int[MOST_MOMENTS * KINDS];
        private final int[] times = new int[MOST_MOMENTS];
        private int moments;
        final int[] toldOfKind = new int[KINDS];
        int told;
        int excepted;

        Findings() {
        }

        void reset() {
            Arrays.fill(marks, 0);
            Arrays.fill(toldOfKind, 0);
            moments = 0;
            told = 0;
            excepted = 0;
        }

        void begin(Timeline timeline) {
            reset();
            moments = timeline.size;
            System.arraycopy(timeline.times, 0, times, 0, times.length);
        }

        /** No FAULT names a VOICE twice, so b = a is free to stand for none. */
        void mark(int moment, int kind, int a, int b) {
            int cell = moment * KINDS + kind;
            if (cell >= 0 && cell < marks.length) {
                marks[cell] |= 1 << (a * MOST_VOICES + b);
            }
        }

        void leaveOut(int kind, int time) {
            for (int moment = 0; moment < moments; moment++) {
                if (times[moment] == time) {
                    int cell = moment * KINDS + kind;
                    excepted += Integer.bitCount(marks[cell]);
                    marks[cell] = 0;
                }
            }
        }

        int sum() {
            for (int cell = 0; cell < moments * KINDS; cell++) {
                int here = Integer.bitCount(marks[cell]);
                toldOfKind[cell % KINDS] += here;
                told += here;
            }
            return told;
        }

        int tell(int i, int what) {
            int skipped = i;
            for (int cell = 0; cell < moments * KINDS; cell++) {
                int here = Integer.bitCount(marks[cell]);
                if (skipped < here) {
                    return tellOfCell(cell, skipped, what);
                }
                skipped -= here;
            }
            return BAD;
        }

        private int tellOfCell(int cell, int skipped, int what) {
            int bit = bitAfter(marks[cell], skipped);
            int a = bit / MOST_VOICES;
            int b = bit % MOST_VOICES;
            switch (what) {
                case 0:
                    return cell % KINDS;
                case 1:
                    return times[cell / KINDS];
                case 2:
                    return a;
                case 3:
                    return a == b ? NONE : b;
                default:
                    return cell / KINDS;
            }
        }

        /** The lowest bit that has so many set ones below it. */
        private static int bitAfter(int bits, int skipped) {
            int left = skipped;
            for (int bit = 0; bit < MOST_VOICES * MOST_VOICES; bit++) {
                if (((bits >> bit) & 1) == 1) {
                    if (left == 0) {
                        return bit;
                    }
                    left--;
                }
            }
            return 0;
        }
    }

    /** The RULES, put to one MOMENT or PAIR after the other. */
    private static final class Judging {
        final Findings findings = new Findings();
        private Chord first = new Chord();
        private Chord second = new Chord();
        private int moment;
        private int voices;
        private int ruleBits;
        private int leadingLetter;
        private int leadingSharpness;

        Judging() {
        }

        void begin(int ruleBits, int fifths) {
            this.ruleBits = ruleBits;
            leadingLetter = Math.floorMod(4 * fifths + 6, LETTERS);
            leadingSharpness = sharpnessInKey(leadingLetter, fifths);
        }

        private static int sharpnessInKey(int letter, int fifths) {
            for (int i = 0; i < fifths && i < LETTERS; i++) {
                if (SHARPENED_LETTERS[i] == letter) {
                    return 1;
                }
            }
            for (int i = 0; i < -fifths && i < LETTERS; i++) {
                if (FLATTENED_LETTERS[i] == letter) {
                    return -1;
                }
            }
            return 0;
        }

        /** All MOMENTS, and the PAIRS of each with the next one. */
        void walk(Part[] parts, Timeline timeline) {
            findings.begin(timeline);
            voices = parts.length;
            // Silence before the first MOMENT makes every NOTE there a new one, and no PAIR with it has a FAULT.
            second.hush();
            for (int here = 0; here < timeline.size; here++) {
                Chord past = first;
                first = second;
                second = past;
                second.load(parts, timeline.times[here]);
                moment = here;
                lookAtMoment(parts);
                lookAtPair();
            }
        }

        /** The PAIR of a REPEAT, if there is one. */
        void goBack(Part[] parts, Timeline timeline, int from, int to) {
            int start = timeline.firstFrom(from);
            int end = timeline.lastBefore(to);
            if (start == NONE || end < start) {
                return;
            }
            first.load(parts, timeline.times[end]);
            second.load(parts, timeline.times[start]);
            moment = start;
            lookAtPair();
        }

        private void lookAtMoment(Part[] parts) {
            for (int a = 0; a < voices; a++) {
                if (second.sounds[a]) {
                    boolean isNew = !goes(a) || moves(a);
                    alone(OUT_OF_RANGE, a, isNew && parts[a].isOutside(second.heights[a]));
                    for (int b = a + 1; b < voices; b++) {
                        if (second.sounds[b]) {
                            lookAtInterval(a, b);
                        }
                    }
                }
            }
        }

        private void lookAtInterval(int a, int b) {
            int h = second.heightUp(a, b);
            between(CROSSED, a, b, h < 0);
            between(LEADING_TWICE, a, b, leads(second, a) && leads(second, b));
            if (b == a + 1) {
                between(SPREAD, a, b, h > (a == 0 ? 19 : 12));
                between(UNISON, a, b, h == 0);
            }
        }

        private void lookAtPair() {
            for (int a = 0; a < voices; a++) {
                if (moves(a)) {
                    lookAtMove(a);
                }
                for (int b = a + 1; b < voices; b++) {
                    if (goes(a) && goes(b)) {
                        lookAtTwo(a, b);
                    }
                }
                for (int b = 0; b < voices; b++) {
                    between(CROSS_RELATION, a, b, a != b && isCrossRelation(a, b));
                }
            }
        }

        private void lookAtMove(int a) {
            int s = second.steps[a] - first.steps[a];
            int h = second.heights[a] - first.heights[a];
            alone(LEAP, a, s < 0 ? isLeap(-s, -h) : isLeap(s, h));
            alone(LEADING_ASTRAY, a, leads(first, a) && !(s == 1 && h == 1));
            boolean wasSeventh = a > 0 && first.sounds[0]
                    && Math.floorMod(first.stepsUp(0, a), LETTERS) == 6;
            alone(SEVENTH, a, wasSeventh && s != -1);
        }

        private static boolean isLeap(int s, int h) {
            if (h > OCTAVE || h == 6 || h == 10 || h == 11) {
                return true;
            }
            int overOctaves = h - OCTAVE * (s / LETTERS);
            int letters = s % LETTERS;
            return overOctaves < LEAST_HEIGHT_OF_STEPS[letters] || overOctaves > MOST_HEIGHT_OF_STEPS[letters];
        }

        private void lookAtTwo(int a, int b) {
            boolean alike = way(a) * way(b) > 0;
            boolean apart = way(a) * way(b) < 0;
            int was = first.quality(a, b);
            int is = second.quality(a, b);
            boolean isPure = is == EIGHTH || is == FIFTH;
            between(PARALLEL, a, b, alike && isPure && was == is);
            between(CONTRARY, a, b, apart && isPure && was == is);
            between(INTO_HARSH, a, b, alike && was != HARSH && is == HARSH);
            if (a == 0 && b == voices - 1) {
                boolean jumps = Math.abs(second.heights[b] - first.heights[b]) > 2;
                between(HIDDEN, a, b, alike && isPure && was != is && jumps);
            }
            if (b == a + 1) {
                between(OVERLAPPED, a, b, second.heights[a] > first.heights[b]
                        || second.heights[b] < first.heights[a]);
            }
        }

        private boolean isCrossRelation(int a, int b) {
            return first.sounds[a] && second.sounds[b]
                    && first.letter(a) == second.letter(b)
                    && first.sharps[a] != second.sharps[b]
                    && !second.isNoteOf(a, second.letter(b), second.sharps[b]);
        }

        private boolean leads(Chord chord, int voice) {
            return chord.isNoteOf(voice, leadingLetter, leadingSharpness);
        }

        private boolean goes(int voice) {
            return first.sounds[voice] && second.sounds[voice];
        }

        private boolean moves(int voice) {
            return goes(voice) && (first.steps[voice] != second.steps[voice]
                    || first.sharps[voice] != second.sharps[voice]);
        }

        /** 1 UP, -1 DOWN, 0 neither, of a VOICE that GOES. */
        private int way(int voice) {
            return Integer.compare(second.heights[voice], first.heights[voice]);
        }

        private void alone(int kind, int a, boolean isFault) {
            between(kind, a, a, isFault);
        }

        private void between(int kind, int a, int b, boolean isFault) {
            if (isFault && ((ruleBits >> kind) & 1) == 1) {
                findings.mark(moment, kind, a, b);
            }
        }
    }
}
