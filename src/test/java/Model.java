import java.util.ArrayList;
import java.util.Arrays;
import java.util.HashSet;
import java.util.List;
import java.util.Map;
import java.util.Set;
import java.util.TreeMap;
import java.util.TreeSet;

/** The document told once more, slowly and with the Java library, to judge the class by. */
final class Model {
    private record Sound(int step, int sharpness) {
        int letter() {
            return step % 7;
        }

        int height() {
            return step / 7 * 12 + List.of(0, 2, 4, 5, 7, 9, 11).get(letter()) + sharpness;
        }
    }

    private record Fault(int moment, int time, int kind, int a, int b) implements Comparable<Fault> {
        @Override
        public int compareTo(Fault other) {
            return Arrays.compare(new int[] {moment, kind, a, b},
                    new int[] {other.moment, other.kind, other.a, other.b});
        }
    }

    private static final Sound REST = new Sound(-1, -2);

    private final int voices;
    private final List<TreeMap<Integer, Sound>> events = new ArrayList<>();
    private final int[][] ranges;
    private final Set<Integer> rules = new HashSet<>();
    private final List<List<Integer>> repeats = new ArrayList<>();
    private final Set<List<Integer>> exceptions = new HashSet<>();
    private int fifths;
    private int grid;
    private List<Fault> told = new ArrayList<>();
    private int excepted;
    private TreeSet<Fault> found;

    Model(int voices) {
        this.voices = voices < 2 ? 2 : voices > 5 ? 5 : voices;
        ranges = new int[this.voices][];
        clear();
    }

    int clear() {
        int many = events.stream().mapToInt(Map::size).sum();
        events.clear();
        for (int i = 0; i < voices; i++) {
            events.add(new TreeMap<>());
            ranges[i] = new int[] {0, 96};
        }
        repeats.clear();
        exceptions.clear();
        told = new ArrayList<>();
        excepted = 0;
        fifths = 0;
        grid = 0;
        style(0);
        return many;
    }

    private boolean no(int number, int least, int most) {
        return number < least || number > most;
    }

    int note(int voice, int time, int step, int sharpness) {
        if (no(voice, 0, voices - 1) || no(time, 0, 999) || no(step, 0, 55) || no(sharpness, -2, 2)) {
            return -2;
        }
        return put(voice, time, new Sound(step, sharpness));
    }

    int rest(int voice, int time) {
        return no(voice, 0, voices - 1) || no(time, 0, 999) ? -2 : put(voice, time, REST);
    }

    private int put(int voice, int time, Sound sound) {
        TreeMap<Integer, Sound> line = events.get(voice);
        if (line.ceilingKey(time) != null) {
            return -4;
        }
        if (line.size() == 24) {
            return -3;
        }
        line.put(time, sound);
        return line.size();
    }

    int take(int voice) {
        if (no(voice, 0, voices - 1)) {
            return -2;
        }
        return events.get(voice).pollLastEntry() == null ? -1 : events.get(voice).size();
    }

    int rule(int kind, int on) {
        if (no(kind, 0, 13) || no(on, 0, 1)) {
            return -2;
        }
        boolean was = on == 1 ? !rules.add(kind) : rules.remove(kind);
        return was ? 1 : 0;
    }

    int style(int style) {
        if (no(style, 0, 4)) {
            return -2;
        }
        rules.clear();
        if (style < 2) {
            for (int kind = 0; kind < 14; kind++) {
                rules.add(kind);
            }
        }
        if (style == 1) {
            rules.removeAll(List.of(1, 4, 12, 13));
        } else if (style == 2) {
            rules.addAll(List.of(0, 2, 3, 8, 9));
        } else if (style == 3) {
            rules.add(0);
        }
        return rules.size();
    }

    int key(int key) {
        if (no(key, -7, 7)) {
            return -100;
        }
        int was = fifths;
        fifths = key;
        return was;
    }

    int range(int voice, int low, int high) {
        if (no(voice, 0, voices - 1) || no(low, -2, 99) || no(high, -2, 99) || low > high) {
            return -2;
        }
        ranges[voice] = new int[] {low, high};
        return (int) events.get(voice).values().stream()
                .filter(s -> s != REST && no(s.height(), low, high)).count();
    }

    int grid(int ticks) {
        if (ticks != 0 && no(ticks, 10, 500)) {
            return -2;
        }
        grid = ticks;
        return moments();
    }

    int repeat(int from, int to) {
        if (no(from, 0, 999) || no(to, 0, 999) || from >= to) {
            return -2;
        }
        if (repeats.size() == 4) {
            return -3;
        }
        repeats.add(List.of(from, to));
        return repeats.size();
    }

    int except(int kind, int time) {
        if (no(kind, 0, 13) || no(time, 0, 999)) {
            return -2;
        }
        if (exceptions.contains(List.of(kind, time))) {
            return -1;
        }
        if (exceptions.size() == 20) {
            return -3;
        }
        exceptions.add(List.of(kind, time));
        return exceptions.size();
    }

    private List<Integer> momentTimes() {
        TreeSet<Integer> times = new TreeSet<>();
        events.forEach(line -> times.addAll(line.keySet()));
        if (grid == 0 || times.isEmpty()) {
            return new ArrayList<>(times);
        }
        List<Integer> multiples = new ArrayList<>();
        for (int k = 0; k * grid <= times.last(); k++) {
            multiples.add(k * grid);
        }
        return multiples;
    }

    int moments() {
        return momentTimes().size();
    }

    int time(int moment) {
        return no(moment, 0, moments() - 1) ? -2 : momentTimes().get(moment);
    }

    /** null: silent. */
    private Sound at(int voice, int time) {
        Map.Entry<Integer, Sound> last = events.get(voice).floorEntry(time);
        return last == null || last.getValue() == REST ? null : last.getValue();
    }

    int height(int voice, int moment) {
        if (no(voice, 0, voices - 1) || no(moment, 0, moments() - 1)) {
            return -2;
        }
        Sound sound = at(voice, time(moment));
        return sound == null ? -100 : sound.height();
    }

    private static int left(int number, int by) {
        int rest = number % by;
        return rest < 0 ? rest + by : rest;
    }

    private int intervalOf(Sound low, Sound high) {
        int s = left(high.step() - low.step(), 7);
        int h = left(high.height() - low.height(), 12);
        return s == 0 && h == 0 ? 1 : s == 4 && h == 7 ? 2 : Set.of(1, 2, 6, 10, 11).contains(h) ? 3 : 0;
    }

    int interval(int a, int b, int moment) {
        if (no(a, 0, voices - 1) || no(b, 0, voices - 1) || a >= b || no(moment, 0, moments() - 1)) {
            return -2;
        }
        Sound low = at(a, time(moment));
        Sound high = at(b, time(moment));
        return low == null || high == null ? -100 : intervalOf(low, high);
    }

    int event(int voice, int i, int what) {
        if (no(voice, 0, voices - 1) || no(i, 0, events.get(voice).size() - 1) || no(what, 0, 2)) {
            return -2;
        }
        int time = new ArrayList<>(events.get(voice).keySet()).get(i);
        Sound sound = events.get(voice).get(time);
        return what == 0 ? time : what == 1 ? sound.step() : sound.sharpness() + 2;
    }

    int fault(int i, int what) {
        if (no(i, 0, told.size() - 1) || no(what, 0, 4)) {
            return -2;
        }
        Fault f = told.get(i);
        return List.of(f.kind, f.time, f.a, f.b, f.moment).get(what);
    }

    int count(int kind) {
        if (no(kind, 0, 15)) {
            return -2;
        }
        return kind == 15 ? excepted : (int) told.stream().filter(f -> kind == 14 || f.kind == kind).count();
    }

    int judge() {
        found = new TreeSet<>();
        List<Integer> times = momentTimes();
        for (int m = 0; m < times.size(); m++) {
            atMoment(times, m);
            if (m > 0) {
                inPair(times, m - 1, m);
            }
        }
        for (List<Integer> r : repeats) {
            int end = -1;
            int start = -1;
            for (int m = 0; m < times.size(); m++) {
                end = times.get(m) < r.get(1) ? m : end;
                start = start < 0 && times.get(m) >= r.get(0) ? m : start;
            }
            if (end >= 0 && start >= 0 && end >= start) {
                inPair(times, end, start);
            }
        }
        found.removeIf(f -> !rules.contains(f.kind));
        int all = found.size();
        found.removeIf(f -> exceptions.contains(List.of(f.kind, f.time)));
        told = new ArrayList<>(found);
        excepted = all - told.size();
        return told.size();
    }

    private boolean leading(Sound sound) {
        String sharps = "FCGDAEB";
        String flats = "BEADGCF";
        char letter = "CDEFGAB".charAt(left(4 * fifths + 6, 7));
        int sharpness = 0;
        if (fifths > 0 && sharps.substring(0, fifths).indexOf(letter) >= 0) {
            sharpness = 1;
        }
        if (fifths < 0 && flats.substring(0, -fifths).indexOf(letter) >= 0) {
            sharpness = -1;
        }
        return "CDEFGAB".charAt(sound.letter()) == letter && sound.sharpness() == sharpness;
    }

    private void atMoment(List<Integer> times, int m) {
        int time = times.get(m);
        for (int a = 0; a < voices; a++) {
            Sound low = at(a, time);
            if (low == null) {
                continue;
            }
            Sound before = m == 0 ? null : at(a, times.get(m - 1));
            if (no(low.height(), ranges[a][0], ranges[a][1]) && !low.equals(before)) {
                found.add(new Fault(m, time, 6, a, -1));
            }
            for (int b = a + 1; b < voices; b++) {
                Sound high = at(b, time);
                if (high == null) {
                    continue;
                }
                int h = high.height() - low.height();
                add(h < 0, m, time, 3, a, b);
                add(b == a + 1 && (a == 0 ? h > 19 : h > 12), m, time, 5, a, b);
                add(leading(low) && leading(high), m, time, 9, a, b);
                add(b == a + 1 && h == 0, m, time, 13, a, b);
            }
        }
    }

    private void add(boolean is, int m, int time, int kind, int a, int b) {
        if (is) {
            found.add(new Fault(m, time, kind, a, b));
        }
    }

    private void inPair(List<Integer> times, int m1, int m2) {
        int time = times.get(m2);
        for (int a = 0; a < voices; a++) {
            Sound a1 = at(a, times.get(m1));
            Sound a2 = at(a, time);
            if (a1 != null && a2 != null && !a1.equals(a2)) {
                add(leap(a1, a2), m2, time, 7, a, -1);
                boolean resolves = a2.step() == a1.step() + 1 && a2.height() == a1.height() + 1;
                add(leading(a1) && !resolves, m2, time, 8, a, -1);
                Sound ground = at(0, times.get(m1));
                add(a > 0 && ground != null && left(a1.step() - ground.step(), 7) == 6 && a2.step() != a1.step() - 1,
                        m2, time, 10, a, -1);
            }
            for (int b = 0; b < voices; b++) {
                Sound b1 = at(b, times.get(m1));
                Sound b2 = at(b, time);
                if (a != b && a1 != null && b2 != null) {
                    boolean one = a1.letter() == b2.letter() && a1.sharpness() != b2.sharpness();
                    boolean own = a2 != null && a2.letter() == a1.letter() && a2.sharpness() == b2.sharpness();
                    add(one && !own, m2, time, 11, a, b);
                }
                if (a < b && a1 != null && a2 != null && b1 != null && b2 != null) {
                    twoGo(new Sound[] {a1, a2, b1, b2}, m2, time, a, b);
                }
            }
        }
    }

    private void twoGo(Sound[] s, int m, int time, int a, int b) {
        boolean aUp = s[1].height() > s[0].height();
        boolean aDown = s[1].height() < s[0].height();
        boolean bUp = s[3].height() > s[2].height();
        boolean bDown = s[3].height() < s[2].height();
        boolean alike = aUp && bUp || aDown && bDown;
        boolean apart = aUp && bDown || aDown && bUp;
        int was = intervalOf(s[0], s[2]);
        int is = intervalOf(s[1], s[3]);
        boolean kept = was == 1 && is == 1 || was == 2 && is == 2;
        add(alike && kept, m, time, 0, a, b);
        add(apart && kept, m, time, 1, a, b);
        boolean arrives = is == 1 && was != 1 || is == 2 && was != 2;
        int jump = s[3].height() - s[2].height();
        add(a == 0 && b == voices - 1 && alike && arrives && (jump > 2 || jump < -2), m, time, 2, a, b);
        add(b == a + 1 && (s[1].height() > s[2].height() || s[3].height() < s[0].height()), m, time, 4, a, b);
        add(alike && was != 3 && is == 3, m, time, 12, a, b);
    }

    private boolean leap(Sound from, Sound to) {
        Sound low = to.step() < from.step() ? to : from;
        Sound high = to.step() < from.step() ? from : to;
        int s = high.step() - low.step();
        int h = high.height() - low.height();
        List<List<Integer>> allowed = List.of(List.of(0), List.of(1, 2), List.of(3, 4), List.of(5), List.of(7),
                List.of(8, 9), List.of(10, 11));
        return h > 12 || Set.of(6, 10, 11).contains(h) || !allowed.get(s % 7).contains(h - 12 * (s / 7));
    }
}
