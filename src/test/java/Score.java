/**
 * Music as text: VOICES from the lowest on, parted by '|'; in each a word every 10 ticks:
 * a NOTE (F#3, Bbb2: octave 3 begins with STEP 21), '-' a REST, '.' no EVENT.
 */
final class Score {
    static final int[] LETTER_HEIGHTS = {0, 2, 4, 5, 7, 9, 11};

    private Score() {
    }

    static LeadFaults of(String text) {
        String[] voices = text.split("\\|");
        LeadFaults lead = new LeadFaults(voices.length);
        for (int voice = 0; voice < voices.length; voice++) {
            String[] words = voices[voice].trim().split(" +");
            for (int i = 0; i < words.length; i++) {
                write(lead, voice, 10 * i, words[i]);
            }
        }
        return lead;
    }

    static void write(LeadFaults lead, int voice, int time, String word) {
        if (word.equals(".")) {
            return;
        }
        int answer = word.equals("-") ? lead.rest(voice, time) : lead.note(voice, time, step(word), sharpness(word));
        if (answer < 1) {
            throw new IllegalArgumentException(word + " was refused: " + answer);
        }
    }

    static int step(String word) {
        int octave = word.charAt(word.length() - 1) - '0';
        return 7 * octave + "CDEFGAB".indexOf(word.charAt(0));
    }

    static int sharpness(String word) {
        int sharpness = 0;
        for (char c : word.substring(1, word.length() - 1).toCharArray()) {
            sharpness += c == '#' ? 1 : -1;
        }
        return sharpness;
    }

    static int height(int step, int sharpness) {
        return 12 * (step / 7) + LETTER_HEIGHTS[step % 7] + sharpness;
    }

    /** The TIMES of all MOMENTS. */
    static String times(LeadFaults lead) {
        StringBuilder times = new StringBuilder();
        for (int moment = 0; moment < lead.moments(); moment++) {
            times.append(moment > 0 ? " " : "").append(lead.time(moment));
        }
        return times.toString();
    }

    /** The FAULTS of one KIND alone, each as 'time:a' or 'time:a-b'. */
    static String faults(LeadFaults lead, int kind) {
        lead.style(4);
        lead.rule(kind, 1);
        StringBuilder told = new StringBuilder();
        int many = lead.judge();
        for (int i = 0; i < many; i++) {
            told.append(i > 0 ? " " : "").append(lead.fault(i, 1)).append(':').append(lead.fault(i, 2));
            if (lead.fault(i, 3) != LeadFaults.NONE) {
                told.append('-').append(lead.fault(i, 3));
            }
        }
        return told.toString();
    }

    /** All FAULTS that were told, each as 'moment/kind:a' or 'moment/kind:a-b'. */
    static String told(LeadFaults lead) {
        StringBuilder told = new StringBuilder();
        for (int i = 0; lead.fault(i, 0) != LeadFaults.BAD; i++) {
            told.append(i > 0 ? " " : "").append(lead.fault(i, 4)).append('/').append(lead.fault(i, 0));
            told.append(':').append(lead.fault(i, 2));
            if (lead.fault(i, 3) != LeadFaults.NONE) {
                told.append('-').append(lead.fault(i, 3));
            }
        }
        return told.toString();
    }
}
