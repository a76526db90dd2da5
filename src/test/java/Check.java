import java.nio.charset.StandardCharsets;

/** What the tests share: texts put on THE TAPE, and answers held against those that are due. */
final class Check {
    private static int wrong;
    private static int calls;
    private static int sentences;
    private static String sentence = "";

    private Check() {
    }

    /** The document's words that the answers behind this call are held against. */
    static void says(String words) {
        sentence = "'" + words + "': ";
        sentences++;
    }

    static void due(String call, int got, int want) {
        calls++;
        if (got != want) {
            wrong++;
            System.out.println(sentence + call + " answered " + got + ", due is " + want);
        }
    }

    static void holds(String what, boolean is) {
        due(what, is ? 1 : 0, 1);
    }

    /** Ends the program with 1 if an answer was wrong. */
    static void finish(String test) {
        String told = sentences == 0 ? "" : sentences + " sentences, ";
        System.out.println(test + ": " + told + calls + " answers, " + wrong + " wrong");
        if (wrong != 0) {
            System.exit(1);
        }
    }

    static PenSchool tape(PenSchool x, String text) {
        return tape(x, text.getBytes(StandardCharsets.ISO_8859_1));
    }

    static PenSchool tape(PenSchool x, byte[] text) {
        x.end(0);
        for (int from = 0; from < text.length; from += 20) {
            int[] words = new int[5];
            for (int i = 0; i < 20; i++) {
                int b = from + i < text.length ? text[from + i] & 255 : ' ';
                words[i / 4] = words[i / 4] << 8 | b;
            }
            x.feed(words[0], words[1], words[2], words[3], words[4]);
        }
        due("end(" + text.length + ")", x.end(text.length), text.length);
        return x;
    }

    static PenSchool school(String system) {
        PenSchool x = new PenSchool();
        system(x, system);
        return x;
    }

    static int system(PenSchool x, String text) {
        return tape(x, text).system();
    }

    static int policy(PenSchool x, String text) {
        return tape(x, text).policy();
    }

    static int term(PenSchool x, String row, int count) {
        return tape(x, row).term(count);
    }

    static int candidate(PenSchool x, int t, String signs) {
        return tape(x, signs).candidate(t);
    }

    static void passage(PenSchool x, int... terms) {
        x.clear();
        for (int t : terms) {
            x.say(t);
        }
    }

    static void fault(PenSchool x, String text, boolean isSystem, int kind, int place) {
        String call = (isSystem ? "system" : "policy") + " of \"" + text + "\"";
        due(call, isSystem ? system(x, text) : policy(x, text), PenSchool.NONE);
        due(call + " fault(0)", x.fault(0), kind);
        due(call + " fault(1)", x.fault(1), place);
    }

    /** A row of two SOUNDS for each number 0 .. 255, no two alike. */
    static String pair(int i) {
        return "" + (char) ('a' + i / 16) + (char) ('a' + i % 16);
    }

    /** So many SIGNS, numbered as their ROWS pair(0), pair(1) .. are, all of one WAY and LENGTH. */
    static String manySigns(int n) {
        StringBuilder text = new StringBuilder();
        for (int i = 0; i < n; i++) {
            text.append("sign ").append(pair(i)).append(" 1 1;");
        }
        return text.toString();
    }
}
