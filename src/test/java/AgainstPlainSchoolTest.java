import java.nio.charset.StandardCharsets;
import java.util.Random;

/** Runs of calls that are drawn by lot (always the same ones), each answered by PenSchool and PlainSchool. */
public final class AgainstPlainSchoolTest {
    private static final int RUNS = 4000;
    private static final int CALLS = 500;

    private final Random lot;
    private final PenSchool x = new PenSchool();
    private final PlainSchool plain = new PlainSchool();
    private final int run;
    /** How many of a .. p a run uses: few, so that things meet. */
    private final int letters;
    private final int signs;
    private int made;

    private AgainstPlainSchoolTest(int run) {
        this.run = run;
        lot = new Random(run);
        letters = 2 + lot.nextInt(5);
        signs = 1 + lot.nextInt(lot.nextInt(4) == 0 ? 30 : 9);
    }

    public static void main(String[] args) {
        for (int run = 0; run < RUNS; run++) {
            new AgainstPlainSchoolTest(run).play();
        }
        Check.finish("AgainstPlainSchoolTest");
    }

    private void same(String call, int got, int want) {
        made++;
        if (got != want) {
            Check.due("run " + run + ", call " + made + ": " + call, got, want);
        } else {
            Check.due("", 0, 0);
        }
    }

    private int below(int n) {
        return lot.nextInt(n);
    }

    private boolean oneIn(int n) {
        return lot.nextInt(n) == 0;
    }

    private void play() {
        newSystem();
        for (int i = 0; i < 8; i++) {
            newTerm();
        }
        while (made < CALLS) {
            step();
        }
    }

    private void step() {
        switch (below(24)) {
            case 0 -> rarely(40, this::newSystem);
            case 1 -> rarely(6, this::newPolicy);
            case 2, 3 -> newTerm();
            case 4, 5 -> newCandidate();
            case 6 -> briefs();
            case 7, 8 -> links();
            case 9, 10, 11 -> say();
            case 12 -> phrases();
            case 13, 14 -> dictation();
            case 15, 16 -> lessons();
            case 17, 18, 19 -> marks();
            case 20 -> wildTape();
            case 21 -> rarely(4, this::faultyText);
            case 22 -> tellCounts();
            default -> tellTerm();
        }
    }

    private void rarely(int n, Runnable what) {
        if (oneIn(n)) {
            what.run();
        }
    }

    // ---- texts

    private void tape(String text) {
        same("end(0)", x.end(0), plain.end(0));
        byte[] bytes = text.getBytes(StandardCharsets.ISO_8859_1);
        for (int from = 0; from < bytes.length; from += 20) {
            int[] w = new int[5];
            for (int i = 0; i < 20; i++) {
                w[i / 4] = w[i / 4] << 8 | (from + i < bytes.length ? bytes[from + i] & 255 : ' ');
            }
            same("feed", x.feed(w[0], w[1], w[2], w[3], w[4]), plain.feed(w[0], w[1], w[2], w[3], w[4]));
        }
        same("end(" + bytes.length + ")", x.end(bytes.length), plain.end(bytes.length));
    }

    private String row(int most) {
        StringBuilder row = new StringBuilder();
        int n = 1 + below(most);
        for (int i = 0; i < n; i++) {
            row.append((char) ('a' + below(letters)));
        }
        return row.toString();
    }

    private String systemText() {
        StringBuilder text = new StringBuilder();
        if (!oneIn(4)) {
            String vowels = "";
            for (int i = 0; i < 1 + below(4); i++) {
                char c = (char) ('a' + below(letters));
                vowels = vowels.indexOf(c) < 0 ? vowels + c : vowels;
            }
            text.append("vowels ").append(vowels).append(';');
        }
        String rows = " ";
        for (int i = 0; i < signs; i++) {
            String row = i < letters && !oneIn(6) ? "" + (char) ('a' + i) : row(4);
            if (!rows.contains(" " + row + " ")) {
                rows += row + " ";
                text.append("sign ").append(row).append(' ').append(below(oneIn(2) ? 8 : 3));
                text.append(' ').append(1 + below(3)).append(';');
            }
        }
        String[] numbers = {"length " + below(10), "turn " + below(4), "lift " + below(oneIn(2) ? 12 : 100),
            "sharp " + below(5), "drop " + new String[] {"all", "inner", "none"}[below(3)], "phrase " + (1 + below(8))};
        for (String number : numbers) {
            if (!oneIn(3)) {
                text.append(number).append(oneIn(5) ? " \n;\n " : ";");
            }
        }
        return text.toString();
    }

    private String policyText() {
        StringBuilder text = new StringBuilder();
        int lines = below(oneIn(8) ? 10 : 4);
        for (int i = 0; i < lines; i++) {
            String joint = "when ";
            int conditions = 1 + below(oneIn(10) ? 5 : 2);
            for (int k = 0; k < conditions; k++) {
                int n = below(oneIn(6) ? 10000 : oneIn(3) ? 40 : 5);
                text.append(joint).append(new String[] {"mind", "late", "cost", "count", "signs"}[below(5)]);
                text.append(' ').append(new String[] {"above", "below", "is"}[below(3)]).append(' ').append(n);
                joint = " and ";
            }
            text.append(" do ").append(new String[] {"write", "drop", "short " + (1 + below(6)),
                "rest " + (1 + below(50))}[below(4)]).append("; ");
        }
        return text.toString();
    }

    private void tellFault() {
        for (int what = -1; what <= 2; what++) {
            same("fault(" + what + ")", x.fault(what), plain.fault(what));
        }
    }

    private void newSystem() {
        tape(systemText());
        same("system()", x.system(), plain.system());
        tellFault();
        for (int what = -1; what < 17; what++) {
            same("rule(" + what + ")", x.rule(what), plain.rule(what));
        }
        int s = below(signs + 1);
        for (int what = -1; what < 15; what++) {
            same("sign(" + s + ", " + what + ")", x.sign(s, what), plain.sign(s, what));
        }
        tellNotes();
    }

    private void newPolicy() {
        tape(policyText());
        same("policy()", x.policy(), plain.policy());
        tellFault();
    }

    /** A good text with a few bytes changed, left out or put in. */
    private void faultyText() {
        boolean isSystem = oneIn(2);
        StringBuilder text = new StringBuilder(isSystem ? systemText() : policyText());
        for (int i = below(3); i >= 0 && text.length() > 0; i--) {
            int at = below(text.length());
            char c = "abcpqz0189; \n;A#\u00e9".charAt(below(17));
            switch (below(4)) {
                case 0 -> text.setCharAt(at, c);
                case 1 -> text.deleteCharAt(at);
                case 2 -> text.insert(at, c);
                default -> text.setLength(at);
            }
        }
        tape(text.toString());
        if (isSystem) {
            same("system() of " + text, x.system(), plain.system());
        } else {
            same("policy() of " + text, x.policy(), plain.policy());
        }
        tellFault();
    }

    private void wildTape() {
        int n = below(900) - 20;
        int a = lot.nextInt();
        same("feed(" + a + ", ..)", x.feed(a, n, ~a, -n, a >>> 7), plain.feed(a, n, ~a, -n, a >>> 7));
        if (oneIn(3)) {
            same("end(" + n + ")", x.end(n), plain.end(n));
        }
        same("count(6)", x.count(6), plain.count(6));
        if (oneIn(9)) {
            int t = below(5) - 1;
            switch (below(4)) {
                case 0 -> same("system()", x.system(), plain.system());
                case 1 -> same("policy()", x.policy(), plain.policy());
                case 2 -> same("term(" + t + ")", x.term(t), plain.term(t));
                default -> same("candidate(" + t + ")", x.candidate(t), plain.candidate(t));
            }
            same("count(6)", x.count(6), plain.count(6));
        }
    }

    // ---- terms

    private int anyTerm() {
        int n = plain.count(0);
        return oneIn(30) || n == 0 ? below(n + 3) - 1 : below(n);
    }

    private void newTerm() {
        String row = oneIn(20) ? "aq" : row(oneIn(8) ? 12 : 6);
        tape(oneIn(3) ? termBlanks() + row + termBlanks() : oneIn(40) ? row + termBlanks() + "b" : row);
        int count = oneIn(20) ? below(12000) - 100 : 1 + below(oneIn(2) ? 4 : 60);
        same("term(" + count + ")", x.term(count), plain.term(count));
    }

    private String termBlanks() {
        return (oneIn(2) ? " " : "\n").repeat(below(4)) + " ".repeat(below(3));
    }

    private void tellTerm() {
        int t = anyTerm();
        for (int what = -1; what < 10; what++) {
            same("about(" + t + ", " + what + ")", x.about(t, what), plain.about(t, what));
        }
        for (int what = 10; what < 70; what += 1 + below(4)) {
            same("about(" + t + ", " + what + ")", x.about(t, what), plain.about(t, what));
        }
        same("alike(" + t + ")", x.alike(t), plain.alike(t));
    }

    private void tellCounts() {
        for (int what = -1; what < 10; what++) {
            same("count(" + what + ")", x.count(what), plain.count(what));
        }
    }

    // ---- briefs

    private void newCandidate() {
        StringBuilder row = new StringBuilder();
        for (int i = below(oneIn(9) ? 5 : 3); i >= 0; i--) {
            row.append((char) ('A' + below(Math.max(1, plain.rule(7)))));
        }
        if (plain.count(1) >= 9 && !oneIn(4)) {
            return;
        }
        tape(oneIn(20) ? row.append((char) below(256)).toString() : row.toString());
        int t = oneIn(2) ? below(4) : anyTerm();
        same("candidate(" + t + ")", x.candidate(t), plain.candidate(t));
        same("chosen()", x.chosen(), plain.chosen());
    }

    private void briefs() {
        int n = below(15) - 1;
        same("choose(" + n + ")", x.choose(n), plain.choose(n));
        same("chosen()", x.chosen(), plain.chosen());
        int set = oneIn(3) ? plain.chosen() : below(2 << plain.count(1)) - 1 & (oneIn(2) ? -1 : lot.nextInt());
        same("saves(" + set + ")", x.saves(set), plain.saves(set));
        if (oneIn(2)) {
            same("adopt(" + set + ")", x.adopt(set), plain.adopt(set));
            tellTerm();
        }
        same("count(8)", x.count(8), plain.count(8));
    }

    // ---- passages

    private void links() {
        int p = anyTerm();
        int q = anyTerm();
        boolean is = !oneIn(4);
        same("joins(" + p + ", " + q + ", " + is + ")", x.joins(p, q, is), plain.joins(p, q, is));
        int points = oneIn(9) ? below(1100) - 50 : below(30);
        same("beside(" + p + ", " + q + ", " + points + ")", x.beside(p, q, points), plain.beside(p, q, points));
    }

    private void say() {
        if (oneIn(25) || plain.count(2) >= 9 && !oneIn(8)) {
            same("clear()", x.clear(), plain.clear());
        }
        int t = oneIn(2) ? below(4) : anyTerm();
        // One without a FORM spoils the PASSAGE, so few are let in.
        if (plain.about(t, 6) != PlainSchool.NONE || oneIn(9)) {
            same("say(" + t + ")", x.say(t), plain.say(t));
        }
    }

    private void phrases() {
        same("phrased()", x.phrased(), plain.phrased());
        for (int what = -1; what < 25; what++) {
            same("phrase(" + what + ")", x.phrase(what), plain.phrase(what));
        }
    }

    // ---- dictation

    private void dictation() {
        int pace = oneIn(20) ? below(130) - 10 : 1 + below(oneIn(2) ? 9 : 40);
        int mind = oneIn(20) ? below(30) - 3 : 1 + below(5);
        if (oneIn(2)) {
            same("dictate(" + pace + ", " + mind + ")", x.dictate(pace, mind), plain.dictate(pace, mind));
        }
        tellNotes();
        if (plain.readings() < 5000) {
            same("readBack()", x.readBack(), plain.readBack());
        }
        for (int i = -1; i < 12; i++) {
            same("back(" + i + ")", x.back(i), plain.back(i));
        }
        same("wrong()", x.wrong(), plain.wrong());
    }

    private void tellNotes() {
        for (int what = -1; what < 7; what++) {
            same("taken(" + what + ")", x.taken(what), plain.taken(what));
        }
        int i = below(8) - 1;
        for (int what = -1; what < 22; what++) {
            same("note(" + i + ", " + what + ")", x.note(i, what), plain.note(i, what));
        }
        for (int k = 0; k < 5; k++) {
            int t = anyTerm();
            same("reads(" + i + ", " + t + ")", x.reads(i, t), plain.reads(i, t));
        }
    }

    // ---- lessons, pupils

    private void lessons() {
        int set = 0;
        for (int i = below(6); i >= 0; i--) {
            set |= 1 << below(Math.max(1, plain.rule(7)));
        }
        set = oneIn(20) ? lot.nextInt() & ~(Integer.bitCount(set) > 3 ? 0 : 0xfff0) : set;
        if (Integer.bitCount(set) < 7 || set >>> plain.rule(7) != 0) {
            same("lessons(" + set + ")", x.lessons(set), plain.lessons(set));
        }
        for (int i = -1; i < 11; i++) {
            same("lesson(" + i + ")", x.lesson(i), plain.lesson(i));
        }
    }

    private void marks() {
        int told = Math.max(0, made * 2 - 60 + below(60));
        int p = oneIn(20) ? below(24) - 2 : below(3);
        int day = oneIn(20) ? below(1100) - 50 : below(8);
        int words = oneIn(20) ? below(400) - 50 : below(301);
        int wrong = oneIn(20) ? below(400) - 50 : below(50);
        if (oneIn(2)) {
            same("mark(" + p + ", " + day + ", " + words + ", " + wrong + ", " + told + ")",
                    x.mark(p, day, words, wrong, told), plain.mark(p, day, words, wrong, told));
        } else {
            int k = below(plain.count(4) + 2) - 1;
            same("right(" + k + ", " + words + ", " + wrong + ", " + told + ")",
                    x.right(k, words, wrong, told), plain.right(k, words, wrong, told));
        }
        for (int i = 0; i < 3; i++) {
            int known = oneIn(20) ? below(1100) - 50 : Math.max(0, told - below(200));
            day = oneIn(20) ? below(1100) - 50 : below(9);
            same("grade(" + p + ", " + day + ", " + known + ")", x.grade(p, day, known), plain.grade(p, day, known));
        }
    }
}
