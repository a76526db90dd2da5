import java.util.List;
import java.util.function.Supplier;
import java.util.function.ToIntFunction;

/** A refused call, and one that only tells, leaves all else as it was: an object with it answers like one without. */
public final class RefusedCallsTest {
    private static final int NONE = PenSchool.NONE;
    private static final int RANGE = PenSchool.RANGE;
    private static final int FULL = PenSchool.FULL;
    private static final int STATE = PenSchool.STATE;
    private static final int ABSENT = -9;
    private static final int MIN = Integer.MIN_VALUE;
    private static final int MAX = Integer.MAX_VALUE;
    private static final String SYSTEM = "vowels ae; sign b 0 1; sign c 2 2; sign d 4 3; sign bc 5 1; drop all; lift 9;"
            + "phrase 2; sharp 3;";

    private RefusedCallsTest() {
    }

    public static void main(String[] args) {
        tape();
        faultySystems();
        faultyPolicies();
        systemForgets();
        policyKeepsNotes();
        looks();
        terms();
        candidates();
        briefs();
        links();
        passages();
        emptyPassage();
        spoiledPassage();
        dictations();
        readings();
        lessons();
        marks();
        fullTape();
        fullTongue();
        fullBriefs();
        fullPassage();
        fullMarks();
        fullRightings();
        Check.finish("RefusedCallsTest");
    }

    /** Some of all there is, with NOTES that were read back. */
    private static PenSchool furnished() {
        PenSchool x = unread();
        Check.candidate(x, 0, "B");
        Check.candidate(x, 1, "A");
        Check.candidate(x, 1, "DA");
        Check.holds("something is CHOSEN", x.choose(2) > 0 && x.chosen() > 0);
        Check.due("adopt(5)", x.adopt(5), 2);
        Check.holds("dictate(1, 4)", x.dictate(1, 4) > 0);
        Check.holds("NOTES, LOST, dropped, short, late ones and rest", x.taken(0) > 1 && x.taken(1) > 0 && x.taken(2) > 0
                && x.taken(3) > 0 && x.taken(4) > 0 && x.taken(5) > 0);
        Check.holds("readBack()", x.readBack() > 0 && x.wrong() > 0);
        Check.holds("lessons(11)", x.lessons(11) > 0);
        Check.tape(x, "  bccb  ");
        return x;
    }

    /** The same without what a SYSTEM forgets: CANDIDATES, NOTES, LESSONS. */
    private static PenSchool unread() {
        PenSchool x = Check.school(SYSTEM);
        String[] rows = {"bcd", "dabb", "ebc", "bec", "p", "cc"};
        for (int t = 0; t < rows.length; t++) {
            Check.term(x, rows[t], 10 + t);
        }
        Check.policy(x, "when late above 5 do drop; when signs above 1 and mind above 1 do short 1;"
                + "when mind is 1 and late is 0 do rest 2;");
        x.joins(0, 2, true);
        x.joins(2, 2, true);
        x.beside(0, 2, 7);
        x.beside(2, 3, 8);
        Check.passage(x, 0, 2, 2, 1, 3, 5);
        x.phrased();
        x.mark(0, 3, 100, 2, 1);
        x.mark(1, 4, 90, 0, 2);
        x.mark(0, 5, 80, 0, 2);
        x.right(0, 110, 3, 3);
        return x;
    }

    private static void compare(String call, PenSchool with, PenSchool without, Probe part) {
        List<String> got = part.answers(with);
        List<String> due = part.answers(without);
        Check.due(call + ", answers of " + part, got.size(), due.size());
        for (int i = 0; i < got.size() && i < due.size(); i++) {
            Check.holds("behind " + call + " " + got.get(i) + ", without it " + due.get(i), got.get(i).equals(due.get(i)));
        }
    }

    private static void leaves(Supplier<PenSchool> school, String name, int want, ToIntFunction<PenSchool> call) {
        for (Probe part : Probe.values()) {
            PenSchool x = school.get();
            Check.due(name, call.applyAsInt(x), want);
            compare(name, x, school.get(), part);
        }
    }

    private static void leaves(String name, int want, ToIntFunction<PenSchool> call) {
        leaves(RefusedCallsTest::furnished, name, want, call);
    }

    /** A call that reads THE TAPE empties it, whatever it tells. */
    private static void leavesAllButTape(Supplier<PenSchool> school, String name, String text, int want,
            ToIntFunction<PenSchool> call) {
        for (Probe part : Probe.values()) {
            PenSchool x = Check.tape(school.get(), text);
            Check.due(name + " of \"" + text + "\"", call.applyAsInt(x), want);
            PenSchool y = school.get();
            y.end(0);
            compare(name + " of \"" + text + "\"", x, y, part);
        }
    }

    private static void leavesAllButTape(String name, String text, int want, ToIntFunction<PenSchool> call) {
        leavesAllButTape(RefusedCallsTest::furnished, name, text, want, call);
    }

    private static void leavesAllButFault(String text, boolean isSystem) {
        for (Probe part : Probe.values()) {
            PenSchool x = Check.tape(furnished(), text);
            Check.due("a text \"" + text + "\"", isSystem ? x.system() : x.policy(), NONE);
            PenSchool y = furnished();
            y.end(0);
            if (part == Probe.FAULT) {
                Check.holds("there is a FAULT", x.fault(0) > 0);
            } else {
                compare("a text \"" + text + "\"", x, y, part);
            }
        }
    }

    private static void tape() {
        Check.says("NONE when it has not so many, or n is below 0");
        for (int n : new int[] {-1, 9, MIN, MAX}) {
            leaves("end(" + n + ")", NONE, x -> x.end(n));
        }
    }

    private static void faultySystems() {
        Check.says("NONE with a FAULT (the SYSTEM stays)");
        String[] texts = {"?", "sign p 0 1; turn 3; sharp 0; vowels b", "vowels b; drop none; lift 1; phrase 9;",
            "length 7; sign p 1 1; sign p 2 2;", "length 5; length 5;", Check.manySigns(31), "turn 1" + " ".repeat(700)};
        for (String text : texts) {
            leavesAllButFault(text, true);
        }
    }

    private static void faultyPolicies() {
        Check.says("NONE with a FAULT (the POLICY stays)");
        String line = "when mind above 0 do drop;";
        for (String text : new String[] {"?", line + "when", line.repeat(9), line + "when mind is 1 do rest 51;",
            line + "when mind is 1 and mind is 1 and mind is 1 and mind is 1 and"}) {
            leavesAllButFault(text, false);
        }
    }

    private static void systemForgets() {
        Check.says("(CANDIDATES, ADOPTED ones, NOTES are none then, what was told of these too.)");
        for (Probe part : Probe.values()) {
            PenSchool x = furnished();
            Check.due("system()", Check.system(x, SYSTEM), 9);
            PenSchool y = unread();
            Check.due("system()", Check.system(y, SYSTEM), 9);
            compare("another SYSTEM", x, y, part);
        }
    }

    private static void policyKeepsNotes() {
        Check.says("THE TAPE is the POLICY");
        for (Probe part : Probe.values()) {
            PenSchool x = furnished();
            Check.due("policy()", Check.policy(x, "when late above 5 do drop; when signs above 1 and mind above 1 do short 1;"
                    + "when mind is 1 and late is 0 do rest 2;"), 3);
            PenSchool y = furnished();
            y.end(0);
            compare("the same POLICY again", x, y, part);
        }
    }

    private static void looks() {
        Check.says("-9 when there is none such");
        leaves("fault(2)", NONE, x -> x.fault(2));
        leaves("rule(8)", ABSENT, x -> x.rule(8));
        leaves("rule(12)", ABSENT, x -> x.rule(12));
        leaves("sign(4, 0)", ABSENT, x -> x.sign(4, 0));
        leaves("sign(0, 11)", ABSENT, x -> x.sign(0, 11));
        leaves("about(6, 0)", ABSENT, x -> x.about(6, 0));
        leaves("about(0, 9)", ABSENT, x -> x.about(0, 9));
        leaves("note(6, 0)", ABSENT, x -> x.note(6, 0));
        leaves("note(0, 5)", ABSENT, x -> x.note(0, 5));
        leaves("count(9)", NONE, x -> x.count(9));
        leaves("taken(6)", NONE, x -> x.taken(6));
        leaves("phrase(1)", NONE, x -> x.phrase(1));
        leaves("alike(6)", RANGE, x -> x.alike(6));
        leaves("alike(4)", NONE, x -> x.alike(4));
        leaves("alike(5)", 0, x -> x.alike(5));
    }

    private static void terms() {
        Check.says("RANGE: no such COUNT; NONE: it is no ROW of 1 .. 10; STATE: one has it");
        leavesAllButTape("term(0)", "bb", RANGE, x -> x.term(0));
        leavesAllButTape("term(10000)", "bb", RANGE, x -> x.term(10000));
        leavesAllButTape("term(5)", "", NONE, x -> x.term(5));
        leavesAllButTape("term(5)", "bq", NONE, x -> x.term(5));
        leavesAllButTape("term(5)", "bbbbbbbbbbb", NONE, x -> x.term(5));
        leavesAllButTape("term(5)", "b b", NONE, x -> x.term(5));
        leavesAllButTape("term(5)", "bcd", STATE, x -> x.term(5));
        leavesAllButTape("term(5)", " cc ", STATE, x -> x.term(5));
    }

    private static void candidates() {
        Check.says("RANGE: no such TERM; NONE: it is none of 1 .. 3");
        leavesAllButTape("candidate(-1)", "A", RANGE, x -> x.candidate(-1));
        leavesAllButTape("candidate(6)", "A", RANGE, x -> x.candidate(6));
        leavesAllButTape("candidate(0)", "", NONE, x -> x.candidate(0));
        leavesAllButTape("candidate(0)", "AAAA", NONE, x -> x.candidate(0));
        leavesAllButTape("candidate(0)", "E", NONE, x -> x.candidate(0));
        leavesAllButTape("candidate(0)", "@", NONE, x -> x.candidate(0));
    }

    private static void briefs() {
        Check.says("NONE: it can't be CHOSEN; RANGE");
        for (int n : new int[] {-1, 13, MIN, MAX}) {
            leaves("choose(" + n + ")", RANGE, x -> x.choose(n));
        }
        for (int set : new int[] {-1, 8, 16, MIN, MAX}) {
            leaves("saves(" + set + ")", RANGE, x -> x.saves(set));
            leaves("adopt(" + set + ")", RANGE, x -> x.adopt(set));
        }
        for (int set : new int[] {6, 7}) {
            leaves("saves(" + set + ")", NONE, x -> x.saves(set));
            leaves("adopt(" + set + ")", NONE, x -> x.adopt(set));
        }
        leaves("saves(0)", 0, x -> x.saves(0));
    }

    private static void links() {
        Check.says("RANGE: no such TERMS");
        for (int t : new int[] {-1, 6, 60, MIN, MAX}) {
            leaves("joins(" + t + ", 0, true)", RANGE, x -> x.joins(t, 0, true));
            leaves("joins(0, " + t + ", true)", RANGE, x -> x.joins(0, t, true));
            leaves("beside(" + t + ", 2, 5)", RANGE, x -> x.beside(t, 2, 5));
            leaves("beside(2, " + t + ", 5)", RANGE, x -> x.beside(2, t, 5));
        }
        leaves("joins(0, 2, true)", 0, x -> x.joins(0, 2, true));
        leaves("joins(2, 0, false)", 0, x -> x.joins(2, 0, false));
        leaves("beside(0, 2, -1)", RANGE, x -> x.beside(0, 2, -1));
        leaves("beside(0, 2, 1000)", RANGE, x -> x.beside(0, 2, 1000));
        leaves("beside(0, 2, 7)", 7, x -> x.beside(0, 2, 7));
    }

    private static void passages() {
        Check.says("A TERM comes behind the PASSAGE: how many it has; RANGE");
        for (int t : new int[] {-1, 6, 60, MIN, MAX}) {
            leaves("say(" + t + ")", RANGE, x -> x.say(t));
        }
    }

    private static PenSchool cleared() {
        PenSchool x = furnished();
        x.clear();
        return x;
    }

    private static void emptyPassage() {
        Check.says("STATE: no TERMS");
        leaves(RefusedCallsTest::cleared, "phrased()", STATE, x -> x.phrased());
        leaves(RefusedCallsTest::cleared, "dictate(1, 1)", STATE, x -> x.dictate(1, 1));
        leaves(RefusedCallsTest::cleared, "clear()", 0, x -> x.clear());
    }

    private static PenSchool spoiled() {
        PenSchool x = furnished();
        x.say(4);
        return x;
    }

    private static void spoiledPassage() {
        Check.says("NONE: a TERM has no FORM");
        leaves(RefusedCallsTest::spoiled, "phrased()", NONE, x -> x.phrased());
        leaves(RefusedCallsTest::spoiled, "dictate(1, 1)", NONE, x -> x.dictate(1, 1));
    }

    private static void dictations() {
        Check.says("the tick at which it ends (at which the writer is free for good); RANGE");
        for (int n : new int[] {0, -1, MIN, MAX}) {
            leaves("dictate(" + n + ", 1)", RANGE, x -> x.dictate(n, 1));
            leaves("dictate(1, " + n + ")", RANGE, x -> x.dictate(1, n));
        }
        leaves("dictate(100, 1)", RANGE, x -> x.dictate(100, 1));
        leaves("dictate(1, 21)", RANGE, x -> x.dictate(1, 21));
    }

    /** A NOTE of it READS as no TERM any more. */
    private static PenSchool unreadable() {
        PenSchool x = furnished();
        Check.candidate(x, 5, "CC");
        x.dictate(50, 9);
        x.readBack();
        Check.due("adopt", x.adopt(8), 1);
        return x;
    }

    private static PenSchool undictated() {
        PenSchool x = unread();
        x.lessons(3);
        return x;
    }

    private static void readings() {
        Check.says("NONE: there is no such row; STATE: no dictate() told a tick");
        leaves(RefusedCallsTest::unreadable, "readBack()", NONE, x -> x.readBack());
        leaves(RefusedCallsTest::undictated, "readBack()", STATE, x -> x.readBack());
        leaves(RefusedCallsTest::undictated, "wrong()", NONE, x -> x.wrong());
        leaves(RefusedCallsTest::undictated, "back(0)", NONE, x -> x.back(0));
        leaves("back(-1)", NONE, x -> x.back(-1));
        for (int n : new int[] {-1, 6, 60, MIN, MAX}) {
            leaves("reads(" + n + ", 0)", RANGE, x -> x.reads(n, 0));
            leaves("reads(0, " + n + ")", RANGE, x -> x.reads(0, n));
        }
    }

    private static void lessons() {
        Check.says("RANGE: no such set (1 .. 10 of them)");
        for (int set : new int[] {0, 16, 17, -1, MIN, MAX}) {
            leaves("lessons(" + set + ")", RANGE, x -> x.lessons(set));
        }
        leaves("lesson(3)", NONE, x -> x.lesson(3));
    }

    private static void marks() {
        Check.says("its number; RANGE");
        int[][] wrong = {{-1, 0, 0, 0, 7}, {20, 0, 0, 0, 7}, {0, -1, 0, 0, 7}, {0, 1000, 0, 0, 7}, {0, 0, -1, 0, 7},
            {0, 0, 301, 0, 7}, {0, 0, 0, -1, 7}, {0, 0, 0, 301, 7}, {0, 0, 0, 0, -1}, {0, 0, 0, 0, 1000}, {0, 0, 0, 0, 2}};
        for (int[] m : wrong) {
            leaves("mark of " + List.of(m[0], m[1], m[2], m[3], m[4]), RANGE, x -> x.mark(m[0], m[1], m[2], m[3], m[4]));
        }
        int[][] rights = {{-1, 0, 0, 7}, {3, 0, 0, 7}, {0, -1, 0, 7}, {0, 301, 0, 7}, {0, 0, -1, 7}, {0, 0, 301, 7},
            {0, 0, 0, -1}, {0, 0, 0, 1000}, {0, 0, 0, 2}};
        for (int[] r : rights) {
            leaves("right of " + List.of(r[0], r[1], r[2], r[3]), RANGE, x -> x.right(r[0], r[1], r[2], r[3]));
        }
        leaves("grade(20, 0, 0)", RANGE, x -> x.grade(20, 0, 0));
        leaves("grade(0, 1000, 0)", RANGE, x -> x.grade(0, 1000, 0));
        leaves("grade(0, 0, 1000)", RANGE, x -> x.grade(0, 0, 1000));
        leaves("grade(2, 0, 0)", NONE, x -> x.grade(2, 0, 0));
    }

    // ---- no room

    private static PenSchool withFullTape() {
        return Check.tape(furnished(), " ".repeat(771) + "bccb      ");
    }

    private static void fullTape() {
        Check.says("FULL when there would be more than 800");
        leaves(RefusedCallsTest::withFullTape, "feed", FULL, x -> x.feed(MAX, MAX, MAX, MAX, MAX));
    }

    private static PenSchool withFullTongue() {
        PenSchool x = furnished();
        for (int t = 6; t < 60; t++) {
            Check.term(x, "o" + Check.pair(t), 1);
        }
        return x;
    }

    private static void fullTongue() {
        Check.says("STATE: one has it; FULL");
        leavesAllButTape(RefusedCallsTest::withFullTongue, "term(5)", "bb", FULL, x -> x.term(5));
        leavesAllButTape(RefusedCallsTest::withFullTongue, "term(5)", "bcd", STATE, x -> x.term(5));
    }

    private static PenSchool withFullBriefs() {
        PenSchool x = furnished();
        for (int i = 3; i < 12; i++) {
            Check.due("candidate", Check.candidate(x, i % 4, "DDD".substring(i % 3)), i);
        }
        x.choose(3);
        return x;
    }

    private static void fullBriefs() {
        Check.says("NONE: it is none of 1 .. 3; FULL");
        leavesAllButTape(RefusedCallsTest::withFullBriefs, "candidate(0)", "C", FULL, x -> x.candidate(0));
    }

    private static PenSchool withFullPassage() {
        PenSchool x = furnished();
        for (int i = 6; i < 60; i++) {
            Check.due("say", x.say(i % 4), i + 1);
        }
        return x;
    }

    private static void fullPassage() {
        Check.says("how many it has; RANGE; FULL");
        leaves(RefusedCallsTest::withFullPassage, "say(0)", FULL, x -> x.say(0));
        leaves(RefusedCallsTest::withFullPassage, "say(6)", RANGE, x -> x.say(6));
    }

    private static PenSchool withFullMarks() {
        PenSchool x = furnished();
        for (int k = 3; k < 100; k++) {
            Check.due("mark", x.mark(k % 3, k % 8, k, 0, 3), k);
        }
        return x;
    }

    private static void fullMarks() {
        Check.says("MARKS, at most 100");
        leaves(RefusedCallsTest::withFullMarks, "mark", FULL, x -> x.mark(0, 7, 300, 0, 7));
    }

    private static PenSchool withFullRightings() {
        PenSchool x = furnished();
        for (int n = 1; n < 100; n++) {
            x.right(n % 3, n, 0, 3);
        }
        return x;
    }

    private static void fullRightings() {
        Check.says("FULL: the 101st in all");
        leaves(RefusedCallsTest::withFullRightings, "right", FULL, x -> x.right(0, 300, 0, 7));
    }
}
