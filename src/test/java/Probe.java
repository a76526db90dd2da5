import java.util.ArrayList;
import java.util.List;

/**
 * What an object answers, as a row of texts: two objects with the same rows are in the same state as far as calls can
 * tell. Each part asks for one matter and may change what it asks for, so each wants an object of its own.
 */
enum Probe {
    FAULT, SYSTEM, TERMS, BRIEFS, PASSAGE, DICTATION, LESSONS, MARKS, TAPE;

    private static final int MOST_TERMS = 7;

    List<String> answers(PenSchool x) {
        List<String> found = new ArrayList<>();
        switch (this) {
            case FAULT -> askFault(x, found);
            case SYSTEM -> askSystem(x, found);
            case TERMS -> askTerms(x, found);
            case BRIEFS -> askBriefs(x, found);
            case PASSAGE -> askPassage(x, found);
            case DICTATION -> askDictation(x, found);
            case LESSONS -> askLessons(x, found);
            case MARKS -> askMarks(x, found);
            default -> askTape(x, found);
        }
        return found;
    }

    private static void tell(List<String> found, String call, int answer) {
        found.add(call + " is " + answer);
    }

    private static void askFault(PenSchool x, List<String> found) {
        tell(found, "fault(0)", x.fault(0));
        tell(found, "fault(1)", x.fault(1));
    }

    private static void askSystem(PenSchool x, List<String> found) {
        for (int what = 0; what <= 15; what++) {
            tell(found, "rule(" + what + ")", x.rule(what));
        }
        for (int s = 0; s < 6; s++) {
            for (int what : new int[] {0, 1, 2, 10, 11, 12, 13}) {
                tell(found, "sign(" + s + ", " + what + ")", x.sign(s, what));
            }
        }
    }

    private static void askTerms(PenSchool x, List<String> found) {
        for (int what = 0; what <= 8; what++) {
            tell(found, "count(" + what + ")", x.count(what));
        }
        for (int t = 0; t < MOST_TERMS; t++) {
            for (int what = 0; what <= 8; what++) {
                tell(found, "about(" + t + ", " + what + ")", x.about(t, what));
            }
            for (int i = 0; i < 4; i++) {
                tell(found, "OUTLINE " + i + " of " + t, x.about(t, 10 + i));
                tell(found, "FORM " + i + " of " + t, x.about(t, 30 + i));
                tell(found, "SKELETON " + i + " of " + t, x.about(t, 50 + i));
            }
            tell(found, "alike(" + t + ")", x.alike(t));
        }
    }

    private static void askBriefs(PenSchool x, List<String> found) {
        tell(found, "chosen()", x.chosen());
        for (int set = 0; set < 33; set++) {
            tell(found, "saves(" + set + ")", x.saves(set));
        }
        for (int n = 0; n <= 3; n++) {
            tell(found, "choose(" + n + ")", x.choose(n));
            tell(found, "chosen()", x.chosen());
        }
    }

    private static void askPassage(PenSchool x, List<String> found) {
        for (int what = 0; what < 20; what++) {
            tell(found, "phrase(" + what + ")", x.phrase(what));
        }
        tell(found, "phrased()", x.phrased());
        for (int what = 0; what < 20; what++) {
            tell(found, "phrase(" + what + ")", x.phrase(what));
        }
        for (int p = 0; p < MOST_TERMS; p++) {
            for (int q = 0; q < MOST_TERMS; q++) {
                tell(found, "joins(" + p + ", " + q + ", false)", x.joins(p, q, false));
                tell(found, "beside(" + p + ", " + q + ", 0)", x.beside(p, q, 0));
            }
        }
        tell(found, "clear()", x.clear());
    }

    private static void askDictation(PenSchool x, List<String> found) {
        askNotes(x, found);
        askBack(x, found);
        tell(found, "readBack()", x.readBack());
        askBack(x, found);
        tell(found, "dictate(2, 2)", x.dictate(2, 2));
        askNotes(x, found);
        tell(found, "readBack()", x.readBack());
        askBack(x, found);
    }

    private static void askNotes(PenSchool x, List<String> found) {
        for (int what = 0; what <= 5; what++) {
            tell(found, "taken(" + what + ")", x.taken(what));
        }
        for (int i = 0; i < 7; i++) {
            for (int what : new int[] {0, 1, 2, 3, 4, 10, 11, 12}) {
                tell(found, "note(" + i + ", " + what + ")", x.note(i, what));
            }
            for (int t = 0; t < MOST_TERMS; t++) {
                tell(found, "reads(" + i + ", " + t + ")", x.reads(i, t));
            }
        }
    }

    private static void askBack(PenSchool x, List<String> found) {
        for (int i = 0; i < 8; i++) {
            tell(found, "back(" + i + ")", x.back(i));
        }
        tell(found, "wrong()", x.wrong());
    }

    private static void askLessons(PenSchool x, List<String> found) {
        for (int turn = 0; turn < 2; turn++) {
            for (int i = 0; i < 6; i++) {
                tell(found, "lesson(" + i + ")", x.lesson(i));
            }
            tell(found, "lessons(3)", x.lessons(3));
        }
    }

    private static void askMarks(PenSchool x, List<String> found) {
        for (int p = 0; p < 3; p++) {
            for (int day = 0; day < 8; day++) {
                for (int known = 0; known < 8; known++) {
                    tell(found, "grade(" + p + ", " + day + ", " + known + ")", x.grade(p, day, known));
                }
            }
        }
        for (int told = 0; told < 8; told++) {
            tell(found, "mark told " + told, x.mark(19, 0, 0, 0, told));
            tell(found, "right told " + told, x.right(0, 0, 0, told));
        }
    }

    /** By what the next TERM is: all but letters on THE TAPE are blanks here. */
    private static void askTape(PenSchool x, List<String> found) {
        tell(found, "count(6)", x.count(6));
        int t = x.term(77);
        tell(found, "term(77)", t);
        for (int i = 0; i < 10; i++) {
            tell(found, "its SOUND " + i, x.about(t, 50 + i));
        }
    }
}
