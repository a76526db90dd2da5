/** Where the document bounds how NOTES are read back: Terms IV, promises 26 to 29. */
public final class BoundsOfReadingTest {
    private static final int NONE = PenSchool.NONE;
    private static final int RANGE = PenSchool.RANGE;
    private static final int STATE = PenSchool.STATE;

    private BoundsOfReadingTest() {
    }

    public static void main(String[] args) {
        readsAsked();
        readsAll();
        readsNotAll();
        formsAsTheyAre();
        noDictation();
        noSuchRow();
        withoutNotes();
        oneNote();
        points();
        leastRow();
        mostPoints();
        backAsked();
        backUntil();
        wrongAsked();
        wrongChanges();
        wrongOfSixty();
        passageAsItWas();
        Check.finish("BoundsOfReadingTest");
    }

    /** SIGNS 0, 1 and 2 LOOK alike, 3 has another WAY, 4 another LENGTH; TERMS 0 .. 4 are one SIGN each. */
    private static PenSchool school(int... counts) {
        PenSchool x = Check.school("vowels pe; drop all; length 1;"
                + "sign a 1 1; sign b 1 1; sign c 1 1; sign d 5 1; sign f 1 2;");
        for (int t = 0; t < counts.length; t++) {
            Check.term(x, "abcdf".substring(t, t + 1), counts[t]);
        }
        return x;
    }

    private static void row(PenSchool x, int points, int... row) {
        Check.due("readBack()", x.readBack(), points);
        Check.due("back(-1)", x.back(-1), NONE);
        for (int i = 0; i < row.length; i++) {
            Check.due("back(" + i + ")", x.back(i), row[i]);
        }
        Check.due("back(" + row.length + ")", x.back(row.length), NONE);
    }

    private static void readsAsked() {
        Check.says("1 if NOTE i READS as TERM t, else 0; RANGE: no such NOTE, TERM.");
        PenSchool x = school(1, 1, 1, 1, 1);
        Check.due("reads(0, 0) ahead of any", x.reads(0, 0), RANGE);
        Check.passage(x, 0, 3);
        x.dictate(9, 1);
        int[] first = {1, 1, 1, 0, 0};
        for (int t = 0; t < 5; t++) {
            Check.due("reads(0, " + t + ")", x.reads(0, t), first[t]);
            Check.due("reads(1, " + t + ")", x.reads(1, t), t == 3 ? 1 : 0);
        }
        for (int n : new int[] {-1, 60, Integer.MIN_VALUE, Integer.MAX_VALUE}) {
            Check.due("reads(" + n + ", 0)", x.reads(n, 0), RANGE);
            Check.due("reads(0, " + n + ")", x.reads(0, n), RANGE);
        }
        Check.due("reads(2, 0)", x.reads(2, 0), RANGE);
        Check.due("reads(0, 5)", x.reads(0, 5), RANGE);
        Check.system(x, "sign a 1 1;");
        Check.due("reads(0, 0) behind a SYSTEM", x.reads(0, 0), RANGE);
    }

    private static void reads(PenSchool x, String row, int due) {
        int t = x.count(0);
        Check.due("term of " + row, Check.term(x, row, 1), t);
        Check.due("reads as " + row, x.reads(0, t), due);
    }

    private static void readsAll() {
        Check.says("if that has the PLACE and a FORM that LOOKS like it (all)");
        PenSchool x = school();
        Check.term(x, "aa", 1);
        x.say(0);
        x.dictate(1, 1);
        Check.due("itself", x.reads(0, 0), 1);
        reads(x, "bc", 1);
        reads(x, "a", 0);
        reads(x, "aaa", 0);
        reads(x, "ad", 0);
        reads(x, "fa", 0);
        reads(x, "paa", 0);
        reads(x, "eaa", 1);
        reads(x, "g", 0);
        reads(x, "e", 0);
    }

    private static void readsNotAll() {
        Check.says("or whose first SIGNS do, and that has more of them (not all)");
        PenSchool x = school();
        Check.term(x, "aad", 1);
        x.say(0);
        Check.policy(x, "when mind is 1 do short 2;");
        x.dictate(1, 1);
        Check.due("SIGNS", x.note(0, 1), 2);
        Check.due("itself", x.reads(0, 0), 1);
        reads(x, "a", 0);
        reads(x, "aa", 0);
        reads(x, "bc", 0);
        reads(x, "bca", 1);
        reads(x, "aaaaaaaaaa", 1);
        reads(x, "ada", 0);
        reads(x, "faa", 0);
        reads(x, "paaa", 0);
        reads(x, "eaaa", 1);
        reads(x, "g", 0);
    }

    private static void formsAsTheyAre() {
        Check.says("(by FORMS as they are now)");
        PenSchool x = school();
        Check.term(x, "aa", 3);
        Check.term(x, "dd", 3);
        Check.candidate(x, 0, "D");
        Check.candidate(x, 1, "BC");
        Check.passage(x, 0);
        x.dictate(1, 1);
        Check.due("adopt", x.adopt(1), 1);
        Check.due("its FORM is another now", x.reads(0, 0), 0);
        Check.due("adopt both", x.adopt(3), 2);
        Check.due("the other LOOKS so now", x.reads(0, 1), 1);
        row(x, 3, 1);
        Check.due("adopt none", x.adopt(0), 0);
        Check.due("as it was", x.reads(0, 0), 1);
        Check.due("the NOTE is as it was", x.note(0, 10), 0);
    }

    private static void noDictation() {
        Check.says("STATE: no dictate() told a tick (since the latest SYSTEM)");
        Check.due("on a new object", new PenSchool().readBack(), STATE);
        PenSchool x = school(1);
        Check.due("ahead of any", x.readBack(), STATE);
        x.dictate(1, 1);
        Check.due("behind STATE", x.readBack(), STATE);
        x.say(0);
        x.dictate(0, 1);
        Check.due("behind RANGE", x.readBack(), STATE);
        Check.term(x, "g", 1);
        x.say(1);
        x.dictate(1, 1);
        Check.due("behind NONE", x.readBack(), STATE);
        Check.passage(x, 0);
        x.dictate(1, 1);
        row(x, 1, 0);
        Check.fault(x, "?", true, 1, 0);
        row(x, 1, 0);
        Check.system(x, "sign a 1 1;");
        Check.due("behind a SYSTEM", x.readBack(), STATE);
        x.dictate(1, 1);
        row(x, 1, 0);
    }

    private static void noSuchRow() {
        Check.says("(None, if a NOTE READS as no TERM.)");
        for (int spot = 0; spot < 3; spot++) {
            PenSchool x = school(1, 1, 1, 1);
            int[] terms = {0, 0, 0};
            terms[spot] = 3;
            Check.passage(x, terms);
            x.dictate(9, 1);
            Check.candidate(x, 3, "DD");
            x.adopt(1);
            Check.due("readBack() without NOTE " + spot, x.readBack(), NONE);
            Check.due("back(0)", x.back(0), NONE);
            Check.due("wrong()", x.wrong(), NONE);
            x.adopt(0);
            Check.due("readBack() again", x.readBack(), 3);
        }
    }

    private static void withoutNotes() {
        Check.says("(0 without NOTES.)");
        PenSchool x = school(5);
        Check.policy(x, "when mind is 1 do drop;");
        Check.passage(x, 0, 0);
        x.dictate(1, 1);
        Check.due("wrong() ahead", x.wrong(), NONE);
        row(x, 0);
        Check.due("wrong()", x.wrong(), 2);
    }

    private static void oneNote() {
        Check.says("the most points: COUNT of each, and BESIDE of each two next to each other");
        PenSchool x = school(3, 9999, 4);
        Check.passage(x, 0);
        x.dictate(1, 1);
        x.beside(0, 0, 999);
        row(x, 9999, 1);
        Check.due("wrong()", x.wrong(), 1);
    }

    private static void points() {
        PenSchool x = school(5, 7, 6);
        Check.passage(x, 0, 0);
        x.dictate(9, 1);
        row(x, 14, 1, 1);
        x.beside(0, 2, 2);
        row(x, 14, 1, 1);
        x.beside(0, 2, 3);
        // As many points, and the lesser row.
        row(x, 14, 0, 2);
        x.beside(1, 1, 1);
        row(x, 15, 1, 1);
        x.beside(2, 0, 5);
        row(x, 16, 2, 0);
        x.beside(2, 0, 0);
        x.beside(1, 1, 0);
        x.beside(0, 2, 0);
        row(x, 14, 1, 1);
    }

    private static void leastRow() {
        Check.says("then the least row");
        PenSchool x = school(5, 5, 5);
        Check.passage(x, 2, 2, 2);
        x.dictate(9, 1);
        row(x, 15, 0, 0, 0);
        x.beside(2, 1, 1);
        row(x, 16, 0, 2, 1);
        x.beside(1, 2, 1);
        row(x, 17, 1, 2, 1);
        x.beside(2, 2, 1);
        row(x, 17, 1, 2, 1);
        x.beside(0, 0, 1);
        row(x, 17, 0, 0, 0);
    }

    private static void mostPoints() {
        PenSchool x = school(9999, 9999);
        for (int i = 0; i < 60; i++) {
            x.say(1);
        }
        x.beside(1, 1, 999);
        x.dictate(2, 1);
        Check.due("readBack()", x.readBack(), 60 * 9999 + 59 * 999);
        Check.due("back(59)", x.back(59), 1);
        Check.due("back(60)", x.back(60), NONE);
        Check.due("wrong()", x.wrong(), 0);
    }

    private static void backAsked() {
        Check.says("TERM i of the latest readBack() that told points");
        PenSchool x = school(5, 7);
        for (int i : new int[] {-1, 0, 1}) {
            Check.due("back(" + i + ") ahead of any", x.back(i), NONE);
        }
        Check.passage(x, 0, 0);
        x.dictate(9, 1);
        Check.due("back(0) ahead of readBack()", x.back(0), NONE);
        row(x, 14, 1, 1);
        for (int i : new int[] {-1, 2, 59, 60, Integer.MIN_VALUE, Integer.MAX_VALUE}) {
            Check.due("back(" + i + ")", x.back(i), NONE);
        }
        Check.candidate(x, 0, "D");
        Check.candidate(x, 1, "DD");
        x.adopt(3);
        Check.due("readBack()", x.readBack(), NONE);
        Check.due("back(1) of the one that told points", x.back(1), 1);
        Check.due("wrong() of it", x.wrong(), 2);
    }

    private static void backUntil() {
        Check.says("as long as no dictate() told a tick and no SYSTEM came since; NONE");
        PenSchool x = school(5);
        Check.passage(x, 0);
        x.dictate(1, 1);
        row(x, 5, 0);
        x.dictate(0, 1);
        Check.due("back(0) behind RANGE", x.back(0), 0);
        x.clear();
        x.dictate(1, 1);
        Check.due("back(0) behind STATE", x.back(0), 0);
        Check.term(x, "g", 1);
        x.say(1);
        x.dictate(1, 1);
        Check.due("back(0) behind NONE", x.back(0), 0);
        Check.fault(x, "?", true, 1, 0);
        Check.due("back(0) behind a FAULT", x.back(0), 0);
        Check.passage(x, 0);
        x.dictate(1, 1);
        Check.due("back(0) behind a tick", x.back(0), NONE);
        row(x, 5, 0);
        Check.system(x, "sign a 1 1;");
        Check.due("back(0) behind a SYSTEM", x.back(0), NONE);
    }

    private static void wrongAsked() {
        Check.says("NONE: none told points since that dictate()");
        PenSchool x = school(5);
        Check.due("ahead of any", x.wrong(), NONE);
        Check.passage(x, 0);
        x.dictate(1, 1);
        Check.due("ahead of readBack()", x.wrong(), NONE);
        x.readBack();
        Check.due("wrong()", x.wrong(), 0);
        Check.due("once more", x.wrong(), 0);
        x.dictate(1, 0);
        Check.due("behind RANGE", x.wrong(), 0);
        x.dictate(1, 1);
        Check.due("behind a tick", x.wrong(), NONE);
        x.readBack();
        Check.system(x, "sign a 1 1;");
        Check.due("behind a SYSTEM", x.wrong(), NONE);
    }

    /** TERMS 1 and 2 are read back as 0, which LOOKS like them and comes more often. */
    private static void changes(int due, int... passage) {
        PenSchool x = school(9, 1, 1, 1, 1);
        Check.passage(x, passage);
        x.dictate(9, 1);
        Check.holds("readBack()", x.readBack() > 0);
        Check.due("wrong()", x.wrong(), due);
    }

    private static void wrongChanges() {
        Check.says("the fewest changes (one TERM another one, left out, put in) that make the row READ BACK the PASSAGE");
        changes(0, 0);
        changes(1, 1);
        changes(0, 0, 3, 4, 0);
        changes(1, 0, 3, 1, 0);
        changes(4, 1, 2, 1, 2);
        PenSchool x = school(9, 1, 1, 5, 4);
        Check.policy(x, "when count is 5 do drop;");
        Check.passage(x, 3, 0, 3, 4, 1, 3);
        x.dictate(9, 1);
        row(x, 9 + 4 + 9, 0, 4, 0);
        Check.due("three put in, one another", x.wrong(), 4);
        PenSchool y = school(9, 1, 1);
        Check.passage(y, 0, 1, 2);
        y.dictate(9, 1);
        y.beside(1, 2, 900);
        y.beside(2, 0, 900);
        row(y, 1 + 900 + 1 + 900 + 9, 1, 2, 0);
        Check.due("one put in ahead, one left out behind", y.wrong(), 2);
        Check.passage(y, 2, 0, 1);
        y.dictate(9, 1);
        row(y, 1 + 900 + 1 + 900 + 9, 1, 2, 0);
        Check.due("one left out ahead, one put in behind", y.wrong(), 2);
    }

    private static void wrongOfSixty() {
        PenSchool x = school(1, 9);
        for (int i = 0; i < 60; i++) {
            x.say(0);
        }
        x.dictate(9, 1);
        Check.due("readBack()", x.readBack(), 60 * 9);
        Check.due("all of sixty another", x.wrong(), 60);
        Check.policy(x, "when mind is 1 do drop;");
        x.dictate(9, 1);
        Check.due("readBack() of none", x.readBack(), 0);
        Check.due("all of sixty put in", x.wrong(), 60);
    }

    private static void passageAsItWas() {
        Check.says("against the PASSAGE as it was at that dictate()");
        PenSchool x = school(5, 1, 1, 5);
        Check.passage(x, 0, 3);
        x.dictate(9, 1);
        x.readBack();
        Check.due("wrong()", x.wrong(), 0);
        x.say(0);
        Check.due("one more said", x.wrong(), 0);
        Check.passage(x, 3, 3, 3, 3);
        Check.due("another PASSAGE", x.wrong(), 0);
        x.clear();
        Check.due("none", x.wrong(), 0);
        Check.due("readBack() again", x.readBack(), 10);
        Check.due("none, read again", x.wrong(), 0);
    }
}
