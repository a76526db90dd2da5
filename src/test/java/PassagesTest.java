/** Promises 17 to 22: JOINS, BESIDE, the PASSAGE and its phrases. */
public final class PassagesTest {
    private static final int NONE = PenSchool.NONE;
    private static final int RANGE = PenSchool.RANGE;

    private PassagesTest() {
    }

    public static void main(String[] args) {
        joins();
        beside();
        say();
        phrased();
        ties();
        sharpTurns();
        byForms();
        Check.finish("PassagesTest");
    }

    private static PenSchool school(String rules) {
        PenSchool x = Check.school("sign a 0 1; sign b 1 1; sign c 4 1; length 2;" + rules);
        Check.term(x, "a", 1);
        Check.term(x, "b", 1);
        Check.term(x, "c", 1);
        Check.term(x, "p", 1);
        Check.term(x, "abc", 1);
        return x;
    }

    private static void joins() {
        PenSchool x = school("");
        Check.due("not yet", x.joins(0, 1, false), 0);
        Check.due("now", x.joins(0, 1, true), 1);
        Check.due("again", x.joins(0, 1, true), 0);
        Check.due("not the other way round", x.joins(1, 0, false), 0);
        Check.due("no more", x.joins(0, 1, false), 1);
        Check.due("one behind itself", x.joins(4, 4, true), 1);
        Check.due("joins(-1, 0)", x.joins(-1, 0, true), RANGE);
        Check.due("joins(0, -1)", x.joins(0, -1, false), RANGE);
        Check.due("joins(5, 0)", x.joins(5, 0, true), RANGE);
        Check.due("joins(0, 5)", x.joins(0, 5, true), RANGE);
        PenSchool y = new PenSchool();
        for (int t = 0; t < 60; t++) {
            Check.term(y, Check.pair(t), 1);
        }
        Check.due("joins(59, 59)", y.joins(59, 59, true), 1);
        Check.due("joins(59, 27)", y.joins(59, 27, false), 0);
        Check.due("joins(59, 59) again", y.joins(59, 59, true), 0);
        Check.due("beside(59, 59)", y.beside(59, 59, 4), 0);
        Check.due("beside(59, 59) again", y.beside(59, 59, 4), 4);
    }

    private static void beside() {
        PenSchool x = school("");
        Check.due("at first", x.beside(0, 1, 999), 0);
        Check.due("what it was", x.beside(0, 1, 0), 999);
        Check.due("0 again", x.beside(0, 1, 5), 0);
        Check.due("the other way round", x.beside(1, 0, 5), 0);
        Check.due("1000", x.beside(0, 1, 1000), RANGE);
        Check.due("-1", x.beside(0, 1, -1), RANGE);
        Check.due("it stays", x.beside(0, 1, 5), 5);
        Check.due("beside(5, 0)", x.beside(5, 0, 1), RANGE);
        Check.due("beside(0, 5)", x.beside(0, 5, 1), RANGE);
        Check.due("beside(-1, 0)", x.beside(-1, 0, 1), RANGE);
        Check.due("beside(0, -1)", x.beside(0, -1, 1), RANGE);
        Check.due("one behind itself", x.beside(3, 3, 1), 0);
    }

    private static void say() {
        PenSchool x = school("");
        Check.due("clear() of none", x.clear(), 0);
        Check.due("say(5)", x.say(5), RANGE);
        Check.due("say(-1)", x.say(-1), RANGE);
        for (int i = 1; i <= 60; i++) {
            Check.due("say " + i, x.say(i % 5), i);
        }
        Check.due("the 61st", x.say(0), PenSchool.FULL);
        Check.due("the 61st, no term", x.say(5), RANGE);
        Check.due("count(2)", x.count(2), 60);
        Check.due("one has no form", x.phrased(), NONE);
        Check.due("phrase(0)", x.phrase(0), NONE);
        Check.due("clear()", x.clear(), 60);
        Check.due("no terms", x.phrased(), PenSchool.STATE);
        Check.due("say once more", x.say(0), 1);
        for (int i = 1; i < 60; i++) {
            x.say(0);
        }
        Check.due("sixty", x.phrased(), 60 * 2 + 59 * 6);
        Check.due("phrase(69)", x.phrase(69), 1);
        Check.due("phrase(70)", x.phrase(70), NONE);
        x.joins(0, 0, true);
        Check.due("sixty joined by three", x.phrased(), 60 * 2 + 19 * 6);
        Check.due("phrase(0)", x.phrase(0), 20);
    }

    private static void cut(PenSchool x, int cost, int... sizes) {
        Check.due("phrased()", x.phrased(), cost);
        Check.due("phrase(0)", x.phrase(0), sizes.length);
        for (int i = 0; i < sizes.length; i++) {
            Check.due("phrase(" + (10 + i) + ")", x.phrase(10 + i), sizes[i]);
        }
        Check.due("phrase behind the last", x.phrase(10 + sizes.length), NONE);
    }

    private static void phrased() {
        PenSchool x = school("turn 1; lift 6; phrase 2;");
        Check.due("phrase(0) ahead of any", x.phrase(0), NONE);
        Check.passage(x, 0, 1, 2);
        cut(x, 6 + 12, 1, 1, 1);
        x.joins(0, 1, true);
        cut(x, 6 + 1 + 6, 2, 1);
        x.joins(1, 2, true);
        // a b: 1 eighth; b c: 3 eighths.
        cut(x, 6 + 1 + 6, 2, 1);
        x.joins(0, 1, false);
        cut(x, 6 + 3 + 6, 1, 2);
        x.joins(0, 1, true);
        Check.passage(x, 0, 3);
        Check.due("no form", x.phrased(), NONE);
        Check.due("the latest that told a cost", x.phrase(11), 2);
        x.clear();
        Check.due("no terms", x.phrased(), PenSchool.STATE);
        Check.due("still the latest that told a cost", x.phrase(0), 2);
        Check.due("phrase(1)", x.phrase(1), NONE);
        Check.due("phrase(9)", x.phrase(9), NONE);
        Check.due("phrase(-1)", x.phrase(-1), NONE);
        Check.due("phrase(MIN)", x.phrase(Integer.MIN_VALUE), NONE);
        Check.due("phrase(MAX)", x.phrase(Integer.MAX_VALUE), NONE);
        Check.system(x, "sign a 0 1; sign b 1 1; sign c 4 1; length 2; phrase 8;");
        Check.passage(x, 0, 1, 2);
        cut(x, 6 + 1 + 3, 3);
    }

    private static void ties() {
        PenSchool x = school("turn 6; lift 6; phrase 2;");
        x.joins(0, 1, true);
        Check.passage(x, 0, 1);
        // A turn of one eighth costs what a lift does.
        cut(x, 4 + 6, 2);
        x.joins(0, 0, true);
        Check.passage(x, 0, 0, 0, 0, 0);
        cut(x, 10 + 12, 1, 2, 2);
        Check.system(x, "sign a 0 1; sign b 1 1; sign c 4 1; length 2; turn 1; lift 0;");
        Check.passage(x, 0, 1);
        cut(x, 4, 1, 1);
        Check.passage(x, 0, 0, 0, 0);
        cut(x, 8, 1, 3);
    }

    private static void sharpTurns() {
        PenSchool x = school("turn 0; sharp 3;");
        x.joins(0, 2, true);
        x.joins(1, 2, true);
        Check.passage(x, 0, 2);
        cut(x, 4 + 6, 1, 1);
        Check.passage(x, 1, 2);
        cut(x, 4, 2);
        // From the last SIGN of the one (c) to the first of the other (a).
        x.joins(4, 4, true);
        x.joins(4, 1, true);
        Check.passage(x, 4, 4, 1);
        cut(x, 18 - 4 + 6, 1, 2);
    }

    private static void byForms() {
        PenSchool x = school("turn 1; lift 9; phrase 3;");
        x.joins(4, 0, true);
        Check.passage(x, 4, 0);
        Check.due("outline", x.about(4, 7), 6 + 1 + 3);
        cut(x, 10 + 2 + 4, 2);
        Check.candidate(x, 4, "AB");
        Check.due("adopt", x.adopt(1), 1);
        cut(x, 5 + 2 + 1, 2);
    }
}
