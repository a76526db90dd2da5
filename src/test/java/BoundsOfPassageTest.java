/** Where the document bounds JOINS, BESIDE, a PASSAGE and its phrases: Terms III, promises 17 to 22. */
public final class BoundsOfPassageTest {
    private static final int NONE = PenSchool.NONE;
    private static final int RANGE = PenSchool.RANGE;
    private static final int[] NO_TERMS = {-1, 4, 59, 60, Integer.MIN_VALUE, Integer.MAX_VALUE};

    private BoundsOfPassageTest() {
    }

    public static void main(String[] args) {
        joinsAsked();
        joinsAtFirst();
        besideAsked();
        besidePoints();
        lastTerms();
        cleared();
        said();
        sayAsked();
        noTerms();
        noForm();
        oneTerm();
        phraseSizes();
        sharpTurns();
        mustJoin();
        dearTurns();
        fewestPhrases();
        leastRow();
        shorterPassages();
        phraseAsked();
        Check.finish("BoundsOfPassageTest");
    }

    /** TERMS 0 .. 3: to the east, an eighth and a half turn from it, and one without a FORM. */
    private static PenSchool school(String rules) {
        PenSchool x = Check.school("sign a 0 1; sign b 1 1; sign c 4 1;" + rules);
        for (String row : new String[] {"a", "b", "c", "p"}) {
            Check.term(x, row, 1);
        }
        return x;
    }

    private static void joinsAsked() {
        Check.says("RANGE: no such TERMS (they may be alike)");
        PenSchool x = school("");
        for (int t : NO_TERMS) {
            Check.due("joins(" + t + ", 0)", x.joins(t, 0, true), RANGE);
            Check.due("joins(0, " + t + ")", x.joins(0, t, true), RANGE);
            Check.due("joins(" + t + ", 0, false)", x.joins(t, 0, false), RANGE);
        }
        Check.due("joins(3, 3)", x.joins(3, 3, true), 1);
        Check.due("joins(0, 0)", x.joins(0, 0, true), 1);
        Check.due("joins(0, 3)", x.joins(0, 3, true), 1);
        Check.due("joins(3, 0)", x.joins(3, 0, true), 1);
        Check.due("without TERMS", new PenSchool().joins(0, 0, true), RANGE);
    }

    private static void joinsAtFirst() {
        Check.says("q may go on behind p in a phrase, or not: 1 if it was otherwise, else 0");
        PenSchool x = school("");
        for (int p = 0; p < 4; p++) {
            for (int q = 0; q < 4; q++) {
                Check.due("not at first", x.joins(p, q, false), 0);
                Check.due("now", x.joins(p, q, true), 1);
                Check.due("now already", x.joins(p, q, true), 0);
                Check.due("no more", x.joins(p, q, false), 1);
                Check.due("no more already", x.joins(p, q, false), 0);
            }
        }
        x.joins(1, 2, true);
        for (int p = 0; p < 4; p++) {
            for (int q = 0; q < 4; q++) {
                Check.due("only that one", x.joins(p, q, false), p == 1 && q == 2 ? 1 : 0);
            }
        }
    }

    private static void besideAsked() {
        Check.says("BESIDE of q behind p: what it was; RANGE.");
        PenSchool x = school("");
        for (int t : NO_TERMS) {
            Check.due("beside(" + t + ", 0)", x.beside(t, 0, 1), RANGE);
            Check.due("beside(0, " + t + ")", x.beside(0, t, 1), RANGE);
        }
        for (int p = 0; p < 4; p++) {
            for (int q = 0; q < 4; q++) {
                Check.due("beside(" + p + ", " + q + ")", x.beside(p, q, 10 * p + q + 1), 0);
            }
        }
        for (int p = 0; p < 4; p++) {
            for (int q = 0; q < 4; q++) {
                Check.due("beside(" + p + ", " + q + ") again", x.beside(p, q, 0), 10 * p + q + 1);
            }
        }
        Check.due("without TERMS", new PenSchool().beside(0, 0, 1), RANGE);
    }

    private static void besidePoints() {
        Check.says("points 0 .. 999 (0 at first)");
        PenSchool x = school("");
        Check.due("999", x.beside(0, 1, 999), 0);
        for (int points : new int[] {-1, 1000, 1001, Integer.MIN_VALUE, Integer.MAX_VALUE}) {
            Check.due("beside of " + points, x.beside(0, 1, points), RANGE);
        }
        Check.due("it stays", x.beside(0, 1, 0), 999);
        Check.due("0", x.beside(0, 1, 998), 0);
        Check.due("998", x.beside(0, 1, 1), 998);
        Check.due("1", x.beside(0, 1, 0), 1);
    }

    private static void lastTerms() {
        PenSchool x = new PenSchool();
        for (int t = 0; t < 60; t++) {
            Check.term(x, Check.pair(t), 1);
        }
        for (int t : new int[] {0, 28, 29, 30, 31, 32, 58, 59}) {
            Check.due("joins(59, " + t + ")", x.joins(59, t, true), 1);
            Check.due("joins(" + t + ", 58)", x.joins(t, 58, true), t == 59 ? 0 : 1);
            Check.due("beside(59, " + t + ")", x.beside(59, t, t + 1), 0);
            Check.due("beside(" + t + ", 59)", x.beside(t, 59, t + 100), t == 59 ? 60 : 0);
        }
        for (int t : new int[] {0, 28, 29, 30, 31, 32, 58}) {
            Check.due("beside(59, " + t + ") again", x.beside(59, t, 0), t + 1);
            Check.due("beside(" + t + ", 59) again", x.beside(t, 59, 0), t + 100);
        }
        Check.due("joins(59, 1)", x.joins(59, 1, false), 0);
        Check.due("joins(59, 57)", x.joins(59, 57, false), 0);
        Check.due("joins(60, 0)", x.joins(60, 0, true), RANGE);
        Check.due("beside(0, 60)", x.beside(0, 60, 1), RANGE);
    }

    private static void cleared() {
        Check.says("The PASSAGE is empty: how many TERMS it had.");
        PenSchool x = school("");
        Check.due("clear() of none", x.clear(), 0);
        x.say(0);
        Check.due("clear() of one", x.clear(), 1);
        Check.due("count(2)", x.count(2), 0);
        for (int i = 0; i < 61; i++) {
            x.say(0);
        }
        Check.due("clear() of sixty", x.clear(), 60);
        Check.due("clear() again", x.clear(), 0);
        Check.due("say(1)", x.say(1), 1);
    }

    private static void said() {
        Check.says("A PASSAGE: a row of 1 .. 60 TERMS");
        PenSchool x = school("");
        for (int i = 1; i <= 60; i++) {
            Check.due("say " + i, x.say(i % 3), i);
        }
        Check.due("the 61st", x.say(0), PenSchool.FULL);
        Check.due("once more", x.say(3), PenSchool.FULL);
        Check.due("count(2)", x.count(2), 60);
        Check.due("phrased()", x.phrased(), 60 * 2 + 59 * 6);
        Check.due("dictate", x.dictate(99, 20), 59 * 99 + 2);
        Check.due("the last of them", x.note(59, 10), 0);
        Check.due("the one ahead of it", x.note(58, 10), 2);
    }

    private static void sayAsked() {
        Check.says("A TERM comes behind the PASSAGE: how many it has; RANGE; FULL.");
        PenSchool x = school("");
        for (int t : NO_TERMS) {
            Check.due("say(" + t + ")", x.say(t), RANGE);
        }
        Check.due("count(2)", x.count(2), 0);
        Check.due("say(0)", x.say(0), 1);
        Check.due("say(3), though it has no FORM", x.say(3), 2);
        for (int i = 0; i < 58; i++) {
            x.say(0);
        }
        Check.due("RANGE ahead of FULL", x.say(4), RANGE);
        Check.due("FULL", x.say(0), PenSchool.FULL);
        Check.due("without TERMS", new PenSchool().say(0), RANGE);
    }

    private static void noTerms() {
        Check.says("STATE: no TERMS");
        PenSchool x = school("");
        Check.due("phrased()", x.phrased(), PenSchool.STATE);
        Check.due("on a new object", new PenSchool().phrased(), PenSchool.STATE);
        x.say(0);
        Check.due("phrased() of one", x.phrased(), 2);
        x.clear();
        Check.due("phrased() behind clear()", x.phrased(), PenSchool.STATE);
    }

    private static void noForm() {
        Check.says("NONE: a TERM has no FORM");
        int[][] passages = {{3}, {3, 0, 0}, {0, 3, 0}, {0, 0, 3}};
        for (int[] terms : passages) {
            PenSchool x = school("");
            Check.passage(x, terms);
            Check.due("phrased()", x.phrased(), NONE);
            Check.system(x, "sign a 0 1; sign p 0 1;");
            Check.due("phrased() by another SYSTEM", x.phrased(), 2 * terms.length + 6 * (terms.length - 1));
        }
    }

    private static void cut(PenSchool x, int cost, int... sizes) {
        Check.due("phrased()", x.phrased(), cost);
        Check.due("phrase(0)", x.phrase(0), sizes.length);
        for (int i = 0; i < sizes.length; i++) {
            Check.due("phrase(" + (10 + i) + ")", x.phrase(10 + i), sizes[i]);
        }
        Check.due("behind the last", x.phrase(10 + sizes.length), NONE);
    }

    private static void oneTerm() {
        Check.says("cut in phrases of 1 .. phrase TERMS");
        PenSchool x = school("lift 99;");
        Check.passage(x, 1);
        cut(x, 2, 1);
    }

    private static void phraseSizes() {
        for (int most = 1; most <= 8; most++) {
            PenSchool x = school("phrase " + most + ";");
            x.joins(0, 0, true);
            for (int n = 1; n <= 60; n++) {
                x.say(0);
                if (n > 2 * most + 1 && n < 60) {
                    continue;
                }
                int phrases = (n + most - 1) / most;
                Check.due(n + " by " + most, x.phrased(), 2 * n + 6 * (phrases - 1));
                Check.due("phrase(0)", x.phrase(0), phrases);
                Check.due("phrase(10)", x.phrase(10), n - most * (phrases - 1));
                Check.due("the last", x.phrase(9 + phrases), phrases == 1 ? n : most);
                Check.due("behind it", x.phrase(10 + phrases), NONE);
            }
        }
    }

    private static void sharpTurns() {
        Check.says("the TURN from the last SIGN of the one to the first one of the other is not above sharp");
        for (int sharp = 0; sharp <= 4; sharp++) {
            for (int way = 0; way < 8; way++) {
                int turn = way > 4 ? 8 - way : way;
                PenSchool x = Check.school("sign a 0 1; sign b " + way + " 1; lift 50; turn 3; sharp " + sharp + ";");
                Check.term(x, "a", 1);
                Check.term(x, "b", 1);
                x.joins(0, 1, true);
                Check.passage(x, 0, 1);
                if (turn <= sharp) {
                    cut(x, 4 + 3 * turn, 2);
                } else {
                    cut(x, 4 + 50, 1, 1);
                }
            }
        }
        PenSchool x = Check.school("sign a 0 1; sign b 4 1; lift 50; turn 3; sharp 3; length 0;");
        Check.term(x, "ab", 1);
        Check.term(x, "ba", 1);
        x.joins(0, 1, true);
        x.joins(0, 0, true);
        Check.passage(x, 0, 1);
        cut(x, 100, 2);
        Check.passage(x, 0, 0);
        cut(x, 150, 1, 1);
    }

    private static void mustJoin() {
        Check.says("within one each TERM and the next one JOIN");
        PenSchool x = school("turn 0;");
        Check.passage(x, 0, 1, 2);
        x.joins(1, 0, true);
        x.joins(0, 2, true);
        cut(x, 6 + 12, 1, 1, 1);
        x.joins(0, 1, true);
        cut(x, 6 + 6, 2, 1);
        x.joins(1, 2, true);
        cut(x, 6, 3);
        x.joins(0, 1, false);
        cut(x, 6 + 6, 1, 2);
    }

    private static void dearTurns() {
        Check.says("The least COST");
        for (int turn = 1; turn <= 3; turn++) {
            PenSchool x = school("lift 2; turn " + turn + ";");
            x.joins(0, 1, true);
            Check.passage(x, 0, 1);
            if (turn <= 2) {
                cut(x, 4 + turn, 2);
            } else {
                cut(x, 4 + 2, 1, 1);
            }
        }
    }

    private static void fewestPhrases() {
        Check.says("then the fewest phrases");
        PenSchool x = school("lift 0; phrase 2;");
        x.joins(0, 0, true);
        Check.passage(x, 0, 0, 0, 0);
        cut(x, 8, 2, 2);
        PenSchool y = school("lift 0; turn 0; phrase 8;");
        y.joins(0, 1, true);
        y.joins(1, 0, true);
        Check.passage(y, 0, 1, 0, 1, 0, 1, 0, 1);
        cut(y, 16, 8);
    }

    private static void leastRow() {
        Check.says("then the least row of how many TERMS they have");
        PenSchool x = school("phrase 3;");
        x.joins(0, 0, true);
        Check.passage(x, 0, 0, 0, 0);
        cut(x, 8 + 6, 1, 3);
        Check.passage(x, 0, 0, 0, 0, 0);
        cut(x, 10 + 6, 2, 3);
        Check.passage(x, 0, 0, 0, 0, 0, 0, 0);
        cut(x, 14 + 12, 1, 3, 3);
    }

    private static void shorterPassages() {
        Check.says("The PASSAGE is empty");
        PenSchool x = school("");
        x.joins(0, 0, true);
        for (int n = 6; n >= 1; n--) {
            x.clear();
            for (int i = 0; i < n; i++) {
                x.say(0);
            }
            Check.due("phrased() of " + n, x.phrased(), 2 * n + (n > 3 ? 6 : 0));
            Check.due("phrase(0)", x.phrase(0), n > 3 ? 2 : 1);
            Check.due("phrase(12)", x.phrase(12), NONE);
        }
    }

    private static void phraseAsked() {
        Check.says("Of the latest phrased() that told a COST, what 0: phrases; 10 + i: TERMS of the i-th. "
                + "NONE when there is none such.");
        PenSchool x = school("");
        for (int what : new int[] {0, 10, 11, -1}) {
            Check.due("phrase(" + what + ") ahead of any", x.phrase(what), NONE);
        }
        Check.passage(x, 3);
        x.phrased();
        Check.due("phrase(0) behind NONE", x.phrase(0), NONE);
        Check.passage(x, 0, 1);
        x.phrased();
        for (int what : new int[] {-1, 1, 9, 12, 70, Integer.MIN_VALUE, Integer.MAX_VALUE}) {
            Check.due("phrase(" + what + ")", x.phrase(what), NONE);
        }
        Check.passage(x, 0, 1, 3);
        Check.due("NONE", x.phrased(), NONE);
        Check.due("phrase(0) stays", x.phrase(0), 2);
        x.clear();
        Check.due("STATE", x.phrased(), PenSchool.STATE);
        Check.due("phrase(11) stays", x.phrase(11), 1);
        x.say(0);
        x.phrased();
        Check.due("phrase(0) of one", x.phrase(0), 1);
        Check.due("phrase(11) of one", x.phrase(11), NONE);
    }
}
