/** Where the document bounds TERMS and what is told of them: Terms II, promises 9 to 11. */
public final class BoundsOfTermsTest {
    private static final int NONE = PenSchool.NONE;
    private static final int RANGE = PenSchool.RANGE;
    private static final int FULL = PenSchool.FULL;
    private static final int STATE = PenSchool.STATE;
    private static final int ABSENT = -9;

    private BoundsOfTermsTest() {
    }

    public static void main(String[] args) {
        counts();
        rows();
        sounds();
        otherBytes();
        alreadyThere();
        sixty();
        sixtyLongOnes();
        whichAnswer();
        dropAll();
        dropInner();
        dropNone();
        places();
        noWay();
        emptySkeleton();
        turns();
        costs();
        leastCost();
        fewestSigns();
        leastRow();
        rowAsked();
        termAsked();
        looks();
        alikeAsked();
        allAlike();
        Check.finish("BoundsOfTermsTest");
    }

    private static void counts() {
        Check.says("a COUNT 1 .. 9999");
        PenSchool x = new PenSchool();
        for (int count : new int[] {0, 10000, -1, 10001, Integer.MIN_VALUE, Integer.MAX_VALUE}) {
            Check.due("term(" + count + ")", Check.term(x, "a", count), RANGE);
        }
        Check.due("count(0)", x.count(0), 0);
        Check.due("term(1)", Check.term(x, "a", 1), 0);
        Check.due("term(2)", Check.term(x, "b", 2), 1);
        Check.due("term(9999)", Check.term(x, "c", 9999), 2);
        Check.due("term(9998)", Check.term(x, "d", 9998), 3);
        int[] due = {1, 2, 9999, 9998};
        for (int t = 0; t < due.length; t++) {
            Check.due("about(" + t + ", 0)", x.about(t, 0), due[t]);
        }
    }

    private static void rows() {
        Check.says("each a ROW of 1 .. 10 SOUNDS");
        PenSchool x = new PenSchool();
        Check.due("no SOUND", Check.term(x, "", 1), NONE);
        Check.due("blanks", Check.term(x, " \n", 1), NONE);
        for (int n = 1; n <= 10; n++) {
            Check.due(n + " SOUNDS", Check.term(x, "p".repeat(n), 1), n - 1);
            Check.due("about", x.about(n - 1, 1), n);
        }
        for (int n : new int[] {11, 12, 13, 100, 800}) {
            Check.due(n + " SOUNDS", Check.term(x, "p".repeat(n), 1), NONE);
        }
        Check.due("two ROWS", Check.term(x, "a a", 1), NONE);
        Check.due("count(0)", x.count(0), 10);
    }

    private static void sounds() {
        Check.says("SOUNDS are the letters a .. p.");
        for (char c = 'a'; c <= 'z'; c++) {
            PenSchool x = new PenSchool();
            Check.due("term of " + c, Check.term(x, "" + c, 1), c <= 'p' ? 0 : NONE);
            Check.due("its SOUND", x.about(0, 50), c <= 'p' ? c - 'a' : ABSENT);
            Check.due("b" + c + "b", Check.term(x, "b" + c + "b", 1), c <= 'p' ? 1 : NONE);
        }
    }

    private static void otherBytes() {
        Check.says("NONE: it is no ROW of 1 .. 10");
        PenSchool x = new PenSchool();
        Check.term(x, "b", 1);
        for (int b = 0; b < 256; b++) {
            boolean isSound = b >= 'a' && b <= 'p';
            boolean isBlank = b == ' ' || b == '\n';
            if (!isSound) {
                Check.due("behind it byte " + b, Check.term(x, "b" + (char) b, 1), isBlank ? STATE : NONE);
                Check.due("ahead of it byte " + b, Check.term(x, (char) b + "b", 1), isBlank ? STATE : NONE);
            }
            if (b % 32 == 31) {
                x = new PenSchool();
                Check.term(x, "b", 1);
            }
        }
    }

    private static void alreadyThere() {
        Check.says("STATE: one has it");
        PenSchool x = new PenSchool();
        Check.due("ab", Check.term(x, "ab", 5), 0);
        Check.due("ab again", Check.term(x, "ab", 6), STATE);
        Check.due("its COUNT", x.about(0, 0), 5);
        Check.due("its beginning", Check.term(x, "a", 1), 1);
        Check.due("its end", Check.term(x, "b", 1), 2);
        Check.due("the other way round", Check.term(x, "ba", 1), 3);
        Check.due("one more behind", Check.term(x, "abb", 1), 4);
        Check.due("one more ahead", Check.term(x, "aab", 1), 5);
        Check.due("another last one", Check.term(x, "ac", 1), 6);
        Check.due("the last again", Check.term(x, "ac", 1), STATE);
        Check.due("a SYSTEM keeps them", Check.system(x, ""), 0);
        Check.due("the first again", Check.term(x, "ab", 1), STATE);
        Check.due("count(0)", x.count(0), 7);
    }

    private static PenSchool full() {
        PenSchool x = Check.school("sign a 0 1; sign b 0 1; sign c 0 1; sign d 0 1;");
        for (int t = 0; t < 60; t++) {
            Check.due("term " + t, Check.term(x, Check.pair(t), t + 1), t);
        }
        return x;
    }

    private static void sixty() {
        Check.says("TERMS, at most 60, numbered from 0");
        PenSchool x = full();
        Check.due("count(0)", x.count(0), 60);
        Check.due("the 61st", Check.term(x, "p", 1), FULL);
        Check.due("once more", Check.term(x, "p", 1), FULL);
        Check.due("count(0)", x.count(0), 60);
        Check.due("the last", x.about(59, 0), 60);
        Check.due("its SOUND", x.about(59, 51), 11);
        Check.due("behind it", x.about(60, 0), ABSENT);
    }

    private static void sixtyLongOnes() {
        Check.says("TERMS, at most 60, numbered from 0: words of the tongue, each a ROW of 1 .. 10 SOUNDS");
        PenSchool x = new PenSchool();
        for (int t = 0; t < 60; t++) {
            Check.due("term " + t, Check.term(x, Check.pair(t).repeat(5), 1), t);
        }
        Check.due("a SYSTEM for sixty", Check.system(x, "sign a 0 1; sign b 0 1; sign c 0 1; sign d 0 1; sign l 0 1;"), 5);
        for (int t = 0; t < 60; t++) {
            Check.due("the last SOUND of " + t, x.about(t, 59), t % 16);
        }
        Check.due("the last one is drawn", x.about(59, 4), 10);
        Check.due("count(7)", x.count(7), 4 * 5);
    }

    private static void whichAnswer() {
        Check.says("RANGE: no such COUNT; NONE: it is no ROW of 1 .. 10; STATE: one has it; FULL.");
        PenSchool x = full();
        Check.due("RANGE ahead of NONE", Check.term(x, "q", 0), RANGE);
        Check.due("RANGE ahead of STATE", Check.term(x, "aa", 10000), RANGE);
        Check.due("RANGE ahead of FULL", Check.term(x, "p", 0), RANGE);
        Check.due("NONE ahead of FULL", Check.term(x, "q", 1), NONE);
        Check.due("STATE ahead of FULL", Check.term(x, "aa", 1), STATE);
    }

    private static void skeleton(PenSchool x, String row, String want) {
        int t = x.count(0);
        Check.due("term of " + row, Check.term(x, row, 1), t);
        Check.due("SKELETON of " + row, x.about(t, 3), want.length());
        for (int i = 0; i < want.length(); i++) {
            Check.due("its SOUND " + i, x.about(t, 50 + i), want.charAt(i) - 'a');
        }
        Check.due("behind its last", x.about(t, 50 + want.length()), ABSENT);
        Check.due("its SOUNDS", x.about(t, 1), row.length());
    }

    private static void dropAll() {
        Check.says("its ROW without its vowels (drop all)");
        PenSchool x = Check.school("vowels ea; drop all;");
        skeleton(x, "a", "");
        skeleton(x, "ae", "");
        skeleton(x, "aaaaaaaaaa", "");
        skeleton(x, "b", "b");
        skeleton(x, "aba", "b");
        skeleton(x, "bab", "bb");
        skeleton(x, "bcbcbcbcbc", "bcbcbcbcbc");
        skeleton(new PenSchool(), "aeaea", "aeaea");
        skeleton(Check.school("drop all;"), "aeaea", "aeaea");
    }

    private static void dropInner() {
        Check.says("without those that are neither its first nor its last SOUND (inner)");
        PenSchool x = Check.school("vowels ea; drop inner;");
        skeleton(x, "a", "a");
        skeleton(x, "ae", "ae");
        skeleton(x, "aea", "aa");
        skeleton(x, "aab", "ab");
        skeleton(x, "baa", "ba");
        skeleton(x, "bab", "bb");
        skeleton(x, "aaaaaaaaaa", "aa");
        skeleton(x, "babababbae", "bbbbbe");
    }

    private static void dropNone() {
        Check.says("or whole (none)");
        skeleton(Check.school("vowels ea; drop none;"), "aebaeaeaea", "aebaeaeaea");
        skeleton(Check.school("vowels ea;"), "aebaeaeaea", "aebaeaeaea");
    }

    private static void places() {
        Check.says("which of the vowels, as told, is the first in its ROW, by the rest of it by three; 1 if it has none");
        PenSchool x = Check.school("vowels pcaeb; drop all;");
        String[] rows = {"p", "c", "a", "e", "b", "d", "dddddddddp", "dddddddddd", "dapceb", "bp", "ep"};
        int[] due = {0, 1, 2, 0, 1, 1, 0, 1, 2, 1, 0};
        for (int t = 0; t < rows.length; t++) {
            Check.term(x, rows[t], 1);
            Check.due("PLACE of " + rows[t], x.about(t, 2), due[t]);
        }
        Check.system(x, "");
        for (int t = 0; t < rows.length; t++) {
            Check.due("PLACE of " + rows[t] + " without vowels", x.about(t, 2), 1);
        }
    }

    private static void hasNone(PenSchool x, int t) {
        for (int what = 4; what <= 8; what++) {
            Check.due("about(" + t + ", " + what + ")", x.about(t, what), NONE);
        }
        Check.due("about(" + t + ", 10)", x.about(t, 10), ABSENT);
        Check.due("about(" + t + ", 30)", x.about(t, 30), ABSENT);
        Check.due("alike(" + t + ")", x.alike(t), NONE);
    }

    private static void noWay() {
        Check.says("(None, if there is no way, or the SKELETON is empty.)");
        PenSchool x = Check.school("sign ab 0 1; sign abc 0 1; sign d 0 1;");
        String[] rows = {"a", "b", "abca", "aab", "dabc", "abcd", "dd", "e", "ddddddddde", "eddddddddd", "ababcabcab"};
        boolean[] drawn = {false, false, false, false, true, true, true, false, false, false, true};
        int forms = 0;
        for (int t = 0; t < rows.length; t++) {
            Check.term(x, rows[t], 1);
            if (drawn[t]) {
                forms++;
                Check.holds(rows[t] + " is drawn", x.about(t, 4) > 0);
            } else {
                hasNone(x, t);
            }
        }
        Check.due("count(7)", x.count(7), forms);
        Check.system(x, "");
        for (int t = 0; t < rows.length; t++) {
            hasNone(x, t);
        }
        Check.due("count(7) without SIGNS", x.count(7), 0);
    }

    private static void emptySkeleton() {
        PenSchool x = Check.school("vowels a; drop all; sign a 0 1; sign aa 0 1; sign b 0 1;");
        Check.term(x, "a", 1);
        Check.term(x, "aa", 1);
        Check.term(x, "aba", 1);
        hasNone(x, 0);
        hasNone(x, 1);
        Check.due("SIGNS", x.about(2, 4), 1);
        Check.system(x, "vowels a; drop inner; sign a 0 1; sign aa 0 1; sign b 0 1;");
        Check.due("SIGNS", x.about(0, 4), 1);
        Check.due("count(7)", x.count(7), 3);
    }

    private static void turns() {
        Check.says("their TURN (0 .. 4: the fewer eighths from one WAY to the other) times turn, "
                + "if it is not above sharp; else lift (a LIFT)");
        StringBuilder signs = new StringBuilder();
        for (int way = 0; way < 8; way++) {
            signs.append("sign ").append((char) ('a' + way)).append(' ').append(way).append(" 1;");
        }
        int[] eighths = {0, 1, 2, 3, 4, 3, 2, 1};
        for (int from = 0; from < 8; from++) {
            PenSchool x = new PenSchool();
            for (int to = 0; to < 8; to++) {
                Check.term(x, "" + (char) ('a' + from) + (char) ('a' + to), 1);
            }
            for (int sharp = 0; sharp <= 4; sharp++) {
                Check.system(x, signs + "length 0; turn 7; lift 50; sharp " + sharp + ";");
                for (int to = 0; to < 8; to++) {
                    int turn = eighths[to - from & 7];
                    String pair = "from " + from + " to " + to + ", sharp " + sharp;
                    Check.due("COST " + pair, x.about(to, 5), turn <= sharp ? 7 * turn : 50);
                    Check.due("LIFTS " + pair, x.about(to, 8), turn <= sharp ? 0 : 1);
                }
            }
        }
    }

    private static void cost(String system, String row, int cost, int lifts) {
        PenSchool x = Check.school(system);
        Check.term(x, row, 1);
        Check.due("COST of " + row + " by " + system, x.about(0, 5), cost);
        Check.due("COST of its FORM", x.about(0, 7), cost);
        Check.due("LIFTS", x.about(0, 8), lifts);
    }

    private static void costs() {
        Check.says("COST of a row of SIGNS: length times the LENGTHS of all");
        cost("sign a 0 3; length 0;", "aaaaaaaaaa", 0, 0);
        cost("sign a 0 3; length 9;", "aaaaaaaaaa", 270, 0);
        cost("sign a 0 1; length 9;", "a", 9, 0);
        cost("sign a 0 2; sign b 0 3; length 1;", "ab", 5, 0);
        cost("sign a 0 3; sign b 4 3; length 9; lift 99; sharp 3;", "ababababab", 270 + 9 * 99, 9);
        cost("sign a 0 3; sign b 4 3; length 9; lift 0; sharp 3;", "ababababab", 270, 9);
        cost("sign a 0 3; sign b 4 3; length 9; turn 9; sharp 4;", "ababababab", 270 + 9 * 36, 0);
        cost("sign a 0 3; sign b 4 3; length 0; turn 0;", "ababababab", 0, 0);
    }

    private static void outline(PenSchool x, int t, int... signs) {
        Check.due("SIGNS of " + t, x.about(t, 4), signs.length);
        for (int i = 0; i < signs.length; i++) {
            Check.due("SIGN " + i + " of " + t, x.about(t, 10 + i), signs[i]);
        }
        Check.due("behind the last of " + t, x.about(t, 10 + signs.length), ABSENT);
    }

    private static void leastCost() {
        Check.says("OUTLINE: of all ways to draw it that with the least COST");
        // Two SIGNS of one and a TURN of 1, against one SIGN of 3: 2 + turn against 3.
        String signs = "sign ab 0 3; sign a 0 1; sign b 1 1; length 1; turn ";
        PenSchool x = new PenSchool();
        Check.term(x, "ab", 1);
        Check.system(x, signs + "0;");
        outline(x, 0, 1, 2);
        Check.system(x, signs + "1;");
        outline(x, 0, 0);
        Check.system(x, signs + "2;");
        outline(x, 0, 0);
        // What is cheapest at first is not so in the end.
        Check.system(x, "sign a 0 1; sign bc 4 1; sign ab 0 3; sign c 0 1; turn 9;");
        Check.term(x, "abc", 1);
        outline(x, 1, 2, 3);
        // Nor is what would be cheapest without the TURN behind the SIGN ahead of it.
        Check.system(x, "sign a 0 1; sign bc 4 1; sign b 0 1; sign c 0 1; turn 9;");
        outline(x, 1, 0, 2, 3);
        Check.system(x, "sign bc 4 1; sign b 0 1; sign c 0 1; sign a 0 1; turn 0;");
        outline(x, 1, 3, 0);
    }

    private static void fewestSigns() {
        Check.says("then the fewest SIGNS");
        PenSchool x = Check.school("sign a 0 1; sign b 0 1; sign ab 0 2; sign abc 0 3; sign c 0 1; length 1;");
        Check.term(x, "ab", 1);
        Check.term(x, "abc", 1);
        Check.term(x, "abcab", 1);
        outline(x, 0, 2);
        outline(x, 1, 3);
        outline(x, 2, 3, 2);
        Check.system(x, "sign a 0 1; sign aa 0 1; sign aaa 0 1; sign aaaa 0 1; length 0;");
        Check.term(x, "aaaaaaaaaa", 1);
        // 2 + 4 + 4, as 1 (aa) is the least first SIGN of rows of three.
        outline(x, 3, 1, 3, 3);
    }

    private static void leastRow() {
        Check.says("then the least row of SIGNS");
        PenSchool x = Check.school("sign bc 0 2; sign a 0 1; sign ab 0 2; sign c 0 1; length 1;");
        Check.term(x, "abc", 1);
        outline(x, 0, 1, 0);
        Check.system(x, "sign bc 0 2; sign ab 0 2; sign a 0 1; sign c 0 1; length 1;");
        outline(x, 0, 1, 3);
        Check.system(x, "sign a 0 1; sign bc 0 1; sign cd 0 1; sign b 0 1; sign d 0 1;");
        Check.term(x, "abcd", 1);
        outline(x, 1, 0, 1, 4);
        Check.system(x, "sign a 0 1; sign cd 0 1; sign bc 0 1; sign d 0 1; sign b 0 1;");
        outline(x, 1, 0, 2, 3);
    }

    private static void rowAsked() {
        Check.says("10 + i: SIGN i of its OUTLINE, 30 + i: of its FORM, 50 + i: SOUND i of its SKELETON");
        PenSchool x = Check.school("sign a 0 1; sign b 0 1;");
        Check.term(x, "abababbbba", 1);
        Check.term(x, "b", 1);
        Check.candidate(x, 0, "AAA");
        Check.due("adopt", x.adopt(1), 1);
        for (int i = -1; i < 20; i++) {
            int sound = i >= 0 && i < 10 ? "abababbbba".charAt(i) - 'a' : ABSENT;
            Check.due("OUTLINE " + i, x.about(0, 10 + i), sound);
            Check.due("FORM " + i, x.about(0, 30 + i), i >= 0 && i < 3 ? 0 : ABSENT);
            Check.due("SKELETON " + i, x.about(0, 50 + i), sound);
            Check.due("OUTLINE of one " + i, x.about(1, 10 + i), i == 0 ? 1 : ABSENT);
            Check.due("FORM of one " + i, x.about(1, 30 + i), i == 0 ? 1 : ABSENT);
            Check.due("SKELETON of one " + i, x.about(1, 50 + i), i == 0 ? 1 : ABSENT);
        }
    }

    private static void termAsked() {
        Check.says("-9 when there is none such");
        PenSchool x = Check.school("sign a 0 1;");
        Check.term(x, "a", 1);
        Check.term(x, "b", 1);
        int[] whats = {0, 1, 2, 3, 4, 5, 6, 7, 8, 10, 30, 50};
        for (int t : new int[] {-1, 2, 59, 60, Integer.MIN_VALUE, Integer.MAX_VALUE}) {
            for (int what : whats) {
                Check.due("about(" + t + ", " + what + ")", x.about(t, what), ABSENT);
            }
        }
        for (int t = 0; t < 2; t++) {
            for (int what : new int[] {-1, -9, 9, 11, 29, 31, 49, 51, 60, Integer.MIN_VALUE, Integer.MAX_VALUE}) {
                Check.due("about(" + t + ", " + what + ")", x.about(t, what), ABSENT);
            }
        }
    }

    private static void looks() {
        Check.says("if both have as many, the same PLACE, and one by one the same WAYS and LENGTHS");
        String[] others = {"b", "bbb", "abb", "ebb", "ibb", "bd", "db", "bf", "fb", "cb", "cc"};
        int[] alike = {0, 0, 0, 1, 0, 0, 0, 0, 0, 1, 1};
        for (int i = 0; i < others.length; i++) {
            PenSchool x = Check.school("vowels aei; sign b 1 1; sign c 1 1; sign d 1 2; sign f 2 1; drop all;");
            Check.term(x, "bb", 1);
            Check.term(x, others[i], 1);
            Check.due("bb and " + others[i], x.alike(0), alike[i]);
            Check.due(others[i] + " and bb", x.alike(1), alike[i]);
        }
    }

    private static void alikeAsked() {
        Check.says("How many other TERMS have a FORM that LOOKS like that of TERM t; NONE: it has none; RANGE.");
        PenSchool x = Check.school("sign a 0 1; sign b 0 1; sign c 0 1;");
        Check.due("alike(0) of none", x.alike(0), RANGE);
        String[] rows = {"a", "d", "b", "ab", "dd"};
        int[] due = {1, NONE, 1, 0, NONE};
        for (String row : rows) {
            Check.term(x, row, 1);
        }
        for (int t = 0; t < rows.length; t++) {
            Check.due("alike(" + t + ")", x.alike(t), due[t]);
        }
        for (int t : new int[] {-1, 5, 60, Integer.MIN_VALUE, Integer.MAX_VALUE}) {
            Check.due("alike(" + t + ")", x.alike(t), RANGE);
        }
        Check.candidate(x, 2, "ABC");
        Check.due("adopt", x.adopt(1), 1);
        Check.due("alike(0) by FORMS", x.alike(0), 0);
        Check.due("alike(2) by FORMS", x.alike(2), 0);
    }

    private static void allAlike() {
        StringBuilder signs = new StringBuilder();
        for (char c = 'a'; c <= 'p'; c++) {
            signs.append("sign ").append(c).append(" 7 3;");
        }
        PenSchool x = Check.school(signs.toString());
        for (int t = 0; t < 60; t++) {
            Check.term(x, Check.pair(t), 1);
        }
        Check.due("alike(0) of sixty", x.alike(0), 59);
        Check.due("alike(59) of sixty", x.alike(59), 59);
        Check.due("count(7)", x.count(7), 60);
    }
}
