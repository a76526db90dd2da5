/** Promises 9 to 11: TERMS, their SKELETONS, PLACES, OUTLINES and FORMS. */
public final class TermsTest {
    private static final int NONE = PenSchool.NONE;

    private TermsTest() {
    }

    public static void main(String[] args) {
        term();
        termBlanks();
        termFault();
        termRoom();
        skeletons();
        places();
        costs();
        ties();
        missing();
        alike();
        Check.finish("TermsTest");
    }

    private static void term() {
        PenSchool x = new PenSchool();
        Check.due("term", Check.term(x, "a", 1), 0);
        Check.due("ten sounds", Check.term(x, "abcdefghij", 9999), 1);
        Check.due("eleven sounds", Check.term(x, "abcdefghijk", 1), NONE);
        Check.due("no sounds", Check.term(x, "", 1), NONE);
        Check.due("q", Check.term(x, "q", 1), NONE);
        Check.due("capital", Check.term(x, "A", 1), NONE);
        Check.due("a high byte", Check.term(x, "\u00e1", 1), NONE);
        Check.due("count 0", Check.term(x, "b", 0), PenSchool.RANGE);
        Check.due("count 10000", Check.term(x, "b", 10000), PenSchool.RANGE);
        Check.due("RANGE comes first", Check.term(x, "q", -1), PenSchool.RANGE);
        Check.due("told already", Check.term(x, "a", 7), PenSchool.STATE);
        Check.due("its count stays", x.about(0, 0), 1);
        Check.due("its beginning is another", Check.term(x, "abcdefghi", 7), 2);
        Check.due("p", Check.term(x, "p", 7), 3);
        Check.due("count(0)", x.count(0), 4);
    }

    private static void termBlanks() {
        PenSchool x = new PenSchool();
        Check.due("blanks behind", Check.term(x, "bc" + " ".repeat(18), 1), 0);
        Check.due("its sounds", x.about(0, 1), 2);
        Check.due("its first sound", x.about(0, 50), 1);
        Check.due("its second sound", x.about(0, 51), 2);
        Check.due("its skeleton ends", x.about(0, 52), -9);
        Check.due("blanks ahead", Check.term(x, "  \n de", 2), 1);
        Check.due("its sounds", x.about(1, 1), 2);
        Check.due("its first sound", x.about(1, 50), 3);
        Check.due("its second sound", x.about(1, 51), 4);
        Check.due("a line's end on both sides", Check.term(x, "\nf\n", 3), 2);
        Check.due("ten sounds and blanks", Check.term(x, " abcdefghij ", 4), 3);
        Check.due("its last sound", x.about(3, 59), 9);
        Check.due("a whole tape", Check.term(x, " ".repeat(790) + "jihgfedcba", 5), 4);
        Check.due("its last sound", x.about(4, 59), 0);
        Check.due("the rest of the tape", Check.term(x, "g" + "\n".repeat(799), 6), 5);
        Check.due("told without blanks", Check.term(x, "bc", 1), PenSchool.STATE);
        Check.due("told with blanks", Check.term(x, "   bc ", 1), PenSchool.STATE);
        Check.due("RANGE with blanks", Check.term(x, " b ", 0), PenSchool.RANGE);
        Check.due("the tape is empty", x.count(6), 0);
        String[] wrong = {" ", "\n", " ".repeat(800), "b c", "b\nc", "b  b", " abcdefghijk ", "b q", " q ", "b 1",
            "1 b", "b ;", "; b", "\tb", "b\t", "b\r", "b\0", "b" + (char) 160, " abcdefghijklmnop ", " B "};
        for (String text : wrong) {
            Check.due("no ROW: \"" + text + "\"", Check.term(x, text, 1), NONE);
            Check.due("the tape is empty", x.count(6), 0);
        }
        Check.due("count(0)", x.count(0), 6);
    }

    private static void termFault() {
        PenSchool x = new PenSchool();
        Check.fault(x, "turn 12;", true, 2, 5);
        Check.due("a ROW", Check.term(x, " b ", 1), 0);
        Check.due("the KIND stays", x.fault(0), 2);
        Check.due("the PLACE stays", x.fault(1), 5);
        Check.due("system", Check.system(x, "turn 2;"), 1);
        Check.due("no ROW", Check.term(x, "  q", 1), NONE);
        Check.due("no KIND", x.fault(0), 0);
        Check.due("no PLACE", x.fault(1), NONE);
    }

    private static void termRoom() {
        PenSchool x = new PenSchool();
        for (int i = 0; i < 60; i++) {
            String row = Check.pair(i);
            Check.due("term " + row, Check.term(x, row, i + 1), i);
        }
        Check.due("the 61st", Check.term(x, "p", 1), PenSchool.FULL);
        Check.due("the 61st, told already", Check.term(x, "aa", 1), PenSchool.STATE);
        Check.due("the 61st, with blanks", Check.term(x, " p ", 1), PenSchool.FULL);
        Check.due("the 61st, no row", Check.term(x, "q", 1), NONE);
        Check.due("the last's count", x.about(59, 0), 60);
        Check.due("about(60)", x.about(60, 0), -9);
    }

    private static void skeleton(PenSchool x, int t, String want) {
        Check.due("skeleton of " + want, x.about(t, 3), want.length());
        for (int i = 0; i < want.length(); i++) {
            Check.due("sound " + i + " of " + want, x.about(t, 50 + i), want.charAt(i) - 'a');
        }
        Check.due("behind " + want, x.about(t, 50 + want.length()), -9);
    }

    private static void skeletons() {
        PenSchool x = Check.school("vowels ae; drop inner;");
        Check.term(x, "abaceaea", 1);
        Check.term(x, "ea", 1);
        Check.term(x, "a", 1);
        Check.term(x, "bcb", 1);
        skeleton(x, 0, "abca");
        skeleton(x, 1, "ea");
        skeleton(x, 2, "a");
        skeleton(x, 3, "bcb");
        Check.system(x, "vowels ae; drop all;");
        skeleton(x, 0, "bc");
        skeleton(x, 1, "");
        skeleton(x, 2, "");
        skeleton(x, 3, "bcb");
        Check.system(x, "vowels ae; drop none;");
        skeleton(x, 0, "abaceaea");
        Check.system(x, "drop all;");
        skeleton(x, 0, "abaceaea");
        Check.due("sounds", x.about(0, 1), 8);
    }

    private static void places() {
        PenSchool x = Check.school("vowels pcaeb;");
        String[] rows = {"ddd", "dpc", "cp", "ddap", "e", "db"};
        int[] places = {1, 0, 1, 2, 0, 1};
        for (int t = 0; t < rows.length; t++) {
            Check.term(x, rows[t], 1);
            Check.due("place of " + rows[t], x.about(t, 2), places[t]);
        }
        Check.system(x, "vowels de;");
        Check.due("place by another system", x.about(0, 2), 0);
        Check.due("place of e", x.about(4, 2), 1);
        Check.due("place of dpc", x.about(1, 2), 0);
    }

    private static void row(PenSchool x, int t, int cost, int lifts, int... signs) {
        Check.due("signs of outline " + t, x.about(t, 4), signs.length);
        Check.due("cost of outline " + t, x.about(t, 5), cost);
        Check.due("signs of form " + t, x.about(t, 6), signs.length);
        Check.due("cost of form " + t, x.about(t, 7), cost);
        Check.due("lifts of form " + t, x.about(t, 8), lifts);
        for (int i = 0; i < signs.length; i++) {
            Check.due("sign " + i + " of outline " + t, x.about(t, 10 + i), signs[i]);
            Check.due("sign " + i + " of form " + t, x.about(t, 30 + i), signs[i]);
        }
        Check.due("behind outline " + t, x.about(t, 10 + signs.length), -9);
        Check.due("behind form " + t, x.about(t, 30 + signs.length), -9);
    }

    private static void costs() {
        PenSchool x = Check.school("sign a 0 1; sign b 3 2; sign c 7 3; sign d 4 1; length 3; turn 2; lift 20; sharp 3;");
        Check.term(x, "a", 1);
        Check.term(x, "ab", 1);
        Check.term(x, "ac", 1);
        Check.term(x, "bc", 1);
        Check.term(x, "ad", 1);
        Check.term(x, "aaaaaaaaaa", 1);
        row(x, 0, 3, 0, 0);
        row(x, 1, 9 + 6, 0, 0, 1);
        row(x, 2, 12 + 2, 0, 0, 2);
        row(x, 3, 15 + 20, 1, 1, 2);
        row(x, 4, 6 + 20, 1, 0, 3);
        row(x, 5, 30, 0, 0, 0, 0, 0, 0, 0, 0, 0, 0, 0);
        Check.system(x, "sign a 0 1; sign b 3 2; sign c 7 3; length 0; turn 0; lift 0; sharp 0;");
        row(x, 1, 0, 1, 0, 1);
        Check.system(x, "sign a 5 3; sign aaaaa 0 1; sign aaaa 4 1; sign aa 0 1;");
        Check.due("a sign of five is none", x.fault(0), 2);
        Check.system(x, "sign a 5 3; sign aaaa 4 1; sign aa 0 1; length 1; turn 9; lift 1; sharp 0;");
        row(x, 5, 3 + 1, 1, 1, 1, 2);
    }

    private static void ties() {
        PenSchool x = Check.school("sign b 0 1; sign a 0 1; sign ab 0 2; sign ba 0 2; length 1; turn 0;");
        Check.term(x, "ab", 1);
        Check.term(x, "aba", 1);
        row(x, 0, 2, 0, 2);
        // Of two SIGNS each: 1,3 and 2,1.
        row(x, 1, 3, 0, 1, 3);
        Check.system(x, "sign ab 0 2; sign ba 0 2; sign b 0 1; sign a 0 1; length 1; turn 0;");
        row(x, 1, 3, 0, 0, 3);
        // The cheaper one is taken even if it has more SIGNS.
        Check.system(x, "sign ab 0 3; sign ba 0 3; sign b 0 1; sign a 0 1; length 1; turn 0;");
        row(x, 1, 3, 0, 3, 2, 3);
        row(x, 0, 2, 0, 3, 2);
    }

    private static void missing() {
        PenSchool x = Check.school("vowels e; sign a 0 1; sign ab 1 1; sign bc 1 1; drop all;");
        String[] rows = {"b", "abc", "e", "abb", "ac"};
        for (int t = 0; t < rows.length; t++) {
            Check.term(x, rows[t], 1);
        }
        row(x, 1, 2 * 2 + 1, 0, 0, 2);
        for (int t : new int[] {0, 2, 3, 4}) {
            for (int what = 4; what <= 8; what++) {
                Check.due("about(" + t + ", " + what + ")", x.about(t, what), NONE);
            }
            Check.due("outline of " + t, x.about(t, 10), -9);
            Check.due("form of " + t, x.about(t, 30), -9);
            Check.due("alike of " + t, x.alike(t), NONE);
        }
        Check.due("count(7)", x.count(7), 1);
        Check.due("about(1, 9)", x.about(1, 9), -9);
        Check.due("about(1, -1)", x.about(1, -1), -9);
        Check.due("about(-1, 0)", x.about(-1, 0), -9);
        Check.due("about(5, 0)", x.about(5, 0), -9);
        Check.due("about(1, MIN)", x.about(1, Integer.MIN_VALUE), -9);
        Check.due("about(1, MAX)", x.about(1, Integer.MAX_VALUE), -9);
        Check.due("about(1, 20)", x.about(1, 20), -9);
        Check.due("about(1, 49)", x.about(1, 49), -9);
    }

    private static void alike() {
        PenSchool x = Check.school("vowels ae; sign b 1 1; sign c 1 1; sign d 1 2; sign f 2 1; drop all;");
        String[] rows = {"b", "c", "d", "f", "ba", "ab", "be", "bb", "cb", "a"};
        int[] alike = {2, 2, 0, 0, 1, 1, 2, 1, 1, NONE};
        for (int t = 0; t < rows.length; t++) {
            Check.term(x, rows[t], 1);
        }
        for (int t = 0; t < rows.length; t++) {
            Check.due("alike " + rows[t], x.alike(t), alike[t]);
        }
        Check.due("alike(-1)", x.alike(-1), PenSchool.RANGE);
        Check.due("alike(10)", x.alike(10), PenSchool.RANGE);
        Check.candidate(x, 2, "C");
        Check.due("adopt", x.adopt(1), 1);
        Check.due("by the brief", x.alike(2), 0);
        Check.candidate(x, 7, "A");
        Check.due("no brief that meets an outline", x.adopt(2), NONE);
    }
}
