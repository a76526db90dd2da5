/** Where the document bounds CANDIDATES and which of them are CHOSEN: Terms II, promises 12 to 16. */
public final class BoundsOfBriefsTest {
    private static final int NONE = PenSchool.NONE;
    private static final int RANGE = PenSchool.RANGE;
    private static final int FULL = PenSchool.FULL;

    private BoundsOfBriefsTest() {
    }

    public static void main(String[] args) {
        candidateTerms();
        candidateRows();
        candidateBytes();
        twelve();
        places();
        whichAnswer();
        twoOfOneTerm();
        twoAlike();
        likeAnOutline();
        likeEachOthersOutlines();
        likeOneOutsideAllTwelve();
        likeByTheSystem();
        ownOutline();
        withoutOutline();
        emptySet();
        atMost();
        mostSaved();
        fewest();
        leastSet();
        chooseAsked();
        chosenAsked();
        savesAsked();
        adoptAsked();
        allAdopted();
        othersHaveNone();
        Check.finish("BoundsOfBriefsTest");
    }

    /** SIGN i is one SOUND, no two LOOK alike; TERM i is that SOUND thrice, and comes i + 1 times. */
    private static PenSchool school(int terms) {
        StringBuilder signs = new StringBuilder();
        for (int i = 0; i < 12; i++) {
            signs.append("sign ").append((char) ('a' + i)).append(' ').append(i % 8).append(' ').append(1 + i / 8).append(';');
        }
        PenSchool x = Check.school(signs + "length 1;");
        for (int t = 0; t < terms; t++) {
            Check.term(x, ("" + (char) ('a' + t)).repeat(3), t + 1);
        }
        return x;
    }

    private static String letter(int s) {
        return "" + (char) ('A' + s);
    }

    /** What the brief of one SIGN saves TERM t of school(). */
    private static int saved(int t) {
        return (t + 1) * 2 * (1 + t / 8);
    }

    private static void candidateTerms() {
        Check.says("RANGE: no such TERM");
        PenSchool x = school(3);
        for (int t : new int[] {-1, 3, 60, Integer.MIN_VALUE, Integer.MAX_VALUE}) {
            Check.due("candidate(" + t + ")", Check.candidate(x, t, "A"), RANGE);
        }
        Check.due("candidate(0)", Check.candidate(x, 0, "A"), 0);
        Check.due("candidate(2)", Check.candidate(x, 2, "A"), 1);
        Check.due("count(1)", x.count(1), 2);
        Check.due("without TERMS", Check.candidate(school(0), 0, "A"), RANGE);
    }

    private static void candidateRows() {
        Check.says("a row of 1 .. 3 SIGNS");
        PenSchool x = school(1);
        for (String row : new String[] {"", "AAAA", "ABCD", "AAAAA", "A".repeat(800)}) {
            Check.due("candidate of \"" + row + "\"", Check.candidate(x, 0, row), NONE);
        }
        String[] rows = {"A", "AB", "ABC", "LLL"};
        for (int i = 0; i < rows.length; i++) {
            Check.due("candidate of " + rows[i], Check.candidate(x, 0, rows[i]), i);
            Check.due("adopt", x.adopt(1 << i), 1);
            Check.due("its SIGNS", x.about(0, 6), rows[i].length());
            Check.due("its last", x.about(0, 29 + rows[i].length()), rows[i].charAt(rows[i].length() - 1) - 'A');
        }
        Check.due("count(1)", x.count(1), 4);
    }

    private static void candidateBytes() {
        Check.says("(a byte each, its number and 65)");
        for (int b = 0; b < 256; b++) {
            PenSchool x = Check.school("sign a 0 1; sign b 0 1; sign c 0 1;");
            Check.term(x, "a", 1);
            boolean isSign = b >= 65 && b <= 67;
            Check.due("byte " + b, Check.candidate(x, 0, "" + (char) b), isSign ? 0 : NONE);
            Check.due("byte " + b + " behind another", Check.candidate(x, 0, "A" + (char) b), isSign ? 1 : NONE);
        }
        PenSchool x = new PenSchool();
        Check.term(x, "a", 1);
        Check.due("without SIGNS", Check.candidate(x, 0, "A"), NONE);
        Check.system(x, Check.manySigns(30));
        Check.due("64", Check.candidate(x, 0, "@"), NONE);
        Check.due("65", Check.candidate(x, 0, "A"), 0);
        Check.due("94", Check.candidate(x, 0, "^"), 1);
        Check.due("95", Check.candidate(x, 0, "_"), NONE);
        Check.due("a blank behind", Check.candidate(x, 0, "A "), NONE);
    }

    private static void twelve() {
        Check.says("CANDIDATES, at most 12, numbered from 0");
        PenSchool x = school(2);
        for (int i = 0; i < 12; i++) {
            Check.due("candidate " + i, Check.candidate(x, i % 2, letter(i)), i);
        }
        Check.due("the 13th", Check.candidate(x, 0, "A"), FULL);
        Check.due("count(1)", x.count(1), 12);
        Check.due("the last", x.saves(2048), 2 * (3 - 2));
        Check.system(x, "sign a 0 1;");
        Check.due("count(1) behind a SYSTEM", x.count(1), 0);
        Check.due("the first again", Check.candidate(x, 0, "A"), 0);
    }

    private static void places() {
        Check.says("(its PLACE is the TERM's)");
        for (int vowels = 0; vowels <= 4; vowels++) {
            PenSchool x = Check.school("vowels mnopl; drop all; sign a 0 1; sign b 1 1; sign m 2 1;");
            String row = vowels == 0 ? "aaa" : "aa" + (char) ('l' + vowels) + "a";
            int place = vowels == 0 ? 1 : (vowels - 1) % 3;
            Check.term(x, row, 1);
            Check.candidate(x, 0, "B");
            Check.due("adopt", x.adopt(1), 1);
            x.say(0);
            x.dictate(1, 1);
            Check.due("PLACE of " + row, x.about(0, 2), place);
            Check.due("PLACE of its NOTE", x.note(0, 2), place);
            Check.due("SIGN of its NOTE", x.note(0, 10), 1);
            Check.due("it READS so", x.reads(0, 0), 1);
        }
    }

    private static void whichAnswer() {
        Check.says("RANGE: no such TERM; NONE: it is none of 1 .. 3; FULL.");
        PenSchool x = school(1);
        for (int i = 0; i < 12; i++) {
            Check.candidate(x, 0, "A");
        }
        Check.due("RANGE ahead of NONE", Check.candidate(x, 1, ""), RANGE);
        Check.due("RANGE ahead of FULL", Check.candidate(x, 1, "A"), RANGE);
        Check.due("NONE ahead of FULL", Check.candidate(x, 0, "M"), NONE);
        Check.due("FULL", Check.candidate(x, 0, "L"), FULL);
    }

    private static void twoOfOneTerm() {
        Check.says("no two of one TERM");
        PenSchool x = school(2);
        Check.candidate(x, 1, "A");
        Check.candidate(x, 1, "B");
        Check.candidate(x, 0, "C");
        Check.due("one", x.saves(1), 2 * 2);
        Check.due("another", x.saves(2), 2 * 2);
        Check.due("both", x.saves(3), NONE);
        Check.due("all three", x.saves(7), NONE);
        Check.due("of two TERMS", x.saves(5), 2 * 2 + 2);
    }

    private static void twoAlike() {
        Check.says("no two LOOK alike");
        PenSchool x = Check.school("vowels pe; drop all; length 1;"
                + "sign a 0 1; sign b 0 1; sign c 0 2; sign d 1 1; sign f 5 3;");
        for (String row : new String[] {"ffff", "effff", "pffff"}) {
            Check.term(x, row, 1);
        }
        int[] terms = {0, 1, 1, 1, 1, 2, 1};
        String[] rows = {"A", "A", "B", "C", "D", "B", "AA"};
        // With the first one: the same SIGN, another that LOOKS so, LENGTH, WAY, PLACE, how many.
        int[] due = {0, NONE, NONE, 12 - 1 + 12 - 2, 12 - 1 + 12 - 1, 12 - 1 + 12 - 1, 12 - 1 + 12 - 2};
        for (int i = 0; i < rows.length; i++) {
            Check.due("candidate " + i, Check.candidate(x, terms[i], rows[i]), i);
        }
        for (int i = 1; i < rows.length; i++) {
            Check.due("A and " + rows[i] + " of " + terms[i], x.saves(1 | 1 << i), due[i]);
        }
    }

    private static void likeAnOutline() {
        Check.says("none LOOKS like the OUTLINE of a TERM that has no CHOSEN one (its own apart)");
        PenSchool x = Check.school("vowels pe; drop all; length 1; sign a 0 1; sign b 0 1; sign c 2 1; sign d 5 1;");
        Check.term(x, "ddd", 10);
        Check.term(x, "a", 4);
        Check.candidate(x, 0, "A");
        Check.candidate(x, 0, "B");
        Check.candidate(x, 1, "C");
        Check.due("like one without", x.saves(1), NONE);
        Check.due("another SIGN that LOOKS so", x.saves(2), NONE);
        Check.due("like one with one", x.saves(1 | 4), 10 * 2);
        Check.due("that one alone", x.saves(4), 0);
        Check.term(x, "c", 1);
        Check.due("like a third one", x.saves(1 | 4), NONE);
        Check.due("adopt", x.adopt(1 | 4), NONE);
        Check.due("choose(12)", x.choose(12), 0);
        Check.due("chosen()", x.chosen(), 0);
        Check.term(x, "pd", 1);
        Check.candidate(x, 1, "D");
        Check.due("of another PLACE", x.saves(1 | 8), 10 * 2);
    }

    private static void likeEachOthersOutlines() {
        PenSchool x = Check.school("sign a 0 2; sign b 1 1; length 1;");
        Check.term(x, "a", 5);
        Check.term(x, "b", 3);
        Check.candidate(x, 0, "B");
        Check.candidate(x, 1, "A");
        Check.due("one", x.saves(1), NONE);
        Check.due("the other", x.saves(2), NONE);
        Check.due("both", x.saves(3), 5 - 3);
        Check.due("adopt", x.adopt(3), 2);
        Check.due("FORM of 0", x.about(0, 30), 1);
        Check.due("FORM of 1", x.about(1, 30), 0);
        Check.due("by OUTLINES still", x.saves(1), NONE);
        Check.due("choose(1)", x.choose(1), 0);
        Check.due("choose(2)", x.choose(2), 2);
    }

    private static void likeOneOutsideAllTwelve() {
        PenSchool x = Check.school("sign a 0 1; sign b 1 1; length 1;");
        Check.term(x, "a", 1);
        Check.term(x, "bb", 5);
        for (int i = 0; i < 12; i++) {
            Check.due("candidate " + i, Check.candidate(x, 1, i < 6 ? "A" : "B"), i);
        }
        Check.due("like the OUTLINE of one without CANDIDATES", x.saves(1), NONE);
        Check.due("like none", x.saves(2048), 5);
        Check.due("choose(12)", x.choose(12), 5);
        Check.due("chosen()", x.chosen(), 64);
    }

    private static void likeByTheSystem() {
        PenSchool x = Check.school("sign a 0 1; sign b 1 1; sign c 0 1; length 1;");
        Check.term(x, "a", 1);
        Check.term(x, "bb", 5);
        Check.candidate(x, 0, "B");
        Check.candidate(x, 1, "C");
        Check.due("like one without", x.saves(2), NONE);
        Check.due("like one with one", x.saves(3), 5);
        Check.system(x, "sign a 0 1; sign b 1 1; sign c 2 1; length 1;");
        Check.candidate(x, 0, "B");
        Check.candidate(x, 1, "C");
        Check.due("like none by another SYSTEM", x.saves(2), 5);
        Check.due("choose(1)", x.choose(1), 5);
        Check.due("chosen()", x.chosen(), 2);
    }

    private static void ownOutline() {
        PenSchool x = Check.school("sign a 0 1; sign b 0 1; length 1;");
        Check.term(x, "a", 9);
        Check.candidate(x, 0, "A");
        Check.candidate(x, 0, "B");
        Check.due("its own", x.saves(1), 0);
        Check.due("one that LOOKS so", x.saves(2), 0);
        Check.due("adopt", x.adopt(2), 1);
        Check.due("its SIGN", x.about(0, 30), 1);
        Check.term(x, "b", 9);
        Check.due("another TERM LOOKS so too", x.saves(1), NONE);
        Check.due("what was ADOPTED stays", x.count(8), 1);
    }

    private static void withoutOutline() {
        Check.says("each is of a TERM with an OUTLINE");
        PenSchool x = Check.school("vowels e; drop all; sign a 0 1; sign b 1 1; length 1;");
        Check.term(x, "p", 9999);
        Check.term(x, "e", 9999);
        Check.term(x, "aa", 1);
        for (int t = 0; t < 3; t++) {
            Check.due("candidate of " + t, Check.candidate(x, t, letter(t % 2)), t);
        }
        Check.due("of one that can't be drawn", x.saves(1), NONE);
        Check.due("of one with an empty SKELETON", x.saves(2), NONE);
        Check.due("of one with an OUTLINE", x.saves(4), 1);
        Check.due("adopt", x.adopt(1), NONE);
        Check.due("choose(12)", x.choose(12), 1);
        Check.due("chosen()", x.chosen(), 4);
    }

    private static void emptySet() {
        Check.says("(The empty set saves 0.)");
        PenSchool x = new PenSchool();
        Check.due("saves(0) of none", x.saves(0), 0);
        Check.due("choose(0) of none", x.choose(0), 0);
        Check.due("choose(12) of none", x.choose(12), 0);
        Check.due("adopt(0) of none", x.adopt(0), 0);
        PenSchool y = Check.school("sign a 0 1; sign b 1 2; length 1;");
        Check.term(y, "a", 1);
        Check.candidate(y, 0, "B");
        Check.due("one that costs more", y.saves(1), -1);
        Check.due("choose(12)", y.choose(12), 0);
        Check.due("chosen()", y.chosen(), 0);
        Check.due("saves(0)", y.saves(0), 0);
        Check.due("it may be ADOPTED", y.adopt(1), 1);
    }

    private static void atMost() {
        Check.says("CHOSEN, at most n CANDIDATES");
        PenSchool x = school(12);
        for (int i = 0; i < 12; i++) {
            Check.candidate(x, i, letter(i));
        }
        int sum = 0;
        for (int n = 0; n <= 12; n++) {
            Check.due("choose(" + n + ")", x.choose(n), sum);
            Check.due("chosen()", x.chosen(), 4095 & -1 << 12 - n);
            Check.due("saves(chosen())", x.saves(x.chosen()), sum);
            sum += n < 12 ? saved(11 - n) : 0;
        }
    }

    private static void mostSaved() {
        Check.says("BEST: the most SAVED");
        PenSchool x = school(3);
        Check.candidate(x, 2, "A");
        Check.candidate(x, 1, "A");
        Check.candidate(x, 0, "A");
        Check.candidate(x, 2, "BA");
        // TERM 2 with A saves 6; with BA it saves nothing (a TURN of 1), and 1 with A 4.
        Check.due("choose(12)", x.choose(12), 6);
        Check.due("chosen()", x.chosen(), 1);
        Check.candidate(x, 2, "B");
        Check.due("choose(12)", x.choose(12), 6 + 4);
        Check.due("chosen()", x.chosen(), 2 | 16);
    }

    private static void fewest() {
        Check.says("then the fewest");
        PenSchool x = Check.school("sign a 0 1; sign b 1 1; sign c 3 1; sign d 3 2; length 1; turn 0;");
        Check.term(x, "aaaa", 1);
        Check.term(x, "bbb", 1);
        Check.candidate(x, 0, "D");
        Check.candidate(x, 1, "DC");
        Check.candidate(x, 0, "C");
        Check.due("0", x.saves(1), 2);
        Check.due("1", x.saves(2), 0);
        Check.due("2", x.saves(4), 3);
        Check.due("one that saves 0 is left out", x.choose(12), 3);
        Check.due("chosen()", x.chosen(), 4);
        PenSchool y = Check.school("sign a 0 1; sign b 1 1; sign c 3 1; sign d 3 2; length 1; turn 0;");
        Check.term(y, "aaa", 1);
        Check.term(y, "bb", 1);
        // D of TERM 0 and C of TERM 1 save 1 each, C of TERM 0 saves 2: it can't stand beside either.
        Check.candidate(y, 0, "D");
        Check.candidate(y, 1, "C");
        Check.candidate(y, 0, "C");
        Check.due("two", y.saves(3), 2);
        Check.due("one", y.saves(4), 2);
        Check.due("choose(12)", y.choose(12), 2);
        Check.due("chosen()", y.chosen(), 4);
    }

    private static void leastSet() {
        Check.says("then the least set (bits)");
        PenSchool x = Check.school("sign a 0 1; sign b 1 1; sign c 3 1; sign d 5 1; length 1;");
        Check.term(x, "aaa", 1);
        Check.term(x, "bbb", 1);
        Check.candidate(x, 0, "C");
        Check.candidate(x, 0, "D");
        Check.candidate(x, 1, "C");
        Check.candidate(x, 1, "D");
        Check.due("0 and 3", x.saves(9), 4);
        Check.due("1 and 2", x.saves(6), 4);
        Check.due("choose(2)", x.choose(2), 4);
        Check.due("chosen()", x.chosen(), 6);
        Check.due("choose(1)", x.choose(1), 2);
        Check.due("chosen()", x.chosen(), 1);
    }

    private static void chooseAsked() {
        Check.says("BEST of at most n (0 .. 12): SAVED; RANGE.");
        PenSchool x = school(1);
        Check.candidate(x, 0, "A");
        Check.due("choose(1)", x.choose(1), 2);
        for (int n : new int[] {-1, 13, Integer.MIN_VALUE, Integer.MAX_VALUE}) {
            Check.due("choose(" + n + ")", x.choose(n), RANGE);
            Check.due("chosen() stays", x.chosen(), 1);
        }
        Check.due("choose(12)", x.choose(12), 2);
        Check.due("choose(0)", x.choose(0), 0);
        Check.due("chosen()", x.chosen(), 0);
        Check.due("nothing is ADOPTED by it", x.count(8), 0);
    }

    private static void chosenAsked() {
        Check.says("(0 ahead of any, or if a SYSTEM or CANDIDATE came since)");
        PenSchool x = school(1);
        Check.due("on a new object", new PenSchool().chosen(), 0);
        Check.candidate(x, 0, "A");
        Check.due("ahead of any", x.chosen(), 0);
        x.choose(12);
        Check.due("chosen()", x.chosen(), 1);
        Check.candidate(x, 0, "ABCD");
        Check.candidate(x, 1, "A");
        Check.due("behind refused CANDIDATES", x.chosen(), 1);
        Check.candidate(x, 0, "B");
        Check.due("behind a CANDIDATE", x.chosen(), 0);
        x.choose(12);
        for (int i = 2; i < 12; i++) {
            Check.candidate(x, 0, "C");
        }
        x.choose(12);
        Check.due("of twelve", x.chosen(), 1);
        Check.due("the 13th", Check.candidate(x, 0, "C"), FULL);
        Check.due("behind one without room", x.chosen(), 1);
        Check.fault(x, "turn 10;", true, 2, 5);
        Check.due("behind a FAULT", x.chosen(), 1);
        Check.system(x, "");
        Check.due("behind a SYSTEM", x.chosen(), 0);
    }

    private static void savesAsked() {
        Check.says("What a set of CANDIDATES (bits) has SAVED; NONE: it can't be CHOSEN; RANGE.");
        PenSchool x = school(12);
        for (int n = 0; n <= 12; n++) {
            int all = (1 << n) - 1;
            int sum = 0;
            for (int i = 0; i < n; i++) {
                sum += saved(i);
            }
            Check.due("saves of all " + n, x.saves(all), sum);
            Check.due("saves of one more", x.saves(1 << n), RANGE);
            Check.due("saves of all and one more", x.saves(all | 1 << n), RANGE);
            for (int set : new int[] {-1, Integer.MIN_VALUE, 1 << 30, Integer.MAX_VALUE}) {
                Check.due("saves(" + set + ")", x.saves(set), RANGE);
            }
            if (n < 12) {
                Check.candidate(x, n, letter(n));
            }
        }
    }

    private static void adoptAsked() {
        Check.says("A set of CANDIDATES is ADOPTED: how many; NONE: it can't be CHOSEN; RANGE.");
        PenSchool x = school(2);
        Check.candidate(x, 0, "A");
        Check.candidate(x, 0, "B");
        Check.candidate(x, 1, "C");
        Check.due("adopt(6)", x.adopt(6), 2);
        for (int set : new int[] {-1, 8, 9, 4096, Integer.MIN_VALUE, Integer.MAX_VALUE}) {
            Check.due("adopt(" + set + ")", x.adopt(set), RANGE);
        }
        Check.due("adopt(3)", x.adopt(3), NONE);
        Check.due("adopt(7)", x.adopt(7), NONE);
        Check.due("count(8) stays", x.count(8), 2);
        Check.due("FORM of 0 stays", x.about(0, 30), 1);
        Check.due("FORM of 1 stays", x.about(1, 30), 2);
        Check.due("count(1) stays", x.count(1), 3);
    }

    private static void allAdopted() {
        PenSchool x = school(12);
        for (int i = 0; i < 12; i++) {
            Check.candidate(x, i, letter(i));
        }
        Check.due("adopt(4095)", x.adopt(4095), 12);
        Check.due("count(8)", x.count(8), 12);
        for (int t = 0; t < 12; t++) {
            Check.due("FORM of " + t, x.about(t, 6), 1);
            Check.due("OUTLINE of " + t, x.about(t, 4), 3);
        }
        Check.due("adopt(0)", x.adopt(0), 0);
        Check.due("count(8)", x.count(8), 0);
    }

    private static void othersHaveNone() {
        Check.says("ADOPTED they are the briefs of their TERMS, all others have none.");
        PenSchool x = school(3);
        for (int i = 0; i < 3; i++) {
            Check.candidate(x, i, letter(i));
        }
        for (int set = 0; set < 8; set++) {
            Check.due("adopt(" + set + ")", x.adopt(set), Integer.bitCount(set));
            Check.due("count(8)", x.count(8), Integer.bitCount(set));
            for (int t = 0; t < 3; t++) {
                Check.due("FORM of " + t, x.about(t, 6), (set >> t & 1) != 0 ? 1 : 3);
            }
        }
        Check.system(x, "sign a 0 1; sign b 0 1; sign c 0 1;");
        Check.due("count(8) behind a SYSTEM", x.count(8), 0);
        Check.due("FORM of 0 behind a SYSTEM", x.about(0, 6), 3);
    }
}
