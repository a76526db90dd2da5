/** Where the document bounds LESSONS: Terms V, promises 30 and 31. */
public final class BoundsOfLessonsTest {
    private static final int NONE = PenSchool.NONE;
    private static final int RANGE = PenSchool.RANGE;

    private BoundsOfLessonsTest() {
    }

    public static void main(String[] args) {
        sets();
        howMany();
        signsThereAre();
        withoutForms();
        notOfTheSet();
        allOfTheForm();
        mostGain();
        leastRow();
        greatestGain();
        lessonAsked();
        lessonUntil();
        Check.finish("BoundsOfLessonsTest");
    }

    private static void order(PenSchool x, int set, int gain, int... signs) {
        Check.due("lessons(" + set + ")", x.lessons(set), gain);
        for (int i = 0; i < signs.length; i++) {
            Check.due("lesson(" + i + ")", x.lesson(i), signs[i]);
        }
        Check.due("lesson(" + signs.length + ")", x.lesson(signs.length), NONE);
    }

    private static void sets() {
        Check.says("RANGE: no such set (1 .. 10 of them)");
        PenSchool x = Check.school(Check.manySigns(30));
        for (int set : new int[] {0, -1, Integer.MIN_VALUE, 1 << 30, 1 << 30 | 1, Integer.MAX_VALUE, Integer.MIN_VALUE | 1}) {
            Check.due("lessons(" + set + ")", x.lessons(set), RANGE);
        }
        Check.due("lesson(0)", x.lesson(0), NONE);
        for (int s = 0; s < 30; s++) {
            order(x, 1 << s, 0, s);
        }
    }

    private static void howMany() {
        PenSchool x = Check.school(Check.manySigns(30));
        for (int n = 1; n <= 10; n++) {
            Check.due(n + " SIGNS", x.lessons((1 << n) - 1), 0);
            Check.due("the last lesson", x.lesson(n - 1), n - 1);
            Check.due("behind it", x.lesson(n), NONE);
            Check.due(n + " SIGNS up to the last", x.lessons((1 << n) - 1 << 30 - n), 0);
            Check.due("the last lesson", x.lesson(n - 1), 29);
        }
        for (int n = 11; n <= 30; n++) {
            Check.due(n + " SIGNS", x.lessons((1 << n) - 1), RANGE);
        }
        Check.due("eleven apart", x.lessons(0x155555), RANGE);
        Check.due("ten apart", x.lessons(0x055555), 0);
    }

    private static void signsThereAre() {
        Check.due("without SIGNS", new PenSchool().lessons(1), RANGE);
        for (int n = 1; n <= 29; n++) {
            PenSchool x = Check.school(Check.manySigns(n));
            order(x, 1 << n - 1, 0, n - 1);
            Check.due("a SIGN too many of " + n, x.lessons(1 << n), RANGE);
            Check.due("with one that is", x.lessons(1 << n | 1), RANGE);
            Check.due("lesson(0) stays", x.lesson(0), n - 1);
        }
    }

    private static void withoutForms() {
        Check.says("if all SIGNS of its FORM (one at least) were taught or aren't of the set");
        PenSchool x = Check.school("vowels e; drop all; sign a 0 1; sign b 0 1;");
        Check.term(x, "p", 1000);
        Check.term(x, "e", 1000);
        order(x, 3, 0, 0, 1);
        Check.term(x, "b", 1);
        order(x, 3, 2, 1, 0);
    }

    private static void notOfTheSet() {
        PenSchool x = Check.school("sign a 0 1; sign b 0 1; sign c 0 1;");
        Check.term(x, "a", 1);
        Check.term(x, "ab", 10);
        Check.term(x, "abc", 100);
        order(x, 1, 111, 0);
        order(x, 2, 111, 1);
        order(x, 4, 111, 2);
        order(x, 6, 11 + 111, 1, 2);
        order(x, 7, 1 + 11 + 111, 0, 1, 2);
    }

    private static void allOfTheForm() {
        PenSchool x = Check.school("sign a 0 1; sign b 1 1; sign c 2 1; length 1;");
        Check.term(x, "aba", 10);
        Check.candidate(x, 0, "C");
        order(x, 7, 10 + 10, 0, 1, 2);
        Check.due("adopt", x.adopt(1), 1);
        order(x, 7, 10 + 10 + 10, 2, 0, 1);
    }

    private static void mostGain() {
        Check.says("BEST: the most GAIN");
        PenSchool x = Check.school("sign a 0 1; sign b 1 1; sign c 2 1;");
        Check.term(x, "a", 4);
        Check.term(x, "bc", 9);
        // a, b, c: 4 + 4 + 13. b, c, a: 0 + 9 + 13.
        order(x, 7, 22, 1, 2, 0);
        Check.term(x, "aa", 1);
        order(x, 7, 5 + 5 + 14, 0, 1, 2);
    }

    private static void leastRow() {
        Check.says("then the least row");
        PenSchool x = Check.school("sign a 0 1; sign b 1 1; sign c 2 1;");
        order(x, 7, 0, 0, 1, 2);
        Check.term(x, "c", 3);
        order(x, 7, 9, 2, 0, 1);
        Check.term(x, "b", 3);
        order(x, 7, 3 + 6 + 6, 1, 2, 0);
        Check.term(x, "a", 3);
        order(x, 7, 3 + 6 + 9, 0, 1, 2);
    }

    private static void greatestGain() {
        PenSchool x = Check.school(Check.manySigns(30));
        for (int t = 0; t < 60; t++) {
            Check.term(x, t < 30 ? Check.pair(t) : Check.pair(t - 30) + Check.pair(t - 30), 9999);
        }
        Check.due("of SIGNS that all TERMS but two are without", x.lessons(1 << 29), 60 * 9999);
        int sum = 0;
        for (int n = 1; n <= 10; n++) {
            sum += (60 - 2 * (10 - n)) * 9999;
        }
        Check.due("of ten SIGNS", x.lessons(0x3ff << 20), sum);
        Check.due("the first", x.lesson(0), 20);
        Check.due("the last", x.lesson(9), 29);
    }

    private static void lessonAsked() {
        Check.says("The SIGN of lesson i by the latest lessons() that told a GAIN");
        PenSchool x = Check.school("sign a 0 1; sign b 1 1;");
        for (int i : new int[] {-1, 0, 1}) {
            Check.due("lesson(" + i + ") ahead of any", x.lesson(i), NONE);
        }
        order(x, 3, 0, 0, 1);
        for (int i : new int[] {-1, 2, 10, Integer.MIN_VALUE, Integer.MAX_VALUE}) {
            Check.due("lesson(" + i + ")", x.lesson(i), NONE);
        }
        for (int set : new int[] {0, 4, -1}) {
            Check.due("lessons(" + set + ")", x.lessons(set), RANGE);
            Check.due("lesson(1) stays", x.lesson(1), 1);
        }
        order(x, 2, 0, 1);
    }

    private static void lessonUntil() {
        Check.says("as long as no SYSTEM came; NONE");
        PenSchool x = Check.school("sign a 0 1; sign b 1 1;");
        x.lessons(3);
        Check.term(x, "b", 9);
        Check.candidate(x, 0, "A");
        x.adopt(1);
        Check.policy(x, "");
        Check.fault(x, "turn 10;", true, 2, 5);
        Check.due("lesson(0) stays", x.lesson(0), 0);
        Check.due("lesson(1) stays", x.lesson(1), 1);
        Check.system(x, "sign a 0 1; sign b 1 1;");
        Check.due("lesson(0) behind a SYSTEM", x.lesson(0), NONE);
        order(x, 3, 18, 1, 0);
    }
}
