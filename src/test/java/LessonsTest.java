/** Promises 30 and 31: LESSONS. */
public final class LessonsTest {
    private LessonsTest() {
    }

    public static void main(String[] args) {
        ranges();
        ordinary();
        ties();
        byForms();
        ten();
        Check.finish("LessonsTest");
    }

    private static PenSchool school() {
        PenSchool x = Check.school("sign a 0 1; sign b 1 1; sign c 2 1; sign d 3 1;");
        Check.term(x, "a", 1);
        Check.term(x, "bc", 10);
        Check.term(x, "cd", 7);
        Check.term(x, "d", 4);
        Check.term(x, "p", 1000);
        return x;
    }

    private static void order(PenSchool x, int set, int gain, int... signs) {
        Check.due("lessons(" + set + ")", x.lessons(set), gain);
        for (int i = 0; i < signs.length; i++) {
            Check.due("lesson(" + i + ") of " + set, x.lesson(i), signs[i]);
        }
        Check.due("lesson behind the last of " + set, x.lesson(signs.length), PenSchool.NONE);
        Check.due("lesson(-1)", x.lesson(-1), PenSchool.NONE);
    }

    private static void ranges() {
        PenSchool x = school();
        Check.due("lesson(0) ahead of any", x.lesson(0), PenSchool.NONE);
        for (int set : new int[] {0, -1, 16, 17, 1 << 30, Integer.MIN_VALUE}) {
            Check.due("lessons(" + set + ")", x.lessons(set), PenSchool.RANGE);
        }
        order(x, 8, 22, 3);
        Check.due("RANGE", x.lessons(16), PenSchool.RANGE);
        Check.due("the latest that told a gain", x.lesson(0), 3);
        Check.fault(x, "?", true, 1, 0);
        Check.due("with a FAULT too", x.lesson(0), 3);
        Check.system(x, "sign a 0 1;");
        Check.due("not behind a system", x.lesson(0), PenSchool.NONE);
    }

    private static void ordinary() {
        PenSchool x = school();
        // d: 4; c: 4 + 7; b: 4 + 7 + 10; a: 22. Or b, c: 0, 10, then d: 21.
        order(x, 15, 4 + 11 + 21 + 22, 3, 2, 1, 0);
        // What isn't of the set is known already.
        order(x, 6, 5 + 7 + 22, 2, 1);
        order(x, 1, 22, 0);
        order(x, 9, 21 + 22, 3, 0);
    }

    private static void ties() {
        PenSchool x = Check.school("sign a 0 1; sign b 1 1; sign c 2 1;");
        order(x, 7, 0, 0, 1, 2);
        Check.term(x, "b", 5);
        Check.term(x, "c", 5);
        order(x, 7, 5 + 10 + 10, 1, 2, 0);
        Check.term(x, "a", 5);
        order(x, 7, 5 + 10 + 15, 0, 1, 2);
        order(x, 6, 10 + 15, 1, 2);
    }

    private static void byForms() {
        PenSchool x = school();
        Check.candidate(x, 1, "CC");
        Check.due("adopt", x.adopt(1), 1);
        order(x, 6, 22 + 22, 2, 1);
    }

    private static void ten() {
        PenSchool x = Check.school(Check.manySigns(30));
        int gain = 0;
        // SIGN 20 + i is best taught as number 9 - i.
        for (int i = 0; i < 10; i++) {
            Check.term(x, Check.pair(20 + i), 100 * (i + 1));
            gain += 100 * (i + 1) * (i + 1);
        }
        order(x, 0x3ff << 20, gain, 29, 28, 27, 26, 25, 24, 23, 22, 21, 20);
        Check.due("eleven", x.lessons(0x7ff << 19), PenSchool.RANGE);
        Check.due("beyond the last", x.lessons(0x3ff << 21), PenSchool.RANGE);
        order(x, 1 << 29 | 1, 5500 + 5500, 29, 0);
    }
}
