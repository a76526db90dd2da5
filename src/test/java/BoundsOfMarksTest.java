/** Where the document bounds MARKS and GRADES, and count: Terms V, promises 32 to 35. */
public final class BoundsOfMarksTest {
    private static final int NONE = PenSchool.NONE;
    private static final int RANGE = PenSchool.RANGE;
    private static final int FULL = PenSchool.FULL;

    private BoundsOfMarksTest() {
    }

    public static void main(String[] args) {
        pupils();
        days();
        words();
        wrongOnes();
        daysOfTelling();
        neverFall();
        refusedTellsNoDay();
        hundredMarks();
        hundredTimesRight();
        howOften();
        rightAsked();
        notBelowZero();
        latestDay();
        greatestNumber();
        knownThen();
        rightByThen();
        none();
        gradeAsked();
        counts();
        countAsked();
        Check.finish("BoundsOfMarksTest");
    }

    private static int[] outside(int most) {
        return new int[] {-1, most + 1, Integer.MIN_VALUE, Integer.MAX_VALUE};
    }

    private static void pupils() {
        Check.says("PUPILS 0 .. 19");
        PenSchool x = new PenSchool();
        for (int p = 0; p <= 19; p++) {
            Check.due("mark of " + p, x.mark(p, 1, p + 1, 0, 0), p);
            Check.due("grade of " + p, x.grade(p, 1, 0), p + 1);
        }
        for (int p : outside(19)) {
            Check.due("mark of " + p, x.mark(p, 1, 1, 0, 0), RANGE);
            Check.due("grade of " + p, x.grade(p, 1, 0), RANGE);
        }
        Check.due("count(4)", x.count(4), 20);
    }

    private static void days() {
        Check.says("on a day (0 .. 999)");
        PenSchool x = new PenSchool();
        Check.due("day 999", x.mark(0, 999, 2, 0, 0), 0);
        Check.due("day 0", x.mark(0, 0, 1, 0, 0), 1);
        for (int day : outside(999)) {
            Check.due("mark on " + day, x.mark(0, day, 3, 0, 0), RANGE);
            Check.due("grade on " + day, x.grade(0, day, 0), RANGE);
        }
        Check.due("grade on 0", x.grade(0, 0, 0), 1);
        Check.due("grade on 998", x.grade(0, 998, 0), 1);
        Check.due("grade on 999", x.grade(0, 999, 0), 2);
    }

    private static void words() {
        Check.says("words a minute (0 .. 300)");
        PenSchool x = new PenSchool();
        Check.due("0", x.mark(0, 0, 0, 0, 0), 0);
        Check.due("300", x.mark(1, 0, 300, 0, 0), 1);
        for (int n : outside(300)) {
            Check.due("mark of " + n, x.mark(0, 0, n, 0, 0), RANGE);
            Check.due("right of " + n, x.right(0, n, 0, 0), RANGE);
        }
        Check.due("grade of 0", x.grade(0, 0, 0), 0);
        Check.due("grade of 300", x.grade(1, 0, 0), 300);
        Check.due("right to 300", x.right(0, 300, 0, 0), 1);
        Check.due("right to 0", x.right(1, 0, 0, 0), 1);
        Check.due("grade of 300", x.grade(0, 0, 0), 300);
        Check.due("grade of 0", x.grade(1, 0, 0), 0);
    }

    private static void wrongOnes() {
        Check.says("WRONG ones (0 .. 300)");
        PenSchool x = new PenSchool();
        Check.due("0", x.mark(0, 0, 300, 0, 0), 0);
        Check.due("300", x.mark(1, 0, 300, 300, 0), 1);
        for (int n : outside(300)) {
            Check.due("mark with " + n, x.mark(0, 0, 300, n, 0), RANGE);
            Check.due("right with " + n, x.right(0, 300, n, 0), RANGE);
        }
        Check.due("grade with 0", x.grade(0, 0, 0), 300);
        Check.due("grade with 300", x.grade(1, 0, 0), 0);
        Check.due("right to 300", x.right(0, 300, 300, 0), 1);
        Check.due("right to 0", x.right(1, 300, 0, 0), 1);
        Check.due("grade with 300", x.grade(0, 0, 0), 0);
        Check.due("grade with 0", x.grade(1, 0, 0), 300);
    }

    private static void daysOfTelling() {
        Check.says("told on a day of telling (0 .. 999; not below the latest)");
        PenSchool x = new PenSchool();
        for (int told : outside(999)) {
            Check.due("mark told " + told, x.mark(0, 0, 1, 0, told), RANGE);
        }
        Check.due("mark told 0", x.mark(0, 0, 1, 0, 0), 0);
        for (int told : outside(999)) {
            Check.due("right told " + told, x.right(0, 1, 0, told), RANGE);
            Check.due("grade known " + told, x.grade(0, 0, told), RANGE);
        }
        Check.due("right told 0", x.right(0, 2, 0, 0), 1);
        Check.due("mark told 999", x.mark(0, 0, 3, 0, 999), 1);
        Check.due("right told 999", x.right(1, 4, 0, 999), 1);
        Check.due("known on 0", x.grade(0, 0, 0), 2);
        Check.due("known on 998", x.grade(0, 0, 998), 2);
        Check.due("known on 999", x.grade(0, 0, 999), 4);
    }

    private static void neverFall() {
        Check.says("days of telling never fall");
        PenSchool x = new PenSchool();
        Check.due("mark told 5", x.mark(0, 0, 1, 0, 5), 0);
        Check.due("mark told 4", x.mark(0, 0, 1, 0, 4), RANGE);
        Check.due("right told 4", x.right(0, 1, 0, 4), RANGE);
        Check.due("right told 5", x.right(0, 1, 0, 5), 1);
        Check.due("right told 7", x.right(0, 1, 0, 7), 2);
        Check.due("right told 6", x.right(0, 1, 0, 6), RANGE);
        Check.due("mark told 6", x.mark(0, 0, 1, 0, 6), RANGE);
        Check.due("mark told 7", x.mark(0, 0, 1, 0, 7), 1);
        Check.due("right told 7", x.right(1, 1, 0, 7), 1);
        Check.due("count(4)", x.count(4), 2);
        Check.due("count(5)", x.count(5), 3);
    }

    private static void refusedTellsNoDay() {
        PenSchool x = new PenSchool();
        x.mark(20, 0, 0, 0, 900);
        x.mark(0, 1000, 0, 0, 900);
        x.mark(0, 0, 301, 0, 900);
        x.mark(0, 0, 0, 301, 900);
        x.right(0, 0, 0, 900);
        x.grade(0, 0, 900);
        Check.due("mark told 0 behind refused ones", x.mark(0, 0, 0, 0, 0), 0);
        x.right(1, 0, 0, 900);
        x.right(0, 301, 0, 900);
        x.right(0, 0, 301, 900);
        x.grade(0, 0, 900);
        Check.due("right told 0 behind refused ones", x.right(0, 0, 0, 0), 1);
    }

    private static void hundredMarks() {
        Check.says("MARKS, at most 100");
        PenSchool x = new PenSchool();
        for (int k = 0; k < 100; k++) {
            Check.due("mark " + k, x.mark(k % 20, k, k, 0, 3), k);
        }
        Check.due("the 101st", x.mark(0, 0, 0, 0, 3), FULL);
        Check.due("the 101st on a later day", x.mark(0, 999, 0, 0, 9), FULL);
        Check.due("RANGE ahead of FULL", x.mark(20, 0, 0, 0, 3), RANGE);
        Check.due("RANGE ahead of FULL, told earlier", x.mark(0, 0, 0, 0, 2), RANGE);
        Check.due("count(4)", x.count(4), 100);
        Check.due("grade of the last", x.grade(19, 999, 3), 99);
        Check.due("grade of 0", x.grade(0, 999, 9), 80);
        Check.due("one without room told no day", x.right(99, 300, 0, 3), 1);
        Check.due("right of the 101st", x.right(100, 0, 0, 3), RANGE);
        Check.due("grade of the last, put right", x.grade(19, 999, 3), 300);
    }

    private static void hundredTimesRight() {
        Check.says("FULL: the 101st in all");
        PenSchool x = new PenSchool();
        x.mark(0, 0, 0, 0, 0);
        x.mark(1, 0, 0, 0, 0);
        for (int n = 1; n <= 50; n++) {
            Check.due("right of 0", x.right(0, n, 0, 3), n);
            Check.due("right of 1", x.right(1, n + 100, 0, 3), n);
        }
        Check.due("the 101st", x.right(0, 300, 0, 3), FULL);
        Check.due("the 101st of another, on a later day", x.right(1, 300, 0, 9), FULL);
        Check.due("RANGE ahead of FULL", x.right(2, 0, 0, 3), RANGE);
        Check.due("RANGE ahead of FULL, told earlier", x.right(0, 0, 0, 2), RANGE);
        Check.due("count(5)", x.count(5), 100);
        Check.due("grade of 0", x.grade(0, 0, 999), 50);
        Check.due("grade of 1", x.grade(1, 0, 999), 150);
        Check.due("one without room told no day", x.mark(2, 0, 7, 0, 3), 2);
    }

    private static void howOften() {
        Check.says("A MARK is put RIGHT on a day of telling: how often it was");
        PenSchool x = new PenSchool();
        for (int k = 0; k < 3; k++) {
            x.mark(0, 0, 0, 0, 0);
        }
        int[] marks = {0, 2, 0, 1, 0, 2};
        int[] due = {1, 1, 2, 1, 3, 2};
        for (int i = 0; i < marks.length; i++) {
            Check.due("right of " + marks[i], x.right(marks[i], 0, 0, i), due[i]);
        }
        Check.due("count(5)", x.count(5), 6);
    }

    private static void rightAsked() {
        Check.says("its number; RANGE; FULL");
        PenSchool x = new PenSchool();
        for (int k : new int[] {-1, 0, 1, 99, 100, Integer.MIN_VALUE, Integer.MAX_VALUE}) {
            Check.due("right of " + k + ", without MARKS", x.right(k, 0, 0, 0), RANGE);
        }
        x.mark(0, 0, 0, 0, 0);
        x.mark(0, 0, 0, 0, 0);
        for (int k : new int[] {-1, 2, 99, 100, Integer.MIN_VALUE, Integer.MAX_VALUE}) {
            Check.due("right of " + k, x.right(k, 0, 0, 0), RANGE);
        }
        Check.due("right of 1", x.right(1, 0, 0, 0), 1);
        Check.due("count(5)", x.count(5), 1);
    }

    private static void notBelowZero() {
        Check.says("the words a minute less four times WRONG ones, not below 0");
        PenSchool x = new PenSchool();
        int[][] due = {{100, 24, 4}, {100, 25, 0}, {99, 25, 0}, {101, 25, 1}, {0, 0, 0}, {0, 300, 0}, {300, 0, 300},
            {300, 75, 0}, {300, 74, 4}, {1, 0, 1}, {3, 1, 0}, {4, 1, 0}, {5, 1, 1}};
        for (int i = 0; i < due.length; i++) {
            x.mark(i, 0, due[i][0], due[i][1], 0);
            Check.due("grade of " + due[i][0] + " and " + due[i][1], x.grade(i, 0, 0), due[i][2]);
        }
    }

    private static void latestDay() {
        Check.says("of the MARK known then with the latest day not behind it");
        PenSchool x = new PenSchool();
        int[] days = {50, 10, 30};
        for (int day : days) {
            x.mark(0, day, day, 0, 0);
        }
        x.mark(1, 40, 99, 0, 0);
        int[][] due = {{0, NONE}, {9, NONE}, {10, 10}, {11, 10}, {29, 10}, {30, 30}, {49, 30}, {50, 50}, {999, 50}};
        for (int[] d : due) {
            Check.due("grade on " + d[0], x.grade(0, d[0], 0), d[1]);
        }
    }

    private static void greatestNumber() {
        Check.says("(of one day the greatest number)");
        PenSchool x = new PenSchool();
        x.mark(0, 5, 100, 0, 0);
        x.mark(0, 5, 20, 0, 0);
        Check.due("the second", x.grade(0, 5, 0), 20);
        x.mark(0, 4, 50, 0, 0);
        Check.due("still the second", x.grade(0, 5, 0), 20);
        x.right(0, 200, 0, 1);
        Check.due("though the first was put right", x.grade(0, 5, 1), 20);
        x.mark(0, 5, 10, 0, 2);
        Check.due("the fourth", x.grade(0, 5, 2), 10);
        Check.due("as known ahead of it", x.grade(0, 5, 1), 20);
    }

    private static void knownThen() {
        Check.says("as known on a day of telling");
        PenSchool x = new PenSchool();
        x.mark(0, 900, 1, 0, 10);
        x.mark(0, 100, 2, 0, 20);
        Check.due("known on 9", x.grade(0, 999, 9), NONE);
        Check.due("known on 10", x.grade(0, 999, 10), 1);
        Check.due("day 100 known on 19", x.grade(0, 100, 19), NONE);
        Check.due("day 100 known on 20", x.grade(0, 100, 20), 2);
        Check.due("day 99 known on 20", x.grade(0, 99, 20), NONE);
        Check.due("day 899 known on 999", x.grade(0, 899, 999), 2);
    }

    private static void rightByThen() {
        Check.says("as put RIGHT latest by then");
        PenSchool x = new PenSchool();
        x.mark(0, 0, 1, 0, 10);
        x.right(0, 2, 0, 10);
        x.right(0, 3, 0, 20);
        x.right(0, 4, 0, 20);
        x.right(0, 5, 0, 30);
        int[][] due = {{9, NONE}, {10, 2}, {19, 2}, {20, 4}, {29, 4}, {30, 5}, {999, 5}};
        for (int[] d : due) {
            Check.due("known on " + d[0], x.grade(0, 0, d[0]), d[1]);
        }
    }

    private static void none() {
        Check.says("NONE without");
        PenSchool x = new PenSchool();
        Check.due("on a new object", x.grade(0, 999, 999), NONE);
        x.mark(0, 0, 0, 0, 0);
        Check.due("of another PUPIL", x.grade(1, 999, 999), NONE);
        Check.due("of 0 words", x.grade(0, 999, 999), 0);
    }

    private static void gradeAsked() {
        Check.says("GRADE; NONE; RANGE.");
        PenSchool x = new PenSchool();
        for (int n : outside(999)) {
            Check.due("RANGE ahead of NONE, day", x.grade(0, n, 0), RANGE);
            Check.due("RANGE ahead of NONE, known", x.grade(0, 0, n), RANGE);
        }
        for (int p : outside(19)) {
            Check.due("RANGE ahead of NONE, PUPIL", x.grade(p, 0, 0), RANGE);
        }
        x.mark(0, 0, 8, 1, 0);
        Check.due("a day of telling that is still to come", x.grade(0, 999, 999), 4);
    }

    private static void counts() {
        Check.says("What 0: TERMS, 1: CANDIDATES, 2: TERMS of the PASSAGE, 3: lines of the POLICY, 4: MARKS, "
                + "5: puttings right, 6: bytes of THE TAPE, 7: TERMS with a FORM, 8: ADOPTED ones.");
        PenSchool x = Check.school("sign a 0 1; sign b 1 1; sign c 2 1;");
        for (String row : new String[] {"aa", "bb", "cc", "p", "o", "n"}) {
            Check.term(x, row, 1);
        }
        for (int i = 0; i < 4; i++) {
            Check.candidate(x, i % 3, "" + (char) ('A' + i % 3));
        }
        Check.due("adopt", x.adopt(3), 2);
        Check.passage(x, 0, 0, 0, 0, 0);
        Check.policy(x, "when mind is 9 do drop;".repeat(7));
        for (int k = 0; k < 8; k++) {
            x.mark(0, 0, 0, 0, 0);
        }
        for (int n = 0; n < 9; n++) {
            x.right(n % 8, 0, 0, 0);
        }
        x.feed(0, 0, 0, 0, 0);
        x.end(11);
        int[] due = {6, 4, 5, 7, 8, 9, 11, 3, 2};
        for (int what = 0; what < due.length; what++) {
            Check.due("count(" + what + ")", x.count(what), due[what]);
        }
    }

    private static void countAsked() {
        Check.says("NONE for others");
        PenSchool x = new PenSchool();
        for (int what : new int[] {-1, 9, 10, Integer.MIN_VALUE, Integer.MAX_VALUE}) {
            Check.due("count(" + what + ")", x.count(what), NONE);
        }
        for (int what = 0; what <= 8; what++) {
            Check.due("count(" + what + ")", x.count(what), 0);
        }
    }
}
