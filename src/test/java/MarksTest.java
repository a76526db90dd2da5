/** Promises 32 to 35: MARKS, how they are put RIGHT, GRADES; and count. */
public final class MarksTest {
    private static final int RANGE = PenSchool.RANGE;

    private MarksTest() {
    }

    public static void main(String[] args) {
        ranges();
        rooms();
        grades();
        knownThen();
        counts();
        Check.finish("MarksTest");
    }

    private static void ranges() {
        PenSchool x = new PenSchool();
        int[][] wrong = {{-1, 0, 0, 0, 0}, {20, 0, 0, 0, 0}, {0, -1, 0, 0, 0}, {0, 1000, 0, 0, 0}, {0, 0, -1, 0, 0},
            {0, 0, 301, 0, 0}, {0, 0, 0, -1, 0}, {0, 0, 0, 301, 0}, {0, 0, 0, 0, -1}, {0, 0, 0, 0, 1000}};
        for (int[] m : wrong) {
            Check.due("mark of " + java.util.Arrays.toString(m), x.mark(m[0], m[1], m[2], m[3], m[4]), RANGE);
        }
        Check.due("right of none", x.right(0, 0, 0, 0), RANGE);
        Check.due("least", x.mark(0, 0, 0, 0, 0), 0);
        Check.due("told 5", x.mark(19, 999, 300, 300, 5), 1);
        Check.due("told 4", x.mark(0, 0, 0, 0, 4), RANGE);
        Check.due("right, told 4", x.right(0, 0, 0, 4), RANGE);
        Check.due("right -1", x.right(-1, 0, 0, 5), RANGE);
        Check.due("right 2", x.right(2, 0, 0, 5), RANGE);
        Check.due("right words", x.right(0, 301, 0, 5), RANGE);
        Check.due("right words below", x.right(0, -1, 0, 5), RANGE);
        Check.due("right wrong", x.right(0, 0, 301, 5), RANGE);
        Check.due("right wrong below", x.right(0, 0, -1, 5), RANGE);
        Check.due("right told 1000", x.right(0, 0, 0, 1000), RANGE);
        Check.due("right", x.right(0, 300, 0, 999), 1);
        Check.due("mark, told below the righting", x.mark(0, 0, 0, 0, 998), RANGE);
        Check.due("mark", x.mark(0, 0, 0, 0, 999), 2);
        int[][] grades = {{-1, 0, 0}, {20, 0, 0}, {0, -1, 0}, {0, 1000, 0}, {0, 0, -1}, {0, 0, 1000}};
        for (int[] g : grades) {
            Check.due("grade of " + java.util.Arrays.toString(g), x.grade(g[0], g[1], g[2]), RANGE);
        }
        Check.due("grade(19, 999, 999)", x.grade(19, 999, 999), 0);
        Check.due("grade(1, 999, 999)", x.grade(1, 999, 999), PenSchool.NONE);
    }

    private static void rooms() {
        PenSchool x = new PenSchool();
        for (int k = 0; k < 100; k++) {
            Check.due("mark " + k, x.mark(k % 20, k, 100, 0, 1), k);
        }
        Check.due("the 101st", x.mark(0, 0, 0, 0, 9), PenSchool.FULL);
        Check.due("the 101st, no pupil", x.mark(20, 0, 0, 0, 9), RANGE);
        // One that found no room was not told.
        Check.due("right, told 1", x.right(99, 5, 0, 1), 1);
        for (int n = 2; n <= 100; n++) {
            Check.due("right " + n, x.right(99, n, 0, 1), n);
        }
        Check.due("the 101st righting", x.right(99, 7, 0, 9), PenSchool.FULL);
        Check.due("the 101st righting of another", x.right(0, 7, 0, 1), PenSchool.FULL);
        Check.due("the 101st righting, no mark", x.right(100, 7, 0, 1), RANGE);
        Check.due("grade", x.grade(19, 99, 1), 100);
        Check.due("count(5)", x.count(5), 100);
        Check.due("count(4)", x.count(4), 100);
    }

    private static void grades() {
        PenSchool x = new PenSchool();
        x.mark(3, 50, 120, 5, 0);
        x.mark(3, 40, 99, 25, 0);
        x.mark(3, 60, 100, 25, 0);
        x.mark(3, 70, 101, 25, 0);
        x.mark(4, 55, 7, 0, 0);
        Check.due("ahead of all", x.grade(3, 39, 0), PenSchool.NONE);
        Check.due("below 0", x.grade(3, 40, 0), 0);
        Check.due("the latest day not behind it", x.grade(3, 59, 0), 100);
        Check.due("just 0", x.grade(3, 60, 0), 0);
        Check.due("just above", x.grade(3, 999, 0), 1);
        Check.due("another pupil", x.grade(4, 999, 0), 7);
        x.mark(3, 50, 60, 0, 0);
        Check.due("of one day the greatest number", x.grade(3, 59, 0), 60);
        x.right(0, 300, 0, 0);
        Check.due("though that was put right later", x.grade(3, 59, 0), 60);
    }

    private static void knownThen() {
        PenSchool x = new PenSchool();
        x.mark(0, 10, 100, 0, 20);
        x.mark(0, 8, 90, 0, 30);
        x.right(0, 110, 0, 40);
        x.right(1, 95, 0, 40);
        x.right(0, 120, 0, 40);
        x.right(0, 130, 1, 50);
        x.mark(0, 12, 5, 0, 60);
        int[][] due = {{19, PenSchool.NONE}, {20, 100}, {39, 100}, {40, 120}, {49, 120}, {50, 126}, {59, 126}, {60, 5}};
        for (int[] d : due) {
            Check.due("grade known on " + d[0], x.grade(0, 20, d[0]), d[1]);
        }
        Check.due("day 9 known on 29", x.grade(0, 9, 29), PenSchool.NONE);
        Check.due("day 9 known on 30", x.grade(0, 9, 30), 90);
        Check.due("day 9 known on 60", x.grade(0, 9, 60), 95);
        Check.due("day 11 known on 999", x.grade(0, 11, 999), 126);
    }

    private static void counts() {
        PenSchool x = Check.school("sign a 0 1; sign b 0 2;");
        Check.term(x, "a", 1);
        Check.term(x, "ab", 1);
        Check.term(x, "c", 1);
        Check.candidate(x, 1, "B");
        Check.candidate(x, 1, "BB");
        x.adopt(1);
        Check.passage(x, 0, 0, 0, 0);
        Check.policy(x, "when mind is 1 do drop; when mind is 2 do drop; when mind is 3 do drop;"
                + "when mind is 3 do drop; when mind is 3 do drop;");
        for (int k = 0; k < 6; k++) {
            x.mark(0, 0, 0, 0, 0);
        }
        for (int k = 0; k < 7; k++) {
            x.right(0, 0, 0, 0);
        }
        x.feed(0, 0, 0, 0, 0);
        x.end(8);
        int[] due = {3, 2, 4, 5, 6, 7, 8, 2, 1};
        for (int what = 0; what < due.length; what++) {
            Check.due("count(" + what + ")", x.count(what), due[what]);
        }
        Check.due("count(9)", x.count(9), PenSchool.NONE);
        Check.due("count(-1)", x.count(-1), PenSchool.NONE);
    }
}
