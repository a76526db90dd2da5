/** Where the document bounds DICTATION and its NOTES: Terms IV, promises 23 to 25. */
public final class BoundsOfDictationTest {
    private static final int NONE = PenSchool.NONE;
    private static final int RANGE = PenSchool.RANGE;
    private static final int ABSENT = -9;
    private static final int LAST_TICK = 99999;

    private BoundsOfDictationTest() {
    }

    public static void main(String[] args) {
        paces();
        minds();
        whichAnswer();
        noForm();
        spokenAt();
        mindHolds();
        freeAtThatTick();
        fullAtThatTick();
        mindConditions();
        lateConditions();
        termConditions();
        greatestNumbers();
        allConditions();
        firstLine();
        lastCondition();
        anotherPolicy();
        noLine();
        oneTickAtLeast();
        shortOnes();
        shortCosts();
        dropped();
        rested();
        restStaysFirst();
        ends();
        endsInAnyCase();
        lostAtTheEnd();
        takenAsked();
        takenLate();
        noteAsked();
        sixtyNotes();
        Check.finish("BoundsOfDictationTest");
    }

    /** TERM t (0 .. 9) has t + 1 SIGNS and that COST, and comes 100 (t + 1) times; 10 has no FORM. */
    private static PenSchool school() {
        PenSchool x = Check.school("sign a 0 1; length 1;");
        for (int t = 0; t < 10; t++) {
            Check.term(x, "a".repeat(t + 1), 100 * (t + 1));
        }
        Check.term(x, "b", 1);
        return x;
    }

    private static PenSchool school(String policy, int... passage) {
        PenSchool x = school();
        Check.holds(policy, Check.policy(x, policy) >= 0);
        Check.passage(x, passage);
        return x;
    }

    private static void dictate(PenSchool x, int pace, int mind, int end, int... taken) {
        Check.due("dictate(" + pace + ", " + mind + ")", x.dictate(pace, mind), end);
        for (int what = 0; what < taken.length; what++) {
            Check.due("taken(" + what + ")", x.taken(what), taken[what]);
        }
    }

    private static int[] times(int n, int t) {
        int[] row = new int[n];
        java.util.Arrays.fill(row, t);
        return row;
    }

    private static void paces() {
        Check.says("a pace (1 .. 99)");
        PenSchool x = school("", 0, 0, 0);
        for (int pace : new int[] {1, 2, 98, 99}) {
            dictate(x, pace, 3, 2 * pace + 1, 3, 0, 0, 0, 0, 0);
        }
        for (int pace : new int[] {0, 100, -1, Integer.MIN_VALUE, Integer.MAX_VALUE}) {
            Check.due("pace " + pace, x.dictate(pace, 3), RANGE);
            Check.due("the latest stays", x.note(2, 4), 198);
        }
    }

    private static void minds() {
        Check.says("The mind holds at most so many (1 .. 20)");
        PenSchool x = school("", 0, 0, 0);
        for (int mind : new int[] {1, 2, 19, 20}) {
            dictate(x, 5, mind, 11, 3, 0, 0, 0, 0, 0);
        }
        for (int mind : new int[] {0, 21, -1, Integer.MIN_VALUE, Integer.MAX_VALUE}) {
            Check.due("mind " + mind, x.dictate(1, mind), RANGE);
            Check.due("the latest stays", x.note(2, 4), 10);
        }
    }

    private static void whichAnswer() {
        Check.says("RANGE; NONE: a TERM has no FORM; STATE: no TERMS");
        PenSchool x = school();
        Check.due("no TERMS", x.dictate(1, 1), PenSchool.STATE);
        Check.due("RANGE ahead of STATE", x.dictate(0, 1), RANGE);
        Check.due("RANGE ahead of STATE", x.dictate(1, 21), RANGE);
        Check.due("on a new object", new PenSchool().dictate(1, 1), PenSchool.STATE);
        x.say(10);
        Check.due("no FORM", x.dictate(1, 1), NONE);
        Check.due("RANGE ahead of NONE", x.dictate(100, 1), RANGE);
        Check.due("RANGE ahead of NONE", x.dictate(1, 0), RANGE);
        x.clear();
        Check.due("no TERMS any more", x.dictate(1, 1), PenSchool.STATE);
    }

    private static void noForm() {
        int[][] passages = {{10, 0, 0}, {0, 10, 0}, {0, 0, 10}};
        for (int[] passage : passages) {
            PenSchool x = school("when mind above 0 do drop;", passage);
            Check.due("no FORM", x.dictate(1, 1), NONE);
            Check.due("taken(0)", x.taken(0), NONE);
        }
    }

    private static void spokenAt() {
        Check.says("TERM i is spoken at tick i times a pace");
        for (int pace : new int[] {1, 2, 50, 99}) {
            PenSchool x = school("", 0, 0, 0, 0);
            dictate(x, pace, 1, 3 * pace + 1, 4, 0, 0, 0, 0, 0);
            for (int i = 0; i < 4; i++) {
                Check.due("tick of NOTE " + i, x.note(i, 4), i * pace);
            }
        }
    }

    private static void mindHolds() {
        Check.says("one that is spoken when it is full is LOST");
        for (int mind = 1; mind <= 20; mind++) {
            for (int more = mind - 1; more <= mind + 1; more++) {
                PenSchool x = Check.school("sign a 0 3; sign b 0 1; length 9;");
                Check.term(x, "aaaaaaaaaa", 1);
                Check.term(x, "b", 1);
                x.say(0);
                for (int i = 0; i < more; i++) {
                    x.say(1);
                }
                int kept = Math.min(more, mind);
                dictate(x, 1, mind, 270 + 9 * kept, 1 + kept, more - kept, 0, 0);
                Check.due("the last NOTE", x.note(kept, 0), kept);
            }
        }
    }

    private static void freeAtThatTick() {
        Check.says("The writer, free at a tick (one spoken at that tick is in the mind then)");
        PenSchool x = school("", 4, 0);
        dictate(x, 4, 1, 6, 2, 0, 0, 0, 1, 0);
        dictate(x, 5, 1, 6, 2, 0, 0, 0, 0, 0);
        dictate(x, 6, 1, 7, 2, 0, 0, 0, 0, 0);
        PenSchool y = school("when mind is 2 do drop;", 5, 0, 0);
        // At tick 6 the second and the third are in the mind, even if the third is spoken just then.
        dictate(y, 2, 9, 7, 2, 0, 1, 0, 2, 0);
        dictate(y, 3, 9, 7, 2, 0, 1, 0, 0, 0);
        dictate(y, 4, 9, 9, 3, 0, 0, 0, 2, 0);
        Check.policy(y, "when mind is 1 do drop;");
        dictate(y, 3, 9, 6, 0, 0, 3, 0, 0, 0);
    }

    private static void fullAtThatTick() {
        Check.says("one that is spoken when it is full is LOST");
        PenSchool x = school("", 1, 0, 0);
        // The third is spoken as the writer becomes free, but the second still fills the mind.
        dictate(x, 1, 1, 3, 2, 1, 0, 0, 1, 0);
        dictate(x, 1, 2, 4, 3, 0, 0, 0, 1, 0);
        PenSchool y = school("", 2, 0, 0, 0);
        dictate(y, 1, 2, 5, 3, 1, 0, 0, 2, 0);
        Check.due("the last NOTE", y.note(2, 0), 2);
    }

    /** How many of three are dropped that are 9 ticks late, with 3, 2 and 1 in the mind. */
    private static void mindCondition(String relation, int dropped) {
        PenSchool x = school("when late below 9 do rest 9; when mind " + relation + " do drop;", 0, 0, 0);
        x.dictate(1, 3);
        Check.due("dropped when mind " + relation, x.taken(2), dropped);
    }

    private static void mindConditions() {
        Check.says("mind: how many are in it (this one too)");
        int[][] due = {{3, 0, 0}, {2, 0, 1}, {1, 1, 1}, {0, 2, 1}, {0, 3, 0}};
        for (int n = 0; n < due.length; n++) {
            mindCondition("above " + n, due[n][0]);
            mindCondition("below " + n, due[n][1]);
            mindCondition("is " + n, due[n][2]);
        }
    }

    private static void lateConditions() {
        Check.says("late: ticks since it was spoken");
        for (int late = 0; late <= 3; late++) {
            String rest = late == 0 ? "" : "when late below " + late + " do rest " + late + ";";
            for (int n = Math.max(0, late - 1); n <= late + 1; n++) {
                condition(rest, "late", n, late);
            }
        }
    }

    private static void condition(String ahead, String subject, int n, int value) {
        PenSchool x = school("", 4);
        String[] relations = {"above", "below", "is"};
        boolean[] holds = {value > n, value < n, value == n};
        for (int i = 0; i < 3; i++) {
            String line = "when " + subject + " " + relations[i] + " " + n + " do drop;";
            Check.policy(x, ahead + line);
            x.dictate(1, 1);
            Check.due(line + " of " + value, x.taken(2), holds[i] ? 1 : 0);
        }
    }

    private static void termConditions() {
        Check.says("cost, signs: COST and how many SIGNS of its FORM; count: its COUNT");
        int[] values = {5, 5, 500};
        String[] subjects = {"cost", "signs", "count"};
        for (int i = 0; i < 3; i++) {
            for (int n = values[i] - 1; n <= values[i] + 1; n++) {
                condition("", subjects[i], n, values[i]);
            }
            condition("", subjects[i], 0, values[i]);
        }
        PenSchool x = school("when signs is 2 and cost is 2 and count is 500 do drop;", 4);
        dictate(x, 1, 1, 5, 1, 0, 0, 0);
        Check.candidate(x, 4, "AA");
        Check.due("like the OUTLINE of another", x.adopt(1), NONE);
        PenSchool y = Check.school("sign a 0 1; sign b 1 2; length 1;");
        Check.term(y, "aaaaa", 500);
        Check.candidate(y, 0, "B");
        y.adopt(1);
        y.say(0);
        Check.policy(y, "when signs is 1 and cost is 2 and count is 500 do drop;");
        dictate(y, 1, 1, 0, 0, 0, 1, 0);
    }

    private static void greatestNumbers() {
        Check.says("N (digits, as many as there are, 4 at most)");
        PenSchool x = Check.school("sign a 0 1; sign b 0 1; length 1;");
        Check.term(x, "a", 9999);
        x.say(0);
        Check.policy(x, "when count above 9998 do drop;");
        dictate(x, 1, 1, 0, 0, 0, 1);
        Check.policy(x, "when count above 9999 do drop;");
        dictate(x, 1, 1, 1, 1, 0, 0);
        Check.policy(x, "when count is 9999 do drop;");
        dictate(x, 1, 1, 0, 0, 0, 1);
        Check.policy(x, "when count below 9999 do drop;");
        dictate(x, 1, 1, 1, 1, 0, 0);
        Check.policy(x, "when late below 9999 do rest 1; when late is 9999 do drop;");
        dictate(x, 1, 1, 9999, 0, 0, 1, 0, 0, 9999);
        Check.policy(x, "when late above 9999 do drop; when late above 9998 do rest 1; when mind is 1 do rest 9;");
        dictate(x, 1, 1, 10000, 0, 0, 1, 0, 0, 10000);
        Check.policy(x, "when late above 9999 do write; when mind is 1 do rest 50;");
        dictate(x, 1, 1, 10001, 1, 0, 0, 0, 10000, 10000);
    }

    private static void allConditions() {
        Check.says("the first line of the POLICY all COND of which hold");
        String[] holding = {"mind is 1", "late is 0", "cost is 5", "count is 500"};
        for (int wrong = -1; wrong < 4; wrong++) {
            StringBuilder line = new StringBuilder("when ");
            for (int i = 0; i < 4; i++) {
                line.append(i == 0 ? "" : " and ").append(i == wrong ? "signs is 4" : holding[i]);
            }
            PenSchool x = school(line + " do drop;", 4);
            x.dictate(1, 1);
            Check.due("dropped when " + line, x.taken(2), wrong < 0 ? 1 : 0);
        }
    }

    private static void firstLine() {
        StringBuilder text = new StringBuilder();
        for (int i = 1; i <= 8; i++) {
            text.append("when signs is ").append(i).append(" do ").append(i < 7 ? "rest 1" : "drop").append(';');
        }
        PenSchool x = school(text.toString(), 7);
        dictate(x, 1, 1, 0, 0, 0, 1);
        Check.passage(x, 8);
        dictate(x, 1, 1, 9, 1, 0, 0);
        PenSchool y = school("when signs is 3 do short 1; when signs is 3 do short 2;", 2);
        y.dictate(1, 1);
        Check.due("SIGNS by the first of two lines", y.note(0, 1), 1);
    }

    private static void lastCondition() {
        Check.says("at most 8 lines of at most 4 COND");
        String line = "when mind is 9 and mind is 9 and mind is 9 and mind is 9 do write;";
        String last = "when mind is 1 and late is 0 and cost is 5 and count is ";
        PenSchool x = school(line.repeat(7) + last + "500 do drop;", 4);
        dictate(x, 1, 1, 0, 0, 0, 1);
        Check.policy(x, line.repeat(7) + last + "501 do drop;");
        dictate(x, 1, 1, 5, 1, 0, 0);
    }

    private static void anotherPolicy() {
        Check.says("THE TAPE is the POLICY");
        PenSchool x = school("when mind is 1 and mind is 9 and mind is 9 do drop; when mind is 1 do rest 50;", 4);
        for (int turn = 0; turn < 3; turn++) {
            Check.policy(x, "when mind is 1 do drop;");
            dictate(x, 1, 1, 0, 0, 0, 1);
            Check.policy(x, "when mind is 1 and mind is 2 do drop;");
            dictate(x, 1, 1, 5, 1, 0, 0);
        }
        Check.policy(x, "");
        dictate(x, 1, 1, 5, 1, 0, 0);
    }

    private static void noLine() {
        Check.says("without such a line: write");
        PenSchool x = school("", 4);
        dictate(x, 1, 1, 5, 1, 0, 0, 0, 0, 0);
        Check.policy(x, "when signs is 4 do drop; when signs is 6 do drop;");
        dictate(x, 1, 1, 5, 1, 0, 0, 0, 0, 0);
        Check.due("all SIGNS", x.note(0, 3), 1);
    }

    private static void oneTickAtLeast() {
        Check.says("write: it takes COST ticks (1 at least)");
        for (int length = 0; length <= 2; length++) {
            PenSchool x = Check.school("sign a 0 1; length " + length + ";");
            Check.term(x, "a", 1);
            Check.term(x, "aa", 1);
            Check.passage(x, 0, 0);
            dictate(x, 1, 2, 2 * Math.max(1, length), 2, 0, 0, 0);
            Check.policy(x, "when signs is 2 do short 1;");
            Check.passage(x, 1, 1);
            dictate(x, 1, 2, 2 * Math.max(1, length), 2, 0, 0, 2);
        }
    }

    private static void shortOnes() {
        Check.says("short N: the first N SIGNS of the FORM alone (all, if it has fewer)");
        for (int n = 1; n <= 6; n++) {
            PenSchool x = school("when mind above 0 do short " + n + ";");
            for (int t = 0; t < 10; t++) {
                Check.passage(x, t);
                int signs = Math.min(n, t + 1);
                boolean isAll = t + 1 <= n;
                dictate(x, 1, 1, signs, 1, 0, 0, isAll ? 0 : 1);
                Check.due("note(0, 1)", x.note(0, 1), signs);
                Check.due("note(0, 3)", x.note(0, 3), isAll ? 1 : 0);
                Check.due("its last SIGN", x.note(0, 9 + signs), 0);
                Check.due("behind it", x.note(0, 10 + signs), ABSENT);
            }
        }
    }

    private static void shortCosts() {
        Check.says("COST of these ticks (1 at least)");
        int[] due = {2, 2 + 9 + 4, 2 + 9 + 4 + 9 + 6};
        for (int n = 1; n <= 3; n++) {
            PenSchool x = Check.school("sign a 0 1; sign b 3 2; sign c 6 3; turn 3; lift 50; sharp 3; length 2;");
            Check.term(x, "abcba", 1);
            x.say(0);
            Check.policy(x, "when mind is 1 do short " + n + ";");
            dictate(x, 1, 1, due[n - 1], 1, 0, 0, 1);
        }
    }

    private static void dropped() {
        Check.says("drop: it is LOST, without a tick (the next one is taken up at once)");
        PenSchool x = school("when signs is 1 do drop;", times(20, 0));
        dictate(x, 1, 1, 19, 0, 0, 20, 0, 0, 0);
        PenSchool y = school("when signs is 1 do drop;", 9, 0, 0, 0, 0, 0, 0, 0, 1);
        // All that are dropped are so at tick 10, and the last is taken up then.
        dictate(y, 1, 20, 12, 2, 0, 7, 0, 2, 0);
        Check.due("tick of the last", y.note(1, 4), 10);
        Check.due("not LOST because the mind was full", y.taken(1), 0);
    }

    private static void rested() {
        Check.says("rest N: nothing is taken up (it stays first) for N ticks");
        for (int n = 1; n <= 50; n++) {
            PenSchool x = school("when late below " + n + " do rest " + n + ";", 1);
            dictate(x, 1, 1, n + 2, 1, 0, 0, 0, n, n);
            Check.due("tick", x.note(0, 4), n);
        }
        PenSchool x = school("when late below 50 do rest 49;", 1);
        dictate(x, 1, 1, 98 + 2, 1, 0, 0, 0, 98, 98);
    }

    private static void restStaysFirst() {
        PenSchool x = school("when late below 3 do rest 3;", 0, 1, 0);
        // The second is spoken at 1, the third at 2 finds the mind full: the first is still in it.
        dictate(x, 1, 2, 6, 2, 1, 0, 0, 3, 3);
        Check.due("the first", x.note(0, 0), 0);
        Check.due("the second", x.note(1, 0), 1);
        Check.due("its tick", x.note(1, 4), 4);
    }

    private static void ends() {
        Check.says("It ends as nothing is in the mind and all was spoken");
        PenSchool x = school("when signs is 2 do drop;", 0, 0, 1);
        dictate(x, 99, 1, 198, 2, 0, 1);
        Check.passage(x, 0, 0, 0);
        dictate(x, 99, 1, 199, 3, 0, 0);
        Check.passage(x, 1);
        dictate(x, 99, 1, 0, 0, 0, 1);
        // The last finds the mind full, so it ends as what is in it was written.
        Check.passage(x, 4, 4, 4);
        dictate(x, 1, 1, 10, 2, 1, 0);
    }

    private static void endsInAnyCase() {
        Check.says("at tick 99999 in any case");
        for (int n : new int[] {1, 2, 3, 9, 10, 49, 50}) {
            PenSchool x = school("when mind above 0 do rest " + n + ";", 0);
            dictate(x, 1, 1, LAST_TICK, 0, 1, 0, 0, 0, LAST_TICK);
        }
    }

    private static void lostAtTheEnd() {
        Check.says("what is in the mind then, or wasn't spoken, is LOST as if it didn't fit");
        PenSchool x = school("when signs is 2 do rest 50;", 0, 1, 0, 0, 0);
        for (int mind = 1; mind <= 5; mind++) {
            dictate(x, 99, mind, LAST_TICK, 1, 4, 0, 0, 0, LAST_TICK - 99);
        }
        Check.due("the NOTE", x.note(0, 0), 0);
        Check.due("readBack()", x.readBack(), 100);
        Check.due("wrong()", x.wrong(), 4);
        PenSchool y = school("when mind above 0 do rest 7;", times(60, 0));
        dictate(y, 99, 20, LAST_TICK, 0, 60, 0, 0, 0, LAST_TICK);
    }

    private static void takenAsked() {
        Check.says("NONE for others (and ahead of any, or if a SYSTEM came since)");
        PenSchool x = school("", 0);
        for (int what = -1; what <= 6; what++) {
            Check.due("taken(" + what + ") ahead of any", x.taken(what), NONE);
        }
        x.dictate(1, 1);
        int[] due = {1, 0, 0, 0, 0, 0};
        for (int what = 0; what <= 5; what++) {
            Check.due("taken(" + what + ")", x.taken(what), due[what]);
        }
        for (int what : new int[] {-1, 6, 7, Integer.MIN_VALUE, Integer.MAX_VALUE}) {
            Check.due("taken(" + what + ")", x.taken(what), NONE);
        }
        Check.fault(x, "?", true, 1, 0);
        Check.due("taken(0) behind a FAULT", x.taken(0), 1);
        Check.policy(x, "");
        Check.due("taken(0) behind a POLICY", x.taken(0), 1);
        Check.system(x, "sign a 0 1;");
        for (int what = -1; what <= 6; what++) {
            Check.due("taken(" + what + ") behind a SYSTEM", x.taken(what), NONE);
        }
    }

    private static void takenLate() {
        Check.says("the most ticks late at which one was taken up to be NOTED (0)");
        PenSchool x = school("when late above 2 do drop;", 2, 0, 0, 0);
        // The second is 2 late, the third too, the last 2; none is dropped.
        dictate(x, 1, 9, 6, 4, 0, 0, 0, 2, 0);
        Check.passage(x, 4, 0, 0);
        // The second is dropped when it is 4 late, the third when it is 3.
        dictate(x, 1, 9, 5, 1, 0, 2, 0, 0, 0);
        Check.policy(x, "when mind above 0 do drop;");
        dictate(x, 1, 9, 2, 0, 0, 3, 0, 0, 0);
        Check.policy(x, "when late below 5 do rest 5; when mind above 0 do drop;");
        dictate(x, 1, 9, 10, 0, 0, 3, 0, 0, 10);
    }

    private static void noteAsked() {
        Check.says("Of NOTE i of it, what 0: which of the PASSAGE it was, 1: SIGNS, 2: PLACE, 3: 1 if they are all, "
                + "4: the tick at which it was taken up; 10 + k: SIGN k. -9 when there is none such.");
        PenSchool x = school("", 9, 0);
        Check.due("note(0, 0) ahead of any", x.note(0, 0), ABSENT);
        x.dictate(20, 1);
        int[] due = {1, 1, 1, 1, 20};
        for (int what = 0; what <= 4; what++) {
            Check.due("note(1, " + what + ")", x.note(1, what), due[what]);
        }
        for (int i : new int[] {-1, 2, 60, Integer.MIN_VALUE, Integer.MAX_VALUE}) {
            for (int what : new int[] {0, 1, 2, 3, 4, 10}) {
                Check.due("note(" + i + ", " + what + ")", x.note(i, what), ABSENT);
            }
        }
        for (int what : new int[] {-1, 5, 9, 20, Integer.MIN_VALUE, Integer.MAX_VALUE}) {
            Check.due("note(0, " + what + ")", x.note(0, what), ABSENT);
        }
        Check.due("note(0, 19)", x.note(0, 19), 0);
        Check.due("note(1, 11)", x.note(1, 11), ABSENT);
        Check.system(x, "sign a 0 1;");
        Check.due("note(0, 0) behind a SYSTEM", x.note(0, 0), ABSENT);
    }

    private static void sixtyNotes() {
        PenSchool x = school("", times(60, 1));
        dictate(x, 2, 1, 120, 60, 0, 0, 0, 0, 0);
        Check.due("note(59, 0)", x.note(59, 0), 59);
        Check.due("note(59, 4)", x.note(59, 4), 118);
        Check.due("note(60, 0)", x.note(60, 0), ABSENT);
        Check.passage(x, 0);
        x.dictate(1, 1);
        Check.due("note(1, 0) of one", x.note(1, 0), ABSENT);
    }
}
