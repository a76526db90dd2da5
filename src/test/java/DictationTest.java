/** Promises 23 to 29: DICTATION, NOTES, READ BACK and WRONG. */
public final class DictationTest {
    private static final int NONE = PenSchool.NONE;
    private static final int RANGE = PenSchool.RANGE;

    private DictationTest() {
    }

    public static void main(String[] args) {
        wrongInputs();
        mindIsFull();
        spokenAtTheSameTick();
        conditions();
        firstLineCounts();
        drops();
        shorts();
        rests();
        restForGood();
        longRestEnds();
        freeOfCost();
        latestCounts();
        reads();
        readBack();
        readBackTies();
        readBackFails();
        wrong();
        Check.finish("DictationTest");
    }

    /** Of TERM t (a row of t + 1 SIGNS, all to the east) the COST is t + 1. */
    private static PenSchool school() {
        PenSchool x = Check.school("sign a 0 1; sign b 0 1; length 1; turn 1;");
        Check.term(x, "a", 4);
        Check.term(x, "aa", 3);
        Check.term(x, "aaa", 2);
        Check.term(x, "aaaa", 1);
        Check.term(x, "c", 1);
        return x;
    }

    private static void taken(PenSchool x, int... want) {
        for (int what = 0; what < want.length; what++) {
            Check.due("taken(" + what + ")", x.taken(what), want[what]);
        }
    }

    private static void note(PenSchool x, int i, int spot, int signs, int all, int tick) {
        Check.due("note(" + i + ", 0)", x.note(i, 0), spot);
        Check.due("note(" + i + ", 1)", x.note(i, 1), signs);
        Check.due("note(" + i + ", 3)", x.note(i, 3), all);
        Check.due("note(" + i + ", 4)", x.note(i, 4), tick);
        Check.due("note(" + i + ") sign", x.note(i, 9 + signs), 0);
        Check.due("note(" + i + ") behind", x.note(i, 10 + signs), -9);
    }

    private static void wrongInputs() {
        PenSchool x = school();
        Check.due("no terms", x.dictate(1, 1), PenSchool.STATE);
        Check.due("pace 0", x.dictate(0, 1), RANGE);
        Check.due("pace 100", x.dictate(100, 1), RANGE);
        Check.due("mind 0", x.dictate(1, 0), RANGE);
        Check.due("mind 21", x.dictate(1, 21), RANGE);
        x.say(4);
        Check.due("no form", x.dictate(1, 1), NONE);
        Check.due("no form, pace 0", x.dictate(0, 1), RANGE);
        Check.due("taken(0)", x.taken(0), NONE);
        Check.due("readBack()", x.readBack(), PenSchool.STATE);
        Check.passage(x, 0);
        Check.due("dictate(99, 20)", x.dictate(99, 20), 1);
        taken(x, 1, 0, 0, 0, 0, 0);
        Check.due("taken(6)", x.taken(6), NONE);
        Check.due("taken(-1)", x.taken(-1), NONE);
        Check.due("note(1, 0)", x.note(1, 0), -9);
        Check.due("note(-1, 0)", x.note(-1, 0), -9);
        Check.due("note(0, 5)", x.note(0, 5), -9);
        Check.due("note(0, 9)", x.note(0, 9), -9);
        Check.due("note(0, -1)", x.note(0, -1), -9);
        Check.due("note(0, MAX)", x.note(0, Integer.MAX_VALUE), -9);
        Check.due("note(0, 2)", x.note(0, 2), 1);
        Check.due("reads(1, 0)", x.reads(1, 0), RANGE);
        Check.due("reads(-1, 0)", x.reads(-1, 0), RANGE);
        Check.due("reads(0, 5)", x.reads(0, 5), RANGE);
        Check.due("reads(0, -1)", x.reads(0, -1), RANGE);
        Check.due("reads(0, 4)", x.reads(0, 4), 0);
    }

    private static void mindIsFull() {
        PenSchool x = school();
        Check.passage(x, 3, 0, 0, 0, 0, 0);
        // 0 is written till 4; 1 and 2 fill the mind, 3 is LOST; 4 too, as it's spoken when it's full.
        Check.due("dictate(1, 2)", x.dictate(1, 2), 7);
        taken(x, 4, 2, 0, 0, 3, 0);
        note(x, 0, 0, 4, 1, 0);
        note(x, 1, 1, 1, 1, 4);
        note(x, 2, 2, 1, 1, 5);
        note(x, 3, 5, 1, 1, 6);
    }

    private static void spokenAtTheSameTick() {
        PenSchool x = school();
        Check.passage(x, 1, 0, 0);
        // At tick 2 the writer is free, but what is spoken then comes first, and the mind is full.
        Check.due("dictate(1, 1)", x.dictate(1, 1), 3);
        taken(x, 2, 1, 0, 0, 1, 0);
        Check.due("dictate(2, 1)", x.dictate(2, 1), 5);
        taken(x, 3, 0, 0, 0, 0, 0);
        Check.policy(x, "when mind is 1 do drop;");
        // At tick 2 both are in the mind.
        Check.due("dictate(1, 9)", x.dictate(1, 9), 2);
        taken(x, 0, 0, 3, 0, 0, 0);
        Check.policy(x, "when mind is 2 do drop;");
        Check.due("dictate(1, 9) once more", x.dictate(1, 9), 3);
        taken(x, 2, 0, 1, 0, 0, 0);
        note(x, 1, 2, 1, 1, 2);
    }

    private static void condition(String condition, int dropped) {
        PenSchool x = school();
        Check.passage(x, 1, 2, 1);
        Check.policy(x, "when " + condition + " do drop;");
        x.dictate(1, 9);
        Check.due("dropped by " + condition, x.taken(2), dropped);
    }

    private static void conditions() {
        // If none is dropped they are taken up so: 1 at 0, mind 1; 2 at 2, mind 2, late 1; 1 at 5, mind 1, late 3.
        condition("mind is 2", 1);
        condition("mind above 1", 1);
        condition("mind below 2", 3);
        condition("late is 1", 1);
        condition("late above 0", 1);
        condition("late above 1", 1);
        condition("late below 1", 3);
        condition("cost is 3", 1);
        condition("cost above 3", 0);
        condition("cost above 2", 1);
        condition("cost below 3", 2);
        condition("count is 2", 1);
        condition("count above 2", 2);
        condition("count below 3", 1);
        condition("signs is 2", 2);
        condition("signs above 2", 1);
        condition("signs below 2", 0);
        condition("signs below 9 and cost is 3", 1);
        condition("signs below 9 and cost is 3 and mind is 1", 0);
    }

    private static void firstLineCounts() {
        PenSchool x = school();
        Check.passage(x, 3, 2);
        Check.policy(x, "when signs above 4 do drop; when signs above 3 do short 2; when signs above 2 do short 1;"
                + "when signs above 1 do drop;");
        Check.due("dictate(9, 9)", x.dictate(9, 9), 10);
        taken(x, 2, 0, 0, 2, 0, 0);
        note(x, 0, 0, 2, 0, 0);
        note(x, 1, 1, 1, 0, 9);
        Check.policy(x, "when signs is 4 do write; when signs above 0 do drop;");
        Check.due("a line that writes", x.dictate(9, 9), 9);
        taken(x, 1, 0, 1, 0, 0, 0);
    }

    private static void drops() {
        PenSchool x = school();
        Check.policy(x, "when mind above 0 do drop;");
        Check.passage(x, 0, 1, 2);
        Check.due("dictate(7, 1)", x.dictate(7, 1), 14);
        taken(x, 0, 0, 3, 0, 0, 0);
        Check.due("readBack() without notes", x.readBack(), 0);
        Check.due("back(0)", x.back(0), NONE);
        Check.due("wrong()", x.wrong(), 3);
        Check.policy(x, "when late above 1 do drop;");
        Check.passage(x, 3, 0, 0, 0, 0);
        // Three are dropped at tick 4 at once.
        Check.due("dictate(1, 9)", x.dictate(1, 9), 6);
        taken(x, 3, 0, 2, 0, 1, 0);
        note(x, 1, 3, 1, 1, 4);
        note(x, 2, 4, 1, 1, 5);
    }

    private static void shorts() {
        PenSchool x = Check.school("sign a 0 1; sign b 4 2; length 1; turn 1; lift 10; sharp 1;");
        Check.term(x, "abab", 1);
        Check.term(x, "aa", 1);
        Check.passage(x, 0, 1);
        Check.policy(x, "when mind above 0 do short 2;");
        Check.due("dictate(1, 5)", x.dictate(1, 5), 13 + 2);
        taken(x, 2, 0, 0, 1, 12, 0);
        Check.due("note(0, 1)", x.note(0, 1), 2);
        Check.due("note(0, 11)", x.note(0, 11), 1);
        Check.due("note(0, 12)", x.note(0, 12), -9);
        Check.due("note(0, 3)", x.note(0, 3), 0);
        Check.due("note(1, 1)", x.note(1, 1), 2);
        Check.due("note(1, 3)", x.note(1, 3), 1);
        Check.policy(x, "when mind above 0 do short 6;");
        Check.due("more than there are", x.dictate(1, 5), 36 + 2);
        taken(x, 2, 0, 0, 0, 35, 0);
    }

    private static void rests() {
        PenSchool x = school();
        Check.policy(x, "when mind below 3 and late below 7 do rest 4;");
        Check.passage(x, 0, 0, 0, 0, 0);
        // Rests to 4 and 8, 0 is written; at 9 two are in the mind again: rests to 13, 1 is written,
        // rests from 14 to 18, 3 is written. 2 (at 6) and 4 (at 12) found the mind full.
        Check.due("dictate(3, 2)", x.dictate(3, 2), 19);
        taken(x, 3, 2, 0, 0, 10, 16);
        note(x, 0, 0, 1, 1, 8);
        note(x, 1, 1, 1, 1, 13);
        note(x, 2, 3, 1, 1, 18);
    }

    private static void restForGood() {
        PenSchool x = school();
        Check.passage(x, 0, 0, 0, 0);
        for (int n : new int[] {1, 3, 7, 50}) {
            Check.policy(x, "when mind above 0 do rest " + n + ";");
            Check.due("dictate(99, 2)", x.dictate(99, 2), 99999);
            taken(x, 0, 4, 0, 0, 0, 99999);
        }
        Check.policy(x, "when mind above 1 do rest 50;");
        // 0 to 2 are written as they come, since none is beside them.
        Check.due("dictate(99, 2)", x.dictate(99, 2), 298);
        Check.due("dictate(1, 2)", x.dictate(1, 2), 4);
        x.say(3);
        x.say(0);
        x.say(0);
        // 4 takes ticks 4 to 8, and then two are in the mind for good.
        Check.due("dictate(1, 4) with more", x.dictate(1, 4), 99999);
        taken(x, 5, 2, 0, 0, 0, 99999 - 8);
        Check.due("readBack()", x.readBack(), 4 * 4 + 1);
        Check.due("wrong()", x.wrong(), 2);
    }

    private static void longRestEnds() {
        PenSchool x = school();
        Check.passage(x, 0, 1);
        Check.policy(x, "when late below 9999 do rest 50;");
        Check.due("dictate(99, 2)", x.dictate(99, 2), 10000 + 1 + 100 + 2);
        taken(x, 2, 0, 0, 0, 10002, 10100);
        Check.policy(x, "when late above 9998 and count is 4 do drop; when count is 4 do rest 7;");
        Check.due("dictate(1, 2)", x.dictate(1, 2), 10003 + 2);
        taken(x, 1, 0, 1, 0, 10002, 10003);
    }

    private static void freeOfCost() {
        PenSchool x = Check.school("sign a 0 3; length 0; turn 0;");
        Check.term(x, "a", 1);
        Check.term(x, "aaa", 1);
        Check.passage(x, 0, 1, 1);
        Check.due("one tick at least", x.dictate(1, 1), 3);
        Check.policy(x, "when signs above 1 do short 2;");
        Check.due("one tick at least for short ones", x.dictate(1, 1), 3);
        taken(x, 3, 0, 0, 2, 0, 0);
    }

    private static void latestCounts() {
        PenSchool x = school();
        Check.passage(x, 0, 1);
        x.dictate(5, 1);
        x.readBack();
        Check.due("dictate RANGE", x.dictate(0, 0), RANGE);
        Check.passage(x, 4);
        Check.due("dictate NONE", x.dictate(1, 1), NONE);
        x.clear();
        Check.due("dictate STATE", x.dictate(1, 1), PenSchool.STATE);
        Check.due("taken(0)", x.taken(0), 2);
        Check.due("back(1)", x.back(1), 1);
        Check.due("wrong() by the passage as it was", x.wrong(), 0);
        Check.passage(x, 0, 0, 0);
        Check.due("wrong() still", x.wrong(), 0);
        Check.policy(x, "when mind is 1 do drop;");
        Check.due("taken(2) by the policy as it was", x.taken(2), 0);
        Check.due("dictate", x.dictate(5, 1), 10);
        Check.due("back(0) behind a dictate()", x.back(0), NONE);
        Check.due("wrong() behind a dictate()", x.wrong(), NONE);
        Check.due("taken(0) now", x.taken(0), 0);
        Check.due("note(0, 0) now", x.note(0, 0), -9);
    }

    private static void reads() {
        PenSchool x = Check.school("vowels e; sign a 1 1; sign b 1 1; sign c 1 2; sign d 2 1; drop all;");
        String[] rows = {"aa", "bb", "a", "ab", "aae", "ac", "ad", "aaa", "p", "e"};
        for (String row : rows) {
            Check.term(x, row, 1);
        }
        Check.passage(x, 0);
        x.dictate(1, 1);
        int[] all = {1, 1, 0, 1, 0, 0, 0, 0, 0, 0};
        for (int t = 0; t < all.length; t++) {
            Check.due("reads as " + rows[t], x.reads(0, t), all[t]);
        }
        Check.policy(x, "when signs is 2 do short 1;");
        x.dictate(1, 1);
        int[] notAll = {1, 1, 0, 1, 0, 1, 1, 1, 0, 0};
        for (int t = 0; t < notAll.length; t++) {
            Check.due("reads, not all, as " + rows[t], x.reads(0, t), notAll[t]);
        }
        Check.candidate(x, 3, "DA");
        Check.due("adopt", x.adopt(1), 1);
        Check.due("by forms as they are now", x.reads(0, 3), 0);
        Check.due("note stays", x.note(0, 10), 0);
        Check.due("a term told later", Check.term(x, "bd", 1), 10);
        Check.due("reads as it", x.reads(0, 10), 1);
    }

    private static PenSchool lookalikes() {
        PenSchool x = Check.school("sign a 1 1; sign b 1 1; sign c 1 1; sign d 5 1;");
        Check.term(x, "a", 5);
        Check.term(x, "b", 7);
        Check.term(x, "c", 5);
        Check.term(x, "d", 9);
        return x;
    }

    private static void back(PenSchool x, int points, int... row) {
        Check.due("readBack()", x.readBack(), points);
        for (int i = 0; i < row.length; i++) {
            Check.due("back(" + i + ")", x.back(i), row[i]);
        }
        Check.due("back behind the last", x.back(row.length), NONE);
        Check.due("back(-1)", x.back(-1), NONE);
    }

    private static void readBack() {
        PenSchool x = lookalikes();
        Check.passage(x, 0, 3, 2);
        x.dictate(50, 5);
        back(x, 7 + 9 + 7, 1, 3, 1);
        Check.due("wrong()", x.wrong(), 2);
        x.beside(0, 3, 2);
        back(x, 5 + 2 + 9 + 7, 0, 3, 1);
        Check.due("wrong() of one", x.wrong(), 1);
        x.beside(0, 3, 1);
        back(x, 7 + 9 + 7, 1, 3, 1);
        x.beside(3, 2, 100);
        back(x, 7 + 9 + 100 + 5, 1, 3, 2);
        x.beside(3, 0, 100);
        back(x, 7 + 9 + 100 + 5, 1, 3, 0);
        Check.passage(x, 0, 0, 0);
        x.dictate(50, 5);
        x.beside(2, 0, 900);
        x.beside(0, 2, 800);
        back(x, 15 + 1700, 0, 2, 0);
    }

    private static void readBackTies() {
        PenSchool x = lookalikes();
        Check.passage(x, 1, 1);
        x.dictate(50, 5);
        x.beside(1, 1, 0);
        x.beside(2, 0, 4);
        x.beside(0, 2, 4);
        back(x, 14, 0, 2);
        x.beside(0, 0, 4);
        back(x, 14, 0, 0);
        x.beside(2, 2, 5);
        back(x, 15, 2, 2);
    }

    private static void readBackFails() {
        PenSchool x = lookalikes();
        Check.term(x, "dd", 3);
        Check.passage(x, 3, 0);
        x.dictate(50, 5);
        Check.candidate(x, 3, "DA");
        back(x, 9 + 7, 3, 1);
        Check.due("adopt", x.adopt(1), 1);
        Check.due("no term reads so now", x.readBack(), NONE);
        Check.due("back(0) of the latest that told points", x.back(0), 3);
        Check.due("wrong() of it", x.wrong(), 1);
        x.dictate(50, 5);
        Check.due("wrong() of none", x.wrong(), NONE);
        x.adopt(0);
        Check.due("no term reads so again", x.readBack(), NONE);
        Check.due("wrong() still of none", x.wrong(), NONE);
        Check.due("back(0) still of none", x.back(0), NONE);
    }

    private static void wrong() {
        PenSchool y = lookalikes();
        Check.passage(y, 0, 1, 2);
        y.dictate(50, 5);
        y.beside(2, 0, 900);
        y.beside(0, 1, 900);
        back(y, 5 + 900 + 5 + 900 + 7, 2, 0, 1);
        Check.due("one put in ahead, one left out behind", y.wrong(), 2);
        y.beside(0, 1, 0);
        y.beside(1, 2, 900);
        back(y, 7 + 900 + 5 + 900 + 5, 1, 2, 0);
        Check.due("one left out ahead, one put in behind", y.wrong(), 2);
        PenSchool x = school();
        Check.passage(x, 0, 1, 2, 3, 0, 1);
        Check.policy(x, "when count is 3 do drop;");
        x.dictate(50, 5);
        back(x, 4 + 2 + 1 + 4, 0, 2, 3, 0);
        Check.due("two left out", x.wrong(), 2);
        Check.policy(x, "when signs is 3 do short 1;");
        x.dictate(50, 5);
        // The short one READS as the TERM of two SIGNS, which has the greater COUNT.
        back(x, 4 + 3 + 3 + 1 + 4 + 3, 0, 1, 1, 3, 0, 1);
        Check.due("one another", x.wrong(), 1);
    }
}
