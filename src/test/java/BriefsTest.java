/** Promises 12 to 16: CANDIDATES, which of them are CHOSEN, and ADOPTED ones. */
public final class BriefsTest {
    private static final int NONE = PenSchool.NONE;
    private static final int RANGE = PenSchool.RANGE;

    private BriefsTest() {
    }

    public static void main(String[] args) {
        candidate();
        candidateRoom();
        rules();
        ownOutlines();
        best();
        chosenIsKept();
        adopt();
        anotherSystem();
        Check.finish("BriefsTest");
    }

    private static PenSchool school() {
        PenSchool x = Check.school("vowels ae; sign b 0 1; sign c 2 2; sign d 4 3; sign f 0 1; drop all;"
                + "length 1; turn 1; lift 10; sharp 1;");
        Check.term(x, "bcd", 10);
        Check.term(x, "dcb", 3);
        Check.term(x, "bb", 2);
        Check.term(x, "bab", 7);
        Check.term(x, "g", 5);
        return x;
    }

    private static void candidate() {
        PenSchool x = school();
        Check.due("first", Check.candidate(x, 0, "A"), 0);
        Check.due("three signs", Check.candidate(x, 0, "ABC"), 1);
        Check.due("four signs", Check.candidate(x, 0, "ABCD"), NONE);
        Check.due("no signs", Check.candidate(x, 0, ""), NONE);
        Check.due("no such sign", Check.candidate(x, 0, "E"), NONE);
        Check.due("below the first", Check.candidate(x, 0, "@"), NONE);
        Check.due("small letter", Check.candidate(x, 0, "a"), NONE);
        Check.due("a blank behind", Check.candidate(x, 0, "A "), NONE);
        Check.due("high byte", Check.candidate(x, 0, "\u00c1"), NONE);
        Check.due("term -1", Check.candidate(x, -1, "A"), RANGE);
        Check.due("term 5", Check.candidate(x, 5, ""), RANGE);
        Check.due("the same again", Check.candidate(x, 0, "A"), 2);
        Check.due("of a term without an outline", Check.candidate(x, 4, "A"), 3);
        Check.due("count(1)", x.count(1), 4);
    }

    private static void candidateRoom() {
        PenSchool x = school();
        for (int i = 0; i < 12; i++) {
            Check.due("candidate " + i, Check.candidate(x, i % 4, "D"), i);
        }
        Check.due("the 13th", Check.candidate(x, 0, "A"), PenSchool.FULL);
        Check.due("the 13th, no row", Check.candidate(x, 0, ""), NONE);
        Check.due("the 13th, no term", Check.candidate(x, 9, "A"), RANGE);
        Check.due("saves(4095)", x.saves(4095), NONE);
        Check.due("saves(4096)", x.saves(4096), RANGE);
        Check.due("saves(2048)", x.saves(2048), 7);
        // 10 * 25, 3 * 25 - and none beside it, as all of PLACE 1 LOOK alike; 3 has another PLACE.
        Check.due("choose(12)", x.choose(12), 10 * 25 + 7);
        Check.due("chosen()", x.chosen(), 1 | 8);
        Check.due("choose(13)", x.choose(13), RANGE);
        Check.due("choose(-1)", x.choose(-1), RANGE);
    }

    private static void rules() {
        PenSchool x = school();
        Check.due("outline bcd", x.about(0, 5), 6 + 20);
        Check.due("outline bb", x.about(2, 5), 2);
        Check.candidate(x, 0, "B");
        Check.candidate(x, 0, "C");
        Check.candidate(x, 1, "B");
        Check.candidate(x, 2, "CC");
        Check.candidate(x, 4, "B");
        Check.candidate(x, 0, "DA");
        Check.candidate(x, 3, "B");
        Check.due("empty", x.saves(0), 0);
        Check.due("one", x.saves(1), 240);
        Check.due("another", x.saves(2), 230);
        Check.due("two of one term", x.saves(3), NONE);
        Check.due("two that look alike", x.saves(1 | 4), NONE);
        Check.due("two that don't", x.saves(2 | 4), 230 + 72);
        Check.due("costlier than the outline", x.saves(8), 2 * (2 - 6));
        Check.due("of a term without an outline", x.saves(16), NONE);
        Check.due("like an outline", x.saves(32), NONE);
        Check.due("like an outline whose term has one", x.saves(32 | 8), 240 - 8);
        Check.due("of another place", x.saves(1 | 64), 240);
        Check.due("saves(128)", x.saves(128), RANGE);
        Check.due("saves(-1)", x.saves(-1), RANGE);
        Check.due("saves(MIN)", x.saves(Integer.MIN_VALUE), RANGE);
        Check.due("adopt(128)", x.adopt(128), RANGE);
        Check.due("adopt(-1)", x.adopt(-1), RANGE);
        Check.due("adopt(3)", x.adopt(3), NONE);
    }

    private static void ownOutlines() {
        PenSchool x = school();
        Check.candidate(x, 2, "DD");
        Check.due("like its own outline", x.saves(1), 0);
        Check.due("that isn't chosen, as nothing is saved", x.choose(1), 0);
        Check.due("chosen()", x.chosen(), 0);
        Check.term(x, "ff", 1);
        Check.due("like one told later", x.saves(1), NONE);
    }

    private static void best() {
        PenSchool x = school();
        Check.candidate(x, 0, "DA");
        Check.candidate(x, 2, "D");
        Check.candidate(x, 1, "A");
        Check.candidate(x, 1, "D");
        Check.candidate(x, 3, "A");
        Check.due("choose(0)", x.choose(0), 0);
        Check.due("chosen() of 0", x.chosen(), 0);
        // 0 needs 1 beside it, so it can't be the only one.
        Check.due("choose(1)", x.choose(1), 3 * 25);
        Check.due("chosen() of 1: the least of two", x.chosen(), 4);
        Check.due("choose(2)", x.choose(2), 240 + 2);
        Check.due("chosen() of 2", x.chosen(), 3);
        Check.due("choose(3)", x.choose(3), 240 + 2 + 7);
        Check.due("chosen() of 3", x.chosen(), 3 | 16);
        Check.due("choose(12)", x.choose(12), 240 + 2 + 7);
    }

    private static void chosenIsKept() {
        PenSchool x = school();
        Check.candidate(x, 0, "B");
        Check.due("ahead of any", x.chosen(), 0);
        x.choose(5);
        Check.due("chosen()", x.chosen(), 1);
        Check.due("RANGE", x.choose(13), RANGE);
        Check.due("chosen() stays", x.chosen(), 1);
        Check.candidate(x, 0, "");
        Check.due("chosen() stays behind none", x.chosen(), 1);
        Check.term(x, "c", 1);
        Check.due("chosen() stays behind a term", x.chosen(), 1);
        Check.due("though it can't be chosen now", x.saves(1), NONE);
        x.adopt(0);
        Check.due("chosen() stays behind adopt()", x.chosen(), 1);
        Check.fault(x, "?", true, 1, 0);
        Check.due("chosen() stays behind a FAULT", x.chosen(), 1);
        Check.candidate(x, 0, "C");
        Check.due("chosen() behind a candidate", x.chosen(), 0);
        x.choose(5);
        Check.due("chosen() again", x.chosen(), 2);
        Check.system(x, "");
        Check.due("chosen() behind a system", x.chosen(), 0);
    }

    private static void anotherSystem() {
        PenSchool x = school();
        Check.candidate(x, 0, "DA");
        Check.candidate(x, 2, "D");
        Check.due("one that needs another", x.saves(1), NONE);
        Check.due("both", x.saves(3), 240 + 2);
        Check.system(x, "sign b 0 1; sign c 2 2; sign d 4 3; sign f 1 1; sign g 1 1;");
        Check.due("candidates of the old one", x.saves(1), RANGE);
        Check.candidate(x, 0, "DA");
        Check.candidate(x, 2, "D");
        Check.due("one that needs no other now", x.saves(1), 10 * (12 + 4 - 4 - 1));
        Check.due("one that looks like g", x.saves(2), NONE);
        Check.due("choose(2)", x.choose(2), 110);
        Check.due("chosen()", x.chosen(), 1);
    }

    private static void adopt() {
        PenSchool x = school();
        Check.candidate(x, 0, "B");
        Check.candidate(x, 0, "CA");
        Check.candidate(x, 1, "C");
        Check.due("adopt(6)", x.adopt(6), 2);
        Check.due("count(8)", x.count(8), 2);
        Check.due("signs of the form", x.about(0, 6), 2);
        Check.due("its cost", x.about(0, 7), 4 + 10);
        Check.due("its lifts", x.about(0, 8), 1);
        Check.due("its sign 0", x.about(0, 30), 2);
        Check.due("its sign 1", x.about(0, 31), 0);
        Check.due("no sign 2", x.about(0, 32), -9);
        Check.due("signs of the outline", x.about(0, 4), 3);
        Check.due("cost of the outline", x.about(0, 5), 26);
        Check.due("sign 2 of the outline", x.about(0, 12), 2);
        Check.due("what can't be", x.adopt(3), NONE);
        Check.due("those stay", x.count(8), 2);
        Check.due("others have none then", x.adopt(1), 1);
        Check.due("count(8) now", x.count(8), 1);
        Check.due("form of 0", x.about(0, 6), 1);
        Check.due("form of 1", x.about(1, 6), 3);
        Check.due("saves() is by outlines", x.saves(1), 240);
        Check.due("adopt(0)", x.adopt(0), 0);
        Check.due("form of 0 again", x.about(0, 6), 3);
        Check.due("count(7)", x.count(7), 4);
    }
}
