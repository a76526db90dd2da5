/** Promises 1 to 8: a new object, THE TAPE, SYSTEMS, POLICIES and their FAULTS. */
public final class TextsTest {
    private static final int NONE = PenSchool.NONE;

    private TextsTest() {
    }

    public static void main(String[] args) {
        newObject();
        tape();
        tapeIsEmptied();
        system();
        systemReplacesAll();
        systemForgets();
        systemStaysWithFault();
        systemFaults();
        systemRoom();
        policy();
        policyFaults();
        policyRoom();
        signs();
        Check.finish("TextsTest");
    }

    private static void newObject() {
        PenSchool x = new PenSchool();
        int[] rules = {0, 2, 1, 6, 4, 0, 3, 0};
        for (int what = 0; what < rules.length; what++) {
            Check.due("new rule(" + what + ")", x.rule(what), rules[what]);
        }
        for (int what = 0; what < 9; what++) {
            Check.due("new count(" + what + ")", x.count(what), 0);
        }
        Check.due("new fault(0)", x.fault(0), 0);
        Check.due("new fault(1)", x.fault(1), NONE);
        Check.due("new sign", x.sign(0, 0), -9);
        Check.due("new taken", x.taken(0), NONE);
        Check.due("new readBack", x.readBack(), PenSchool.STATE);
    }

    private static void tape() {
        PenSchool x = new PenSchool();
        Check.due("end(0)", x.end(0), 0);
        Check.due("end(1) of none", x.end(1), NONE);
        Check.due("end(-1)", x.end(-1), NONE);
        Check.due("feed", x.feed('a' << 24 | 'b' << 16 | 'c' << 8 | 'd', 'e' << 24, -1, 0, 0), 20);
        Check.due("end(21)", x.end(21), NONE);
        Check.due("end(5)", x.end(5), 5);
        Check.due("count(6)", x.count(6), 5);
        Check.due("term(1)", x.term(1), 0);
        int[] row = {0, 1, 2, 3, 4};
        for (int i = 0; i < row.length; i++) {
            Check.due("about sound " + i, x.about(0, 50 + i), row[i]);
        }
        for (int n = 20; n <= 800; n += 20) {
            Check.due("feed to " + n, x.feed(0, 0, 0, 0, 0), n);
        }
        Check.due("feed beyond 800", x.feed(0, 0, 0, 0, 0), PenSchool.FULL);
        Check.due("count(6) when full", x.count(6), 800);
        Check.due("end(781)", x.end(781), 781);
        Check.due("feed to 801", x.feed(0, 0, 0, 0, 0), PenSchool.FULL);
        Check.due("end(780)", x.end(780), 780);
        Check.due("feed to 800", x.feed(0, 0, 0, 0, 0), 800);
    }

    private static void tapeIsEmptied() {
        PenSchool x = new PenSchool();
        Check.tape(x, "?").system();
        Check.due("tape behind a wrong system()", x.count(6), 0);
        Check.tape(x, "?").policy();
        Check.due("tape behind a wrong policy()", x.count(6), 0);
        Check.tape(x, "a").term(0);
        Check.due("tape behind term() RANGE", x.count(6), 0);
        Check.tape(x, "A").candidate(5);
        Check.due("tape behind candidate() RANGE", x.count(6), 0);
        Check.tape(x, "length 3;").system();
        Check.due("tape behind system()", x.count(6), 0);
        x.feed(0, 0, 0, 0, 0);
        x.fault(0);
        x.phrased();
        Check.due("tape behind calls that don't read it", x.count(6), 20);
    }

    private static void system() {
        PenSchool x = new PenSchool();
        Check.due("no clauses", Check.system(x, ""), 0);
        Check.due("blanks alone", Check.system(x, " \n \n"), 0);
        Check.due("without blanks", Check.system(x, "vowels pa;"
                + "sign ponm7 3;sign a0 1;length9;turn0009;lift99;sharp0;drop all;phrase8;"), 9);
        int[] rules = {2, 9, 9, 99, 0, 2, 8, 2};
        for (int what = 0; what < rules.length; what++) {
            Check.due("rule(" + what + ")", x.rule(what), rules[what]);
        }
        Check.due("rule(10)", x.rule(10), 15);
        Check.due("rule(11)", x.rule(11), 0);
        Check.due("rule(12)", x.rule(12), -9);
        Check.due("rule(8)", x.rule(8), -9);
        Check.due("rule(9)", x.rule(9), -9);
        Check.due("rule(-1)", x.rule(-1), -9);
        Check.due("rule(MIN)", x.rule(Integer.MIN_VALUE), -9);
        Check.due("rule(MAX)", x.rule(Integer.MAX_VALUE), -9);
        Check.due("drop none", Check.system(x, "drop\nnone\n;"), 1);
        Check.due("rule(5) none", x.rule(5), 0);
        Check.system(x, "drop inner;");
        Check.due("rule(5) inner", x.rule(5), 1);
        Check.due("five vowels", Check.system(x, "vowels ponml;length 0;lift 0;phrase 1;"), 4);
        Check.due("rule(14)", x.rule(14), 11);
        Check.due("rule(1)", x.rule(1), 0);
    }

    private static void systemReplacesAll() {
        PenSchool x = Check.school("vowels a; sign a 1 1; length 9; drop all;");
        Check.due("another system", Check.system(x, "turn 3;"), 1);
        int[] rules = {0, 2, 3, 6, 4, 0, 3, 0};
        for (int what = 0; what < rules.length; what++) {
            Check.due("rule(" + what + ") told anew", x.rule(what), rules[what]);
        }
        Check.due("rule(10) told anew", x.rule(10), -9);
    }

    private static void systemForgets() {
        PenSchool x = Check.school("sign a 0 1; sign b 1 1; phrase 2;");
        Check.term(x, "a", 5);
        Check.term(x, "ab", 5);
        Check.candidate(x, 1, "B");
        x.choose(1);
        x.adopt(1);
        x.joins(0, 1, true);
        x.beside(0, 1, 9);
        Check.passage(x, 0, 1);
        x.phrased();
        x.dictate(5, 5);
        x.readBack();
        x.lessons(3);
        Check.policy(x, "when mind above 0 do drop;");
        Check.due("chosen() ahead", x.chosen(), 1);
        Check.due("count(8) ahead", x.count(8), 1);
        Check.due("wrong() ahead", x.wrong(), 0);
        Check.system(x, "sign a 0 1; sign b 1 1;");
        Check.due("candidates", x.count(1), 0);
        Check.due("adopted", x.count(8), 0);
        Check.due("form", x.about(1, 6), 2);
        Check.due("chosen()", x.chosen(), 0);
        Check.due("taken(0)", x.taken(0), NONE);
        Check.due("note", x.note(0, 0), -9);
        Check.due("reads", x.reads(0, 0), PenSchool.RANGE);
        Check.due("readBack()", x.readBack(), PenSchool.STATE);
        Check.due("back(0)", x.back(0), NONE);
        Check.due("wrong()", x.wrong(), NONE);
        Check.due("lesson(0)", x.lesson(0), NONE);
        Check.due("terms stay", x.count(0), 2);
        Check.due("passage stays", x.count(2), 2);
        Check.due("policy stays", x.count(3), 1);
        Check.due("joins stay", x.joins(0, 1, true), 0);
        Check.due("beside stays", x.beside(0, 1, 0), 9);
        Check.due("phrase stays told", x.phrase(10), 2);
    }

    private static void systemStaysWithFault() {
        PenSchool x = Check.school("vowels ae; sign b 3 2; turn 7;");
        Check.term(x, "b", 4);
        Check.candidate(x, 0, "A");
        Check.passage(x, 0);
        x.dictate(1, 1);
        x.readBack();
        x.lessons(1);
        Check.fault(x, "vowels b; sign c 1 1; turn 2; turn 3;", true, 3, 30);
        Check.due("vowels", x.rule(0), 2);
        Check.due("vowel 1", x.rule(11), 4);
        Check.due("turn", x.rule(2), 7);
        Check.due("signs", x.rule(7), 1);
        Check.due("way", x.sign(0, 0), 3);
        Check.due("candidates stay", x.count(1), 1);
        Check.due("notes stay", x.taken(0), 1);
        Check.due("back stays", x.back(0), 0);
        Check.due("lesson stays", x.lesson(0), 0);
        Check.due("policy() without fault", Check.policy(x, ""), 0);
        Check.due("fault is that of the latest", x.fault(0), 0);
        Check.due("place is that of the latest", x.fault(1), NONE);
        Check.due("fault(2)", x.fault(2), NONE);
        Check.due("fault(-1)", x.fault(-1), NONE);
    }

    private static void systemFaults() {
        PenSchool x = new PenSchool();
        Check.fault(x, ";", true, 1, 0);
        Check.fault(x, "length 1;;", true, 1, 9);
        Check.fault(x, "length 1", true, 1, 8);
        Check.fault(x, "length 1 \n ", true, 1, 11);
        Check.fault(x, "length", true, 1, 6);
        Check.fault(x, "length one;", true, 1, 7);
        Check.fault(x, "length 1 2;", true, 1, 9);
        Check.fault(x, "length -1;", true, 1, 7);
        Check.fault(x, "length 1,", true, 1, 8);
        Check.fault(x, "length\t1;", true, 1, 6);
        Check.fault(x, "lengths 1;", true, 1, 0);
        Check.fault(x, "7;", true, 1, 0);
        Check.fault(x, "turn 10;", true, 2, 5);
        Check.fault(x, "turn 9999;", true, 2, 5);
        Check.fault(x, "turn 10000;", true, 1, 5);
        Check.fault(x, "turn 00001;", true, 1, 5);
        Check.fault(x, "phrase 9;", true, 2, 7);
        Check.fault(x, "sharp 4; sharp 9;", true, 3, 9);
        Check.fault(x, "drop all; drop all;", true, 3, 10);
        Check.fault(x, "lift 1;lift 1;", true, 3, 7);
        Check.fault(x, "phrase 1;phrase 1;", true, 3, 9);
        Check.fault(x, "length 1;length 1;", true, 3, 9);
        Check.fault(x, "drop 1;", true, 1, 5);
        Check.fault(x, "drop;", true, 1, 4);
        Check.fault(x, "vowels 1;", true, 1, 7);
        Check.fault(x, "vowels ;", true, 1, 7);
        Check.fault(x, "vowels a b;", true, 1, 9);
        Check.fault(x, "vowels abcdeq;", true, 1, 7);
        Check.fault(x, "vowels abcdabcdabcd;", true, 2, 7);
        Check.fault(x, "vowels abcdabcdabcda;", true, 1, 7);
        Check.fault(x, "sign q 0 1;", true, 1, 5);
        Check.fault(x, "sign 0 1;", true, 1, 5);
        Check.fault(x, "sign a;", true, 1, 6);
        Check.fault(x, "sign a 0;", true, 1, 8);
        Check.fault(x, "sign a 0 4;", true, 2, 9);
        Check.fault(x, "sign a 0 1 1;", true, 1, 11);
        Check.fault(x, "sign a 8 9;", true, 2, 7);
        Check.fault(x, "sign ab 0 1;sign abq 0 1;", true, 1, 17);
        Check.fault(x, "sign ab 0 1; sign ab 9 9;", true, 3, 18);
        Check.fault(x, "\u00e9", true, 1, 0);
        Check.fault(x, "\u0000", true, 1, 0);
        Check.due("a sign's row may have a sound twice", Check.system(x, "vowels a; sign aa 0 1;"), 2);
        Check.due("rows may begin alike", Check.system(x, "sign a 0 1; sign ab 0 1; sign abc 0 1;"), 3);
    }

    private static void systemRoom() {
        String text = Check.manySigns(30);
        PenSchool x = new PenSchool();
        Check.due("thirty signs", Check.system(x, text), 30);
        Check.due("rule(7)", x.rule(7), 30);
        Check.due("last sign", x.sign(29, 11), 13);
        Check.due("no more", x.sign(30, 0), -9);
        Check.fault(x, text + " sign aa 9 9;", true, 4, text.length() + 1);
        Check.due("signs stay", x.rule(7), 30);
        Check.due("other clauses behind", Check.system(x, text + "turn 2;"), 31);
    }

    private static void signs() {
        PenSchool x = Check.school("sign a 7 3; sign ponm 0 1;");
        int[] first = {7, 3, 1};
        int[] second = {0, 1, 4};
        for (int what = 0; what < 3; what++) {
            Check.due("sign(0, " + what + ")", x.sign(0, what), first[what]);
            Check.due("sign(1, " + what + ")", x.sign(1, what), second[what]);
        }
        Check.due("sign(0, 10)", x.sign(0, 10), 0);
        Check.due("sign(0, 11)", x.sign(0, 11), -9);
        for (int i = 0; i < 4; i++) {
            Check.due("sign(1, 10 + " + i + ")", x.sign(1, 10 + i), 15 - i);
        }
        Check.due("sign(1, 14)", x.sign(1, 14), -9);
        Check.due("sign(0, 3)", x.sign(0, 3), -9);
        Check.due("sign(0, 9)", x.sign(0, 9), -9);
        Check.due("sign(0, -1)", x.sign(0, -1), -9);
        Check.due("sign(-1, 0)", x.sign(-1, 0), -9);
        Check.due("sign(2, 0)", x.sign(2, 0), -9);
        Check.due("sign(0, MIN)", x.sign(0, Integer.MIN_VALUE), -9);
        Check.due("sign(MAX, 0)", x.sign(Integer.MAX_VALUE, 0), -9);
    }

    private static void policy() {
        PenSchool x = new PenSchool();
        Check.due("no lines", Check.policy(x, " "), 0);
        Check.due("lines", Check.policy(x, "when mind above 0and late below 9999 and cost is 7\nand count is 1"
                + " do short6;when signs is 3 do rest 50;when mind is 1 do write;when mind is 1 do drop;"), 4);
        Check.due("count(3)", x.count(3), 4);
        Check.due("fault(0)", x.fault(0), 0);
        Check.fault(x, "when", false, 1, 4);
        Check.due("count(3) stays", x.count(3), 4);
        Check.due("no lines again", Check.policy(x, ""), 0);
        Check.due("count(3)", x.count(3), 0);
    }

    private static void policyFaults() {
        PenSchool x = new PenSchool();
        Check.fault(x, "do write;", false, 1, 0);
        Check.fault(x, "when do write;", false, 1, 5);
        Check.fault(x, "when mind over 3 do write;", false, 1, 10);
        Check.fault(x, "when mind above do write;", false, 1, 16);
        Check.fault(x, "when mind above 12345 do write;", false, 1, 16);
        Check.fault(x, "when mind above 1 write;", false, 1, 18);
        Check.fault(x, "when mind above 1 and do write;", false, 1, 22);
        Check.fault(x, "when mind above 1 do ;", false, 1, 21);
        Check.fault(x, "when mind above 1 do sleep;", false, 1, 21);
        Check.fault(x, "when mind above 1 do write", false, 1, 26);
        Check.fault(x, "when mind above 1 do write 2;", false, 1, 27);
        Check.fault(x, "when mind above 1 do short;", false, 1, 26);
        Check.fault(x, "when mind above 1 do short 0;", false, 2, 27);
        Check.fault(x, "when mind above 1 do rest 0;", false, 2, 26);
        Check.fault(x, "when mind above 1 do rest 51;", false, 2, 26);
        Check.fault(x, "when mind above 1 do drop;;", false, 1, 26);
        Check.fault(x, "when mind above 1 do drop; turn 1;", false, 1, 27);
        Check.fault(x, "When mind above 1 do drop;", false, 1, 0);
    }

    private static void policyRoom() {
        String line = "when mind is 1 do drop;";
        StringBuilder text = new StringBuilder();
        for (int i = 0; i < 8; i++) {
            text.append(line);
        }
        PenSchool x = new PenSchool();
        Check.due("eight lines", Check.policy(x, text.toString()), 8);
        Check.fault(x, text + "\n" + line, false, 4, text.length() + 1);
        Check.fault(x, text + "\nwhen", false, 4, text.length() + 1);
        Check.fault(x, text + "wren", false, 1, text.length());
        Check.due("count(3)", x.count(3), 8);
        String four = "when mind is 1 and mind is 2 and mind is 3 and mind is 4";
        Check.due("four conditions", Check.policy(x, four + " do drop;"), 1);
        Check.fault(x, four + " and mind is 5 do drop;", false, 4, four.length() + 1);
        Check.fault(x, four + " and", false, 4, four.length() + 1);
        Check.fault(x, line + four + " or", false, 1, line.length() + four.length() + 1);
    }
}
