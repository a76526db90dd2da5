/** Where the document bounds a SYSTEM's text: Terms I, promises 1, 4, 6, 7 and 8. */
public final class BoundsOfSystemTest {
    private static final int NONE = PenSchool.NONE;
    private static final int ABSENT = -9;
    private static final int SYNTAX = 1;
    private static final int RANGE = 2;
    private static final int TWICE = 3;
    private static final int ROOM = 4;
    private static final int[] UNTOLD = {0, 2, 1, 6, 4, 0, 3, 0};

    private BoundsOfSystemTest() {
    }

    public static void main(String[] args) {
        newObject();
        untold();
        untoldBehindAnother();
        numbers();
        vowelRows();
        vowelsTwice();
        signRows();
        ways();
        lengths();
        sounds();
        thirtySigns();
        longestSigns();
        twice();
        rowsTwice();
        firstFault();
        leastKind();
        textEnds();
        clauses();
        drops();
        faultAsked();
        ruleAsked();
        signAsked();
        Check.finish("BoundsOfSystemTest");
    }

    private static void rules(PenSchool x, int what, int told) {
        for (int i = 0; i < UNTOLD.length; i++) {
            Check.due("rule(" + i + ")", x.rule(i), i == what ? told : UNTOLD[i]);
        }
    }

    private static void newObject() {
        Check.says("A SYSTEM without SIGNS, no TERMS, a POLICY without lines.");
        PenSchool x = new PenSchool();
        rules(x, NONE, 0);
        Check.due("rule(10)", x.rule(10), ABSENT);
        Check.due("sign(0, 0)", x.sign(0, 0), ABSENT);
        Check.due("about(0, 0)", x.about(0, 0), ABSENT);
        for (int what = 0; what <= 8; what++) {
            Check.due("count(" + what + ")", x.count(what), 0);
        }
        PenSchool y = Check.school("sign a 0 1; length 3;");
        Check.term(y, "a", 1);
        y.say(0);
        Check.due("without lines all is written", y.dictate(1, 1), 3);
        Check.due("taken(0)", y.taken(0), 1);
    }

    private static void untold() {
        Check.says("What a text doesn't tell is so: no vowels, length 2, turn 1, lift 6, sharp 4, drop none, phrase 3.");
        Object[][] clauses = {{"", NONE, 0}, {"vowels a;", 0, 1}, {"length 9;", 1, 9}, {"turn 9;", 2, 9},
            {"lift 99;", 3, 99}, {"sharp 0;", 4, 0}, {"drop all;", 5, 2}, {"phrase 8;", 6, 8}, {"sign a 0 1;", 7, 1}};
        for (Object[] c : clauses) {
            rules(Check.school((String) c[0]), (Integer) c[1], (Integer) c[2]);
        }
    }

    private static void untoldBehindAnother() {
        PenSchool x = Check.school("vowels abcde;length 9;turn 9;lift 99;sharp 0;drop all;phrase 8;sign a 0 1;");
        Check.due("an empty text", Check.system(x, ""), 0);
        rules(x, NONE, 0);
        Check.due("rule(10)", x.rule(10), ABSENT);
        Check.due("sign(0, 0)", x.sign(0, 0), ABSENT);
    }

    private static void number(String clause, int what, int least, int most) {
        PenSchool x = new PenSchool();
        int place = clause.length() + 1;
        for (int n = least; n <= most; n++) {
            Check.due(clause + " " + n, Check.system(x, clause + " " + n + ";"), 1);
            Check.due("rule(" + what + ")", x.rule(what), n);
            x = n % 20 == 0 ? new PenSchool() : x;
        }
        Check.due(clause + " " + most, Check.system(x, clause + " " + most + ";"), 1);
        for (int n : new int[] {least - 1, most + 1, most + 2, 999, 1000, 9999}) {
            if (n >= 0) {
                Check.fault(x, clause + " " + n + ";", true, RANGE, place);
            }
        }
        Check.fault(x, clause + " 10000;", true, SYNTAX, place);
        Check.fault(x, clause + " -1;", true, SYNTAX, place);
        Check.fault(x, clause + ";", true, SYNTAX, place - 1);
        Check.due("the SYSTEM stays", x.rule(what), most);
    }

    private static void numbers() {
        Check.says("length, turn 0 .. 9; lift 0 .. 99; sharp 0 .. 4; phrase 1 .. 8.");
        number("length", 1, 0, 9);
        number("turn", 2, 0, 9);
        number("lift", 3, 0, 99);
        number("sharp", 4, 0, 4);
        number("phrase", 6, 1, 8);
    }

    private static void vowelRows() {
        Check.says("of vowels 1 .. 5 SOUNDS");
        PenSchool x = new PenSchool();
        String row = "ponmlkjihgfedcba";
        for (int n = 1; n <= 5; n++) {
            Check.due(n + " vowels", Check.system(x, "vowels " + row.substring(0, n) + ";"), 1);
            Check.due("rule(0)", x.rule(0), n);
            for (int i = 0; i < n; i++) {
                Check.due("rule(" + (10 + i) + ")", x.rule(10 + i), 15 - i);
            }
            Check.due("behind the last", x.rule(10 + n), ABSENT);
        }
        for (int n = 6; n <= 12; n++) {
            Check.fault(x, "vowels " + row.substring(0, n) + ";", true, RANGE, 7);
        }
        Check.fault(x, "vowels;", true, SYNTAX, 6);
        Check.due("the SYSTEM stays", x.rule(0), 5);
    }

    private static void vowelsTwice() {
        Check.says("a ROW of vowels, of a SIGN, that is too long, or in which a vowel is told twice");
        PenSchool x = new PenSchool();
        for (String row : new String[] {"aa", "aba", "abb", "abcda", "abcdd", "pop", "bccde"}) {
            Check.fault(x, "vowels " + row + ";", true, RANGE, 7);
        }
        Check.due("no vowels", x.rule(0), 0);
    }

    private static void signRows() {
        Check.says("a ROW of 1 .. 4 SOUNDS");
        PenSchool x = new PenSchool();
        for (int n = 1; n <= 4; n++) {
            Check.due(n + " SOUNDS", Check.system(x, "sign " + "ponm".substring(0, n) + " 0 1;"), 1);
            Check.due("sign(0, 2)", x.sign(0, 2), n);
            for (int i = 0; i < n; i++) {
                Check.due("sign(0, " + (10 + i) + ")", x.sign(0, 10 + i), 15 - i);
            }
            Check.due("behind the last", x.sign(0, 10 + n), ABSENT);
        }
        for (int n = 5; n <= 12; n++) {
            Check.fault(x, "sign " + "p".repeat(n) + " 0 1;", true, RANGE, 5);
        }
        Check.fault(x, "sign 0 1;", true, SYNTAX, 5);
        Check.due("one SOUND four times", Check.system(x, "vowels p;sign pppp 0 1;"), 2);
    }

    private static void ways() {
        Check.says("a WAY 0 .. 7");
        PenSchool x = new PenSchool();
        for (int way = 0; way <= 7; way++) {
            Check.due("WAY " + way, Check.system(x, "sign a " + way + " 1;"), 1);
            Check.due("sign(0, 0)", x.sign(0, 0), way);
        }
        for (int way : new int[] {8, 9, 10, 9999}) {
            Check.fault(x, "sign a " + way + " 1;", true, RANGE, 7);
        }
        Check.fault(x, "sign a -1 1;", true, SYNTAX, 7);
    }

    private static void lengths() {
        Check.says("a LENGTH 1 .. 3");
        PenSchool x = new PenSchool();
        for (int length = 1; length <= 3; length++) {
            Check.due("LENGTH " + length, Check.system(x, "sign a 0 " + length + ";"), 1);
            Check.due("sign(0, 1)", x.sign(0, 1), length);
        }
        for (int length : new int[] {0, 4, 5, 9999}) {
            Check.fault(x, "sign a 0 " + length + ";", true, RANGE, 9);
        }
    }

    private static void sounds() {
        Check.says("ROW: a WORD of letters a .. p alone.");
        for (char c = 'a'; c <= 'z'; c++) {
            PenSchool x = new PenSchool();
            boolean isSound = c <= 'p';
            Check.due("vowels " + c, Check.system(x, "vowels " + c + ";"), isSound ? 1 : NONE);
            Check.due("fault(0)", x.fault(0), isSound ? 0 : SYNTAX);
            Check.due("rule(10)", x.rule(10), isSound ? c - 'a' : ABSENT);
            Check.due("sign b" + c, Check.system(x, "sign b" + c + " 0 1;"), isSound ? 1 : NONE);
            Check.due("fault(1)", x.fault(1), isSound ? NONE : 5);
            Check.due("sign(0, 11)", x.sign(0, 11), isSound ? c - 'a' : ABSENT);
        }
    }

    private static void thirtySigns() {
        Check.says("4 ROOM: the 31st sign, at its first WORD");
        PenSchool x = new PenSchool();
        for (int n = 29; n <= 30; n++) {
            Check.due(n + " SIGNS", Check.system(x, Check.manySigns(n)), n);
            Check.due("rule(7)", x.rule(7), n);
            Check.due("the last", x.sign(n - 1, 11), (n - 1) % 16);
            Check.due("behind it", x.sign(n, 0), ABSENT);
        }
        String thirty = Check.manySigns(30) + "\n";
        for (String more : new String[] {"sign", "sign pp 0 1;", "sign aa 0 1;", "sign q", "sign ppppp 9 9;", "sign;"}) {
            Check.fault(x, thirty + more, true, ROOM, thirty.length());
        }
        Check.fault(x, thirty + "signs", true, SYNTAX, thirty.length());
        Check.due("the SYSTEM stays", x.rule(7), 30);
        Check.due("clauses that are no SIGN", Check.system(x, thirty + "turn 2;"), 31);
    }

    private static void longestSigns() {
        Check.says("(at most 30): a ROW of 1 .. 4 SOUNDS");
        StringBuilder text = new StringBuilder();
        for (int s = 0; s < 30; s++) {
            text.append("sign ").append(Check.pair(s)).append(Check.pair(255 - s)).append(" 7 3;");
        }
        PenSchool x = new PenSchool();
        Check.due("thirty SIGNS of four SOUNDS", Check.system(x, text.toString()), 30);
        for (int s = 0; s < 30; s++) {
            Check.due("sign(" + s + ", 10)", x.sign(s, 10), s / 16);
            Check.due("sign(" + s + ", 13)", x.sign(s, 13), (255 - s) % 16);
            Check.due("sign(" + s + ", 14)", x.sign(s, 14), ABSENT);
        }
        Check.due("its last one is drawn", Check.term(x, Check.pair(29) + Check.pair(226), 1), 0);
        Check.due("about(0, 10)", x.about(0, 10), 29);
    }

    private static void twice() {
        Check.says("3 TWICE: a clause's first WORD that was told already (but sign)");
        PenSchool x = new PenSchool();
        String[] clauses = {"vowels a", "length 1", "turn 1", "lift 1", "sharp 1", "drop all", "phrase 1"};
        for (String clause : clauses) {
            String first = clause + ";sign a 0 1; ";
            String word = clause.substring(0, clause.indexOf(' '));
            Check.fault(x, first + clause + ";", true, TWICE, first.length());
            Check.fault(x, first + word, true, TWICE, first.length());
            Check.fault(x, first + word + " 9999;", true, TWICE, first.length());
            Check.due("once", Check.system(x, first), 2);
        }
        Check.due("sign", Check.system(x, "sign a 0 1; sign b 0 1; sign c 0 1;"), 3);
        Check.due("all once", Check.system(x, String.join(";", clauses) + ";"), 7);
    }

    private static void rowsTwice() {
        Check.says("a SIGN's ROW that one has");
        PenSchool x = new PenSchool();
        String many = Check.manySigns(29);
        for (int i : new int[] {0, 1, 27, 28}) {
            Check.fault(x, many + "sign " + Check.pair(i) + " 9 9;", true, TWICE, many.length() + 5);
        }
        Check.due("one that none has", Check.system(x, many + "sign " + Check.pair(29) + " 7 3;"), 30);
        Check.due("ROWS that begin or end alike", Check.system(x,
                "sign abc 0 1;sign ab 0 1;sign bc 0 1;sign a 0 1;sign abcd 0 1;sign cba 0 1;"), 6);
        Check.due("a vowel's ROW", Check.system(x, "vowels a;sign a 0 1;"), 2);
    }

    private static void firstFault() {
        Check.says("the first come to as TOKENS are read one by one");
        PenSchool x = new PenSchool();
        Check.fault(x, "turn 10; turn 1; ?", true, RANGE, 5);
        Check.fault(x, "turn 1; turn 10; ?", true, TWICE, 8);
        Check.fault(x, "turn 1 ? turn 10;", true, SYNTAX, 7);
        Check.fault(x, "sign a 8 4;", true, RANGE, 7);
        Check.fault(x, "sign a 7 4 ?", true, RANGE, 9);
        Check.fault(x, "sign abcde 8 4;", true, RANGE, 5);
        Check.fault(x, "sign a 0 1; sign a 8 4;", true, TWICE, 17);
        Check.fault(x, "vowels aa ?", true, RANGE, 7);
        Check.fault(x, "vowels a b; vowels", true, SYNTAX, 9);
    }

    private static void leastKind() {
        Check.says("of one TOKEN the least KIND");
        PenSchool x = new PenSchool();
        Check.fault(x, "vowels abcdefq;", true, SYNTAX, 7);
        Check.fault(x, "vowels aaq;", true, SYNTAX, 7);
        Check.fault(x, "sign abcdq 0 1;", true, SYNTAX, 5);
        Check.fault(x, "vowels aaaaaa;", true, RANGE, 7);
        Check.fault(x, "lift 00100;", true, SYNTAX, 5);
    }

    private static void textEnds() {
        Check.says("PLACE (a TOKEN's first byte; the text's length at its end)");
        PenSchool x = new PenSchool();
        for (String text : new String[] {"turn", "turn 1", "sign", "sign a", "sign a 0", "sign a 0 1", "vowels",
            "vowels a", "drop", "drop all", "phrase 1;lift"}) {
            Check.fault(x, text, true, SYNTAX, text.length());
            Check.fault(x, text + " \n ", true, SYNTAX, text.length() + 3);
            x = new PenSchool();
        }
        Check.fault(x, "  \n turm 1;", true, SYNTAX, 4);
        Check.fault(x, "turn 1" + " ".repeat(794), true, SYNTAX, 800);
        Check.fault(x, " ".repeat(799) + ";", true, SYNTAX, 799);
    }

    private static void clauses() {
        Check.says("THE TAPE is the SYSTEM: how many clauses");
        PenSchool x = new PenSchool();
        Check.due("none", Check.system(x, ""), 0);
        Check.due("blanks", Check.system(x, " \n"), 0);
        Check.due("one", Check.system(x, "drop none;"), 1);
        Check.due("all there can be", Check.system(x, Check.manySigns(30)
                + "vowels a;length 1;turn 1;lift 1;sharp 1;drop all;phrase 1;"), 37);
        Check.fault(x, ";", true, SYNTAX, 0);
        Check.fault(x, "turn 1;;", true, SYNTAX, 7);
    }

    private static void drops() {
        Check.says("drop (0 none, 1 inner, 2 all)");
        PenSchool x = new PenSchool();
        String[] words = {"none", "inner", "all"};
        for (int i = 0; i < words.length; i++) {
            Check.due("drop " + words[i], Check.system(x, "drop " + words[i] + ";"), 1);
            Check.due("rule(5)", x.rule(5), i);
        }
        for (String word : new String[] {"al", "alls", "inne", "inners", "non", "nones", "a", "drop"}) {
            Check.fault(x, "drop " + word + ";", true, SYNTAX, 5);
        }
        Check.fault(x, "drop 0;", true, SYNTAX, 5);
        Check.fault(x, "drop;", true, SYNTAX, 4);
        Check.due("the SYSTEM stays", x.rule(5), 2);
    }

    private static void faultAsked() {
        Check.says("its FAULT's KIND, 0 without (and ahead of any), 1: its PLACE (NONE). NONE for another what.");
        PenSchool x = new PenSchool();
        Check.due("fault(0) ahead of any", x.fault(0), 0);
        Check.due("fault(1) ahead of any", x.fault(1), NONE);
        Check.fault(x, "turn 1;turn", true, TWICE, 7);
        for (int what : new int[] {-1, 2, 3, Integer.MIN_VALUE, Integer.MAX_VALUE}) {
            Check.due("fault(" + what + ")", x.fault(what), NONE);
        }
        Check.due("policy()", Check.policy(x, ""), 0);
        Check.due("fault(0) of a policy() without", x.fault(0), 0);
        Check.due("fault(1) of a policy() without", x.fault(1), NONE);
        Check.fault(x, "when mind is 1 do rest 51;", false, RANGE, 23);
        Check.due("system()", Check.system(x, ""), 0);
        Check.due("fault(0) of a system() without", x.fault(0), 0);
        Check.due("fault(1) of a system() without", x.fault(1), NONE);
    }

    private static void ruleAsked() {
        Check.says("10 + i: the i-th vowel (0 .. 15). -9 when there is none such.");
        for (int n = 0; n <= 5; n++) {
            PenSchool x = Check.school(n == 0 ? "" : "vowels " + "apbod".substring(0, n) + ";");
            for (int i = 0; i < 7; i++) {
                Check.due("rule(" + (10 + i) + ") of " + n, x.rule(10 + i), i < n ? "apbod".charAt(i) - 'a' : ABSENT);
            }
            for (int what : new int[] {-1, 8, 9, 10 + n, Integer.MIN_VALUE, Integer.MAX_VALUE}) {
                Check.due("rule(" + what + ") of " + n, x.rule(what), ABSENT);
            }
        }
    }

    private static void signAsked() {
        Check.says("Of SIGN s, what 0: WAY, 1: LENGTH, 2: how many SOUNDS; 10 + i: SOUND i. -9 when there is none such.");
        PenSchool x = Check.school("sign a 0 1;sign po 3 2;sign cde 7 3;sign ffff 4 1;");
        for (int s : new int[] {-1, 4, 29, 30, Integer.MIN_VALUE, Integer.MAX_VALUE}) {
            for (int what : new int[] {0, 1, 2, 10, 13}) {
                Check.due("sign(" + s + ", " + what + ")", x.sign(s, what), ABSENT);
            }
        }
        for (int s = 0; s < 4; s++) {
            Check.due("sign(" + s + ", 2)", x.sign(s, 2), s + 1);
            Check.holds("its last SOUND", x.sign(s, 10 + s) >= 0);
            for (int what : new int[] {-1, 3, 9, 11 + s, 14, Integer.MIN_VALUE, Integer.MAX_VALUE}) {
                Check.due("sign(" + s + ", " + what + ")", x.sign(s, what), ABSENT);
            }
        }
    }
}
