/** Where the document bounds a POLICY's text: Terms I, promises 5 and 6. */
public final class BoundsOfPolicyTest {
    private static final int NONE = PenSchool.NONE;
    private static final int SYNTAX = 1;
    private static final int RANGE = 2;
    private static final int ROOM = 4;
    private static final String LINE = "when mind is 1 do drop;";

    private BoundsOfPolicyTest() {
    }

    public static void main(String[] args) {
        lines();
        conditions();
        words();
        conditionNumbers();
        shorts();
        rests();
        firstFault();
        textEnds();
        policyStays();
        Check.finish("BoundsOfPolicyTest");
    }

    private static void lines() {
        Check.says("at most 8 lines");
        PenSchool x = new PenSchool();
        Check.due("an empty text", Check.policy(x, ""), 0);
        Check.due("blanks", Check.policy(x, "\n \n"), 0);
        for (int n = 1; n <= 8; n++) {
            Check.due(n + " lines", Check.policy(x, LINE.repeat(n)), n);
            Check.due("count(3)", x.count(3), n);
        }
        Check.says("the ninth line, at its \"when\"");
        String eight = LINE.repeat(8) + " ";
        for (String more : new String[] {"when", LINE, "when ?", "when mind is 1 do rest 51;", LINE + LINE}) {
            Check.fault(x, eight + more, false, ROOM, eight.length());
        }
        Check.fault(x, eight + "whem", false, SYNTAX, eight.length());
        Check.due("count(3)", x.count(3), 8);
    }

    private static void conditions() {
        Check.says("of at most 4 COND");
        PenSchool x = new PenSchool();
        StringBuilder line = new StringBuilder("when mind is 1");
        for (int n = 1; n <= 4; n++) {
            Check.due(n + " COND", Check.policy(x, line + " do drop;"), 1);
            line.append(" and mind is 1");
        }
        Check.says("the fifth COND, at its \"and\"");
        String four = "when mind is 1 and mind is 1 and mind is 1 and mind is 1 ";
        for (String more : new String[] {"and", "and mind is 1 do drop;", "and ?"}) {
            Check.fault(x, four + more, false, ROOM, four.length());
            Check.fault(x, LINE + four + more, false, ROOM, LINE.length() + four.length());
        }
        Check.fault(x, four + "ant", false, SYNTAX, four.length());
        Check.fault(x, "when do drop;", false, SYNTAX, 5);
        String full = four + "do drop;";
        Check.due("eight lines of four COND", Check.policy(x, full.repeat(8)), 8);
    }

    private static void words() {
        Check.says("with which no text goes on");
        PenSchool x = new PenSchool();
        for (String subject : new String[] {"mind", "late", "cost", "count", "signs"}) {
            for (String relation : new String[] {"above", "below", "is"}) {
                Check.due(subject + " " + relation, Check.policy(x, "when " + subject + " " + relation + " 1 do write;"), 1);
            }
            Check.fault(x, "when " + subject + "x is 1 do write;", false, SYNTAX, 5);
        }
        for (String word : new String[] {"sign", "above", "when", "and", "1", ";"}) {
            Check.fault(x, "when " + word + " is 1 do write;", false, SYNTAX, 5);
            Check.fault(x, "when mind " + word + "x 1 do write;", false, SYNTAX, 10);
            x = new PenSchool();
        }
        for (String act : new String[] {"write", "drop", "short 1", "rest 1"}) {
            Check.due(act, Check.policy(x, "when mind is 1 do " + act + ";"), 1);
        }
        for (String act : new String[] {"writ", "writes", "drops", "shorts 1", "rests 1", "do", "1", ";"}) {
            Check.fault(x, "when mind is 1 do " + act + ";", false, SYNTAX, 18);
        }
        Check.fault(x, "when mind is 1 do write 1;", false, SYNTAX, 24);
        Check.fault(x, "when mind is 1 do drop 1;", false, SYNTAX, 23);
        Check.fault(x, "when mind is 1 do drop;;", false, SYNTAX, 23);
        Check.fault(x, "turn 1;", false, SYNTAX, 0);
    }

    private static void conditionNumbers() {
        Check.says("COND = (\"mind\" | \"late\" | \"cost\" | \"count\" | \"signs\") (\"above\" | \"below\" | \"is\") N.");
        PenSchool x = new PenSchool();
        for (String n : new String[] {"0", "1", "9999", "0000"}) {
            Check.due("N " + n, Check.policy(x, "when late below " + n + " do write;"), 1);
        }
        Check.fault(x, "when late below 10000 do write;", false, SYNTAX, 16);
        Check.fault(x, "when late below -1 do write;", false, SYNTAX, 16);
        Check.fault(x, "when late below do write;", false, SYNTAX, 16);
    }

    private static void number(String act, int most) {
        PenSchool x = new PenSchool();
        String head = "when mind is 1 do " + act + " ";
        for (int n = 1; n <= most; n++) {
            Check.due(act + " " + n, Check.policy(x, head + n + ";"), 1);
        }
        for (int n : new int[] {0, most + 1, most + 2, 9999}) {
            Check.fault(x, head + n + ";", false, RANGE, head.length());
        }
        Check.fault(x, head + "10000;", false, SYNTAX, head.length());
        Check.fault(x, head + ";", false, SYNTAX, head.length());
        Check.fault(x, head + "1 1;", false, SYNTAX, head.length() + 2);
    }

    private static void shorts() {
        Check.says("of short 1 .. 6");
        number("short", 6);
    }

    private static void rests() {
        Check.says("of rest 1 .. 50");
        number("rest", 50);
    }

    private static void firstFault() {
        Check.says("the first come to as TOKENS are read one by one");
        PenSchool x = new PenSchool();
        Check.fault(x, "when mind is 1 do rest 51 ?", false, RANGE, 23);
        Check.fault(x, "when mind is 1 do rest ? 51;", false, SYNTAX, 23);
        Check.fault(x, "when mind is 1 do short 7; " + LINE.repeat(9), false, RANGE, 24);
        String eight = LINE.repeat(8);
        Check.fault(x, eight + "when mind is 1 do rest 51;", false, ROOM, eight.length());
    }

    private static void textEnds() {
        Check.says("PLACE (a TOKEN's first byte; the text's length at its end)");
        PenSchool x = new PenSchool();
        for (String text : new String[] {"when", "when mind", "when mind is", "when mind is 1", "when mind is 1 and",
            "when mind is 1 do", "when mind is 1 do drop", "when mind is 1 do rest", "when mind is 1 do rest 1"}) {
            Check.fault(x, text, false, SYNTAX, text.length());
            Check.fault(x, LINE + text + "\n ", false, SYNTAX, LINE.length() + text.length() + 2);
        }
    }

    private static void policyStays() {
        Check.says("THE TAPE is the POLICY: how many lines; NONE with a FAULT (the POLICY stays).");
        PenSchool x = Check.school("sign a 0 1;");
        Check.term(x, "a", 1);
        x.say(0);
        Check.due("policy()", Check.policy(x, LINE), 1);
        Check.fault(x, "when mind is 1 do write; when mind is 1 do rest 51;", false, RANGE, 48);
        Check.due("count(3)", x.count(3), 1);
        x.dictate(1, 1);
        Check.due("dropped", x.taken(2), 1);
        Check.due("an empty text", Check.policy(x, ""), 0);
        x.dictate(1, 1);
        Check.due("dropped", x.taken(2), 0);
        Check.due("noted", x.taken(0), 1);
        Check.due("system() leaves it", Check.policy(x, LINE), 1);
        Check.system(x, "sign a 0 1;");
        x.dictate(1, 1);
        Check.due("dropped", x.taken(2), 1);
        Check.due("a SYSTEM's text is none", Check.policy(x, "turn 1;"), NONE);
    }
}
