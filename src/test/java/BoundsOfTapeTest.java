/** Where the document bounds THE TAPE and its TOKENS: Terms I, promises 2 and 3. */
public final class BoundsOfTapeTest {
    private static final int NONE = PenSchool.NONE;
    private static final int FULL = PenSchool.FULL;

    private BoundsOfTapeTest() {
    }

    public static void main(String[] args) {
        order();
        full();
        refusedFeedLeavesTheTape();
        cut();
        refusedEndLeavesTheTape();
        emptiedBySystem();
        emptiedByPolicy();
        emptiedByTerm();
        emptiedByCandidate();
        notEmptiedByOthers();
        blanks();
        everyByteAlone();
        everyByteBetween();
        longWords();
        longNumbers();
        Check.finish("BoundsOfTapeTest");
    }

    private static int word(String four) {
        return four.charAt(0) << 24 | four.charAt(1) << 16 | four.charAt(2) << 8 | four.charAt(3);
    }

    private static int feedBlanks(PenSchool x) {
        int four = word("    ");
        return x.feed(four, four, four, four, four);
    }

    private static PenSchool blankTape(int n) {
        PenSchool x = new PenSchool();
        for (int size = 0; size < n; size += 20) {
            Check.due("feed behind " + size, feedBlanks(x), size + 20);
        }
        Check.due("end(" + n + ")", x.end(n), n);
        return x;
    }

    private static void isRow(PenSchool x, String row) {
        Check.due("term of " + row, x.term(1), 0);
        Check.due("sounds of " + row, x.about(0, 1), row.length());
        for (int i = 0; i < row.length(); i++) {
            Check.due("sound " + i + " of " + row, x.about(0, 50 + i), row.charAt(i) - 'a');
        }
    }

    private static void order() {
        Check.says("Twenty bytes come behind THE TAPE, the highest of each int first: how many it has");
        String row = "ponmlkjihg";
        for (int ahead = 0; ahead <= 10; ahead++) {
            String text = " ".repeat(ahead) + row + " ".repeat(10 - ahead);
            PenSchool x = new PenSchool();
            Check.due("feed", x.feed(word(text), word(text.substring(4)), word(text.substring(8)),
                    word(text.substring(12)), word(text.substring(16))), 20);
            isRow(x, row);
        }
        PenSchool x = new PenSchool();
        Check.due("bytes of 255", x.feed(-1, -1, -1, -1, -1), 20);
        Check.due("they are no ROW", x.term(1), NONE);
        int four = word("    ");
        Check.due("a byte with its highest bit", x.feed(word("a   ") | 128 << 24, four, four, four, four), 20);
        Check.due("it is no letter", x.term(1), NONE);
    }

    private static void full() {
        Check.says("FULL when there would be more than 800");
        for (int size : new int[] {0, 20, 779, 780}) {
            Check.due("feed behind " + size, feedBlanks(blankTape(size)), size + 20);
        }
        for (int size : new int[] {781, 782, 799, 800}) {
            PenSchool x = blankTape(size);
            Check.due("feed behind " + size, feedBlanks(x), FULL);
            Check.due("count(6)", x.count(6), size);
        }
    }

    private static void refusedFeedLeavesTheTape() {
        Check.says("FULL when there would be more than 800");
        PenSchool x = blankTape(780);
        x.end(779);
        int four = word("    ");
        x.feed(word("abc "), four, four, four, four);
        Check.due("end(782)", x.end(782), 782);
        Check.due("feed", x.feed(word("dddd"), four, four, four, four), FULL);
        Check.due("again", x.feed(word("dddd"), four, four, four, four), FULL);
        Check.due("count(6)", x.count(6), 782);
        isRow(x, "abc");
    }

    private static void cut() {
        Check.says("THE TAPE has its first n bytes alone: n");
        for (int n : new int[] {1, 2, 9, 10}) {
            PenSchool x = Check.tape(new PenSchool(), "abcdefghij          ");
            Check.due("end(" + n + ")", x.end(n), n);
            Check.due("count(6)", x.count(6), n);
            isRow(x, "abcdefghij".substring(0, n));
        }
        PenSchool x = Check.tape(new PenSchool(), "abcdefghij");
        Check.due("end(3)", x.end(3), 3);
        int four = word("    ");
        Check.due("feed behind 3", x.feed(word("pppp"), word("on  "), four, four, four), 23);
        isRow(x, "abcppppon");
        Check.due("end(0)", x.end(0), 0);
        Check.due("an empty TAPE is no ROW", x.term(1), NONE);
    }

    private static void refusedEndLeavesTheTape() {
        Check.says("NONE when it has not so many, or n is below 0");
        for (int size : new int[] {0, 1, 20, 799, 800}) {
            PenSchool x = blankTape(size);
            for (int n : new int[] {size + 1, size + 20, Integer.MAX_VALUE, -1, -20, Integer.MIN_VALUE}) {
                Check.due("end(" + n + ") of " + size, x.end(n), NONE);
                Check.due("count(6)", x.count(6), size);
            }
            Check.due("end(" + size + ") of " + size, x.end(size), size);
            Check.due("end(0) of " + size, x.end(0), 0);
        }
        PenSchool x = Check.tape(new PenSchool(), "abc");
        x.end(4);
        x.end(-1);
        isRow(x, "abc");
    }

    private static void isEmpty(PenSchool x, String call, int got, int want) {
        Check.due(call, got, want);
        Check.due("count(6) behind " + call, x.count(6), 0);
    }

    private static void emptiedBySystem() {
        Check.says("each call that reads it empties it, whatever it tells");
        PenSchool x = new PenSchool();
        isEmpty(x, "system()", Check.system(x, "turn 1;"), 1);
        isEmpty(x, "system() of blanks", Check.system(x, "   "), 0);
        isEmpty(x, "system() with SYNTAX", Check.system(x, "?  "), NONE);
        isEmpty(x, "system() with RANGE", Check.system(x, "turn 10;"), NONE);
        isEmpty(x, "system() with TWICE", Check.system(x, "turn 1;turn 1;"), NONE);
        isEmpty(x, "system() with ROOM", Check.system(x, Check.manySigns(31)), NONE);
    }

    private static void emptiedByPolicy() {
        PenSchool x = new PenSchool();
        String line = "when mind is 1 do drop;";
        isEmpty(x, "policy()", Check.policy(x, line), 1);
        isEmpty(x, "policy() of blanks", Check.policy(x, "   "), 0);
        isEmpty(x, "policy() with SYNTAX", Check.policy(x, "?  "), NONE);
        isEmpty(x, "policy() with RANGE", Check.policy(x, "when mind is 1 do rest 51;"), NONE);
        isEmpty(x, "policy() with ROOM", Check.policy(x, line.repeat(9)), NONE);
    }

    private static void emptiedByTerm() {
        PenSchool x = new PenSchool();
        isEmpty(x, "term()", Check.term(x, "a", 1), 0);
        isEmpty(x, "term() RANGE", Check.term(x, "b", 0), PenSchool.RANGE);
        isEmpty(x, "term() NONE", Check.term(x, "q", 1), NONE);
        isEmpty(x, "term() STATE", Check.term(x, "a", 1), PenSchool.STATE);
        for (int i = 1; i < 60; i++) {
            Check.term(x, Check.pair(i), 1);
        }
        isEmpty(x, "term() FULL", Check.term(x, "b", 1), FULL);
    }

    private static void emptiedByCandidate() {
        PenSchool x = Check.school("sign a 0 1;");
        isEmpty(x, "candidate() RANGE", Check.candidate(x, 0, "A"), PenSchool.RANGE);
        Check.term(x, "a", 1);
        for (int i = 0; i < 12; i++) {
            isEmpty(x, "candidate()", Check.candidate(x, 0, "A"), i);
            isEmpty(x, "candidate() NONE", Check.candidate(x, 0, "B"), NONE);
        }
        isEmpty(x, "candidate() FULL", Check.candidate(x, 0, "A"), FULL);
    }

    private static void notEmptiedByOthers() {
        PenSchool x = Check.tape(new PenSchool(), "abc");
        x.fault(0);
        x.rule(0);
        x.choose(0);
        x.adopt(0);
        x.clear();
        x.phrased();
        x.dictate(1, 1);
        x.readBack();
        x.lessons(1);
        x.mark(0, 0, 0, 0, 0);
        Check.due("count(6) behind calls that don't read it", x.count(6), 3);
        isRow(x, "abc");
    }

    private static void blanks() {
        Check.says("TOKENS with any blanks (32, 10) between");
        PenSchool x = new PenSchool();
        Check.due("none", Check.system(x, "turn1;lift2;"), 2);
        Check.due("one", Check.system(x, "turn 1 ; lift\n2\n;"), 2);
        Check.due("many", Check.system(x, " \n ".repeat(50) + "turn" + "\n ".repeat(300) + "1 ;  "), 1);
        Check.fault(x, "tu rn 1;", true, 1, 0);
        Check.fault(x, "lift 1 0;", true, 1, 7);
        Check.due("of a POLICY", Check.policy(x, "\nwhen mind is 1and cost is 2do short\n3;"), 1);
    }

    private static void everyByteAlone() {
        Check.says("a TOKEN (or byte that is none");
        PenSchool x = new PenSchool();
        for (int b = 0; b < 256; b++) {
            String text = "" + (char) b;
            boolean isBlank = b == 32 || b == 10;
            Check.due("system() of byte " + b, Check.system(x, text), isBlank ? 0 : NONE);
            Check.due("fault(0)", x.fault(0), isBlank ? 0 : 1);
            Check.due("fault(1)", x.fault(1), isBlank ? NONE : 0);
            Check.due("policy() of byte " + b, Check.policy(x, text), isBlank ? 0 : NONE);
            Check.due("fault(0)", x.fault(0), isBlank ? 0 : 1);
            x = b % 20 == 0 ? new PenSchool() : x;
        }
    }

    private static void everyByteBetween() {
        for (int b = 0; b < 256; b++) {
            String text = "turn" + (char) b + "1;";
            PenSchool x = new PenSchool();
            boolean isLetter = b >= 'a' && b <= 'z';
            boolean isTaken = b == 32 || b == 10 || b == '0';
            boolean isTooMuch = b >= '1' && b <= '9';
            Check.due("system() with byte " + b, Check.system(x, text), isTaken ? 1 : NONE);
            Check.due("fault(0)", x.fault(0), isTaken ? 0 : isTooMuch ? 2 : 1);
            Check.due("fault(1)", x.fault(1), isTaken ? NONE : isLetter ? 0 : 4);
        }
    }

    private static void longWords() {
        Check.says("WORDS (small letters, as many as there are, 12 at most)");
        PenSchool x = new PenSchool();
        Check.due("six letters", Check.system(x, "vowels abcde;"), 1);
        Check.fault(x, "vowels abcdefghijkl;", true, 2, 7);
        Check.fault(x, "sign abcdefghijkl 0 1;", true, 2, 5);
        Check.says("a WORD of 13 letters, an N of five digits; a ROW with another letter");
        Check.fault(x, "vowels abcdefghijklm;", true, 1, 7);
        Check.fault(x, "vowels abq;", true, 1, 7);
        Check.fault(x, "sign abq 0 1;", true, 1, 5);
        Check.fault(x, "sign ab 00000 1;", true, 1, 8);
        Check.fault(x, "sign abcdefghijklm 0 1;", true, 1, 5);
        Check.fault(x, "turn" + "s".repeat(9) + " 1;", true, 1, 0);
    }

    private static void longNumbers() {
        Check.says("N (digits, as many as there are, 4 at most)");
        PenSchool x = new PenSchool();
        Check.due("four digits", Check.system(x, "turn 0009;"), 1);
        Check.due("turn", x.rule(2), 9);
        Check.fault(x, "turn 00009;", true, 1, 5);
        Check.fault(x, "turn 9999;", true, 2, 5);
        Check.fault(x, "turn 10000;", true, 1, 5);
        Check.due("four digits of a COND", Check.policy(x, "when mind is 0001 do rest 0050;"), 1);
        Check.fault(x, "when mind is 00001 do rest 1;", false, 1, 13);
        Check.fault(x, "when mind is 1 do rest 00050;", false, 1, 23);
    }
}
