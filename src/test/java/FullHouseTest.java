/** Every room filled to the brim (30 SIGNS, 60 TERMS, 12 CANDIDATES, 60 spoken), held against PlainSchool. */
public final class FullHouseTest {
    private final PenSchool x = new PenSchool();
    private final PlainSchool plain = new PlainSchool();

    private FullHouseTest() {
    }

    public static void main(String[] args) {
        new FullHouseTest().play();
        longestTexts();
        longestOutlines();
        Check.finish("FullHouseTest");
    }

    private void tape(String text) {
        Check.tape(x, text);
        plain.tape.setLength(0);
        plain.tape.append(text);
    }

    private void play() {
        StringBuilder text = new StringBuilder("vowels ponml;");
        for (int s = 0; s < 30; s++) {
            text.append("sign ").append(s < 16 ? "" + (char) ('a' + s) : Check.pair(s - 16));
            text.append(' ').append(s * 3 % 8).append(' ').append(1 + s / 8 % 3).append(';');
        }
        tape(text.append("sharp 2;phrase 2;").toString());
        Check.due("system()", x.system(), plain.system());
        for (int t = 0; t < 60; t++) {
            tape(t == 59 ? "ponmlkjihg" : Check.pair(t * 4 + t % 3));
            Check.due("term " + t, x.term(t + 1), plain.term(t + 1));
        }
        for (int i = 0; i < 12; i++) {
            tape("" + (char) ('A' + 29 - i) + (i % 2 == 0 ? "^]" : ""));
            Check.due("candidate " + i, x.candidate(i < 6 ? i : 65 - i), plain.candidate(i < 6 ? i : 65 - i));
        }
        tellTerms();
        Check.due("choose(12)", x.choose(12), plain.choose(12));
        Check.due("chosen()", x.chosen(), plain.chosen());
        Check.due("chosen some", Integer.bitCount(x.chosen()) > 3 ? 1 : 0, 1);
        Check.due("saves", x.saves(x.chosen()), plain.saves(plain.chosen()));
        passage();
        Check.due("adopt", x.adopt(x.chosen()), plain.adopt(plain.chosen()));
        tellTerms();
        passage();
    }

    private void tellTerms() {
        for (int t = 0; t < 60; t++) {
            for (int what = 0; what < 61; what++) {
                Check.due("about(" + t + ", " + what + ")", x.about(t, what), plain.about(t, what));
            }
            Check.due("alike(" + t + ")", x.alike(t), plain.alike(t));
        }
        for (int what = 0; what < 9; what++) {
            Check.due("count(" + what + ")", x.count(what), plain.count(what));
        }
    }

    private void passage() {
        x.clear();
        plain.clear();
        for (int i = 0; i < 60; i++) {
            int t = (i * 7 + 11) % 60;
            Check.due("say(" + t + ")", x.say(t), plain.say(t));
            if (i % 3 == 1) {
                int before = (i * 7 + 4) % 60;
                Check.due("joins", x.joins(before, t, true), plain.joins(before, t, true));
                Check.due("beside", x.beside(before, t, 999), plain.beside(before, t, 999));
            }
        }
        Check.due("phrased()", x.phrased(), plain.phrased());
        for (int i = 0; i < 62; i++) {
            Check.due("phrase(" + (10 + i) + ")", x.phrase(10 + i), plain.phrase(10 + i));
        }
        Check.due("phrases", x.phrase(0), plain.phrase(0));
        dictation(99, 20);
        Check.due("all are noted", x.taken(0), 60);
        dictation(1, 20);
        dictation(7, 1);
    }

    private void dictation(int pace, int mind) {
        Check.due("dictate(" + pace + ", " + mind + ")", x.dictate(pace, mind), plain.dictate(pace, mind));
        for (int what = 0; what < 6; what++) {
            Check.due("taken(" + what + ")", x.taken(what), plain.taken(what));
        }
        for (int i = 0; i < 61; i++) {
            for (int what = 0; what < 21; what++) {
                Check.due("note(" + i + ", " + what + ")", x.note(i, what), plain.note(i, what));
            }
            for (int t = 0; t < 61; t++) {
                Check.due("reads(" + i + ", " + t + ")", x.reads(i, t), plain.reads(i, t));
            }
        }
        Check.holds("not too many readings", plain.readings() < 100000);
        Check.due("readBack()", x.readBack(), plain.readBack());
        for (int i = 0; i < 61; i++) {
            Check.due("back(" + i + ")", x.back(i), plain.back(i));
        }
        Check.due("wrong()", x.wrong(), plain.wrong());
        Check.due("lessons", x.lessons(7 << 27 | 1), plain.lessons(7 << 27 | 1));
        for (int i = 0; i < 5; i++) {
            Check.due("lesson(" + i + ")", x.lesson(i), plain.lesson(i));
        }
    }

    private static void longestTexts() {
        PenSchool x = new PenSchool();
        StringBuilder text = new StringBuilder(Check.manySigns(30));
        text.append("vowels abcde;length 1;turn 1;lift 1;sharp 1;drop all;phrase 1;");
        while (text.length() < 800) {
            text.append('\n');
        }
        Check.due("a system of 800 bytes", Check.system(x, text.toString()), 37);
        Check.fault(x, text.substring(0, 799) + "x", true, 1, 799);
        Check.fault(x, text.substring(0, 799) + "0", true, 1, 799);
        Check.fault(x, "z".repeat(800), true, 1, 0);
        Check.fault(x, "turn " + "9".repeat(795), true, 1, 5);
        Check.fault(x, "turn 1" + " ".repeat(794), true, 1, 800);
        Check.fault(x, "when mind is 1" + " ".repeat(786), false, 1, 800);
        Check.due("800 letters are no row", Check.term(x, "a".repeat(800), 1), PenSchool.NONE);
        Check.due("800 signs are no brief", Check.candidate(x, 0, "A".repeat(800)), PenSchool.RANGE);
    }

    private static void longestOutlines() {
        PenSchool x = Check.school("sign p 0 3; sign o 4 3; length 9; lift 99; sharp 0;");
        for (int t = 0; t < 60; t++) {
            StringBuilder row = new StringBuilder("popopopopo");
            row.setLength(4 + t % 7);
            Check.term(x, row.toString(), 9999);
        }
        Check.due("seven terms", x.count(0), 7);
        Check.due("ten signs", x.about(6, 4), 10);
        Check.due("their cost", x.about(6, 5), 10 * 27 + 9 * 99);
        Check.due("their lifts", x.about(6, 8), 9);
        for (int i = 0; i < 60; i++) {
            x.say(6);
        }
        x.beside(6, 6, 999);
        Check.due("phrased()", x.phrased(), 60 * 1161 + 59 * 99);
        Check.due("dictate(1, 20)", x.dictate(1, 20), 21 * 1161);
        Check.due("late", x.taken(4), 20 * 1161 - 20);
        Check.due("dictate(99, 20)", x.dictate(99, 20), x.taken(0) * 1161);
        Check.due("readBack()", x.readBack(), x.taken(0) * 9999 + (x.taken(0) - 1) * 999);
        Check.due("wrong()", x.wrong(), 60 - x.taken(0));
        Check.due("lessons(3)", x.lessons(3), 7 * 9999);
        for (int i = 0; i < 12; i++) {
            Check.candidate(x, i % 7, i < 7 ? "AAA".substring(i % 3) : "AB");
        }
        Check.due("choose(12)", x.choose(12) > 0 ? 1 : 0, 1);
    }
}
