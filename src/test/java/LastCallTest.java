/** An object is used for at most 512 calls after it has been made: the last of them is answered like the first. */
public final class LastCallTest {
    private static final int CALLS = 512;

    private int made;
    private final PenSchool x = new PenSchool();

    private LastCallTest() {
    }

    public static void main(String[] args) {
        Check.says("An object is used for at most 512 calls after it has been made");
        new LastCallTest().oneMatter();
        new LastCallTest().allMatters();
        Check.finish("LastCallTest");
    }

    private void due(String call, int got, int want) {
        made++;
        Check.due("call " + made + ", " + call, got, want);
    }

    /** Twenty bytes, from the text and blanks behind it. */
    private void feed(String text, int size) {
        int[] w = new int[5];
        for (int i = 0; i < 20; i++) {
            w[i / 4] = w[i / 4] << 8 | (i < text.length() ? text.charAt(i) : ' ');
        }
        due("feed of " + text, x.feed(w[0], w[1], w[2], w[3], w[4]), size);
    }

    private void oneMatter() {
        while (made < CALLS) {
            due("mark", x.mark(0, 0, 1, 0, 0), made < 100 ? made : PenSchool.FULL);
        }
        Check.due("calls", made, CALLS);
    }

    private void allMatters() {
        int round = 0;
        while (made < CALLS - 14) {
            feed("sign a 0 1; sign b 0", 20);
            feed(" 2; lift " + round % 100 + ";", 40);
            due("system()", x.system(), 3);
            due("rule(3)", x.rule(3), round % 100);
            feed("ab", 20);
            due("term(1)", x.term(1), round == 0 ? 0 : PenSchool.STATE);
            due("clear()", x.clear(), round == 0 ? 0 : 1);
            due("say(0)", x.say(0), 1);
            due("phrased()", x.phrased(), 6);
            due("dictate(1, 1)", x.dictate(1, 1), 6);
            due("readBack()", x.readBack(), 1);
            due("wrong()", x.wrong(), 0);
            due("lessons(3)", x.lessons(3), 1);
            round++;
        }
        while (made < CALLS) {
            due("dictate(1, 1)", x.dictate(1, 1), 6);
        }
    }
}
