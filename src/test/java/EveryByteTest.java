/** Every text that is one byte from a good one, changed, left out, put in or cut off there: read as PlainSchool reads it. */
public final class EveryByteTest {
    private static final String[] SYSTEMS = {
        "vowels aep;sign ponm 7 3; sign b0 1;\nlift 99;sign bb 10 2;",
        "length 9 ;turn 09;drop inner;sharp 4;phrase 8;drop",
        "sign abcd 0001 3;vowels abcde;phrase 0;"};
    private static final String[] POLICIES = {
        "when mind above 9 and late below 9999do short 6;when",
        "when cost is 0 do rest 50;\n when count is 1 do drop;",
        "when signs above 1 and mind is 1 and mind is 1 and mind is 1 do write;"};

    private final boolean isSystem;
    private PenSchool x = new PenSchool();
    private PlainSchool plain = new PlainSchool();
    private int texts;

    private EveryByteTest(boolean isSystem) {
        this.isSystem = isSystem;
    }

    public static void main(String[] args) {
        Check.says("FAULTS: KIND and PLACE (a TOKEN's first byte; the text's length at its end), "
                + "the first come to as TOKENS are read one by one, of one TOKEN the least KIND");
        for (String text : SYSTEMS) {
            new EveryByteTest(true).vary(text);
        }
        for (String text : POLICIES) {
            new EveryByteTest(false).vary(text);
        }
        Check.finish("EveryByteTest");
    }

    private void vary(String text) {
        for (int at = 0; at <= text.length(); at++) {
            String ahead = text.substring(0, at);
            String behind = text.substring(at);
            read(ahead);
            for (int b = 0; b < 256; b += b < 128 ? 1 : 31) {
                read(ahead + (char) b + behind);
                read(behind.isEmpty() ? ahead : ahead + (char) b + behind.substring(1));
            }
            read(behind.isEmpty() ? ahead : ahead + behind.substring(1));
            read(behind);
        }
    }

    private void read(String text) {
        texts++;
        if (texts % 20 == 0) {
            x = new PenSchool();
            plain = new PlainSchool();
        }
        Check.tape(x, text);
        plain.tape.setLength(0);
        plain.tape.append(text);
        if (isSystem) {
            Check.due("system() of \"" + text + "\"", x.system(), plain.system());
        } else {
            Check.due("policy() of \"" + text + "\"", x.policy(), plain.policy());
        }
        Check.due("fault(0) of \"" + text + "\"", x.fault(0), plain.fault(0));
        Check.due("fault(1) of \"" + text + "\"", x.fault(1), plain.fault(1));
        Check.due("count(3) behind \"" + text + "\"", x.count(3), plain.count(3));
        Check.due("rule(7) behind \"" + text + "\"", x.rule(7), plain.rule(7));
    }
}
